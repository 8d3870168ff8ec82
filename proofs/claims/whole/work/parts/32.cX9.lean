abbrev w_X1_read (cy : Nat → ClassId) (a0 : Nat → Nat) (gd : Int32 × Int32 × (Nat → Int32) × (Nat → Int32) × (Nat → Int32) × (Nat → Int32)) : va_W := [(a0 0, .inr (2, [.int (gd.1), .int (gd.2.1), .ref (a0 1), .ref (a0 2), .ref (a0 3), .ref (a0 4)])), (a0 1, .inl (cy 1, 10, .inl (gd.2.2.1))), (a0 2, .inl (cy 1, 10, .inl (gd.2.2.2.1))), (a0 3, .inl (cy 1, 10, .inl (gd.2.2.2.2.1))), (a0 4, .inl (cy 1, 50, .inl (gd.2.2.2.2.2)))]
abbrev rm_X1_read : Room := { frames := 3, cells := 0, slots := 0, locals := 65 }
set_option maxHeartbeats 1000000 in
set_option maxRecDepth 100000 in
theorem c_X1_read (l : Launch) (dC : Nat → ClassId) (dI : Nat → Nat → Nat) (cy : Nat → ClassId) (a0 : Nat → Nat) (gd : Int32 × Int32 × (Nat → Int32) × (Nat → Int32) × (Nat → Int32) × (Nat → Int32)) (x1 : Int32) (x2 : Int32) (x3 : Int32) (sz : Nat) (R0 : Int32) (h : p_X1_read gd x1 x2 x3 = some R0) : Met l yX1_read wsX1_read rm_X1_read (va_Pc [.ref (a0 0), .int x1, .int x2, .int x3] (prC dC dI cy (w_X1_read cy a0 gd) sz)) (va_Qi (fun (r : Int32) (_ : Unit) => r = R0) (fun (_ : Unit) t => poC dC dI cy (w_X1_read cy a0 gd) t) (va_A (w_X1_read cy a0 gd) sz)) 0 0 (va_A (w_X1_read cy a0 gd) sz) := by
  refine Met.ofW (cc := cX1_read) (maxL := 4) (ret := (some .int)) (by decide) rfl ?_
  intro p e s m aa below meth c s₁ B hml hv
  obtain ⟨haa, hsz, hP, hK, hD0⟩ := hv
  have hx := B.exec
  have hb := B.bytes
  have hr := B.returns
  have hts := atoms_spec (ws := wsX1_read) B.pre
  have hown : s.vm.findClass RX1 = some m.cls := findClass_of_methodNamed B.named
  have hlocks := B.notSynchronized
  subst hsz
  have hD := hD0.self (sz := s.heap.size)
  obtain ⟨qq, hqq⟩ : ∃ qq, qq = (va_Qi (fun (r : Int32) (_ : Unit) => r = R0) (fun (_ : Unit) t => poC dC dI cy (w_X1_read cy a0 gd) t) (va_A (w_X1_read cy a0 gd) s.heap.size)) := ⟨_, rfl⟩
  rw [← hqq]
  generalize hAe : va_A (w_X1_read cy a0 gd) s.heap.size = A at hD hqq ⊢
  have hA : ∀ q : Nat, s.heap.size ≤ q → A q := fun q h => by rw [← hAe]; exact Or.inr h
  have hS : va_S A s.heap s.heap [] := va_S.rf
  have hl := lv_entry ([.ref (a0 0), .int x1, .int x2, .int x3]) (n := 4) (Nat.le_of_ble_eq_true rfl)
  have hE : entryFrame m aa 4 = F0 m 0 ((lg_sl ([.ref (a0 0), .int x1, .int x2, .int x3]) ++ List.replicate (4 - (lg_sl ([.ref (a0 0), .int x1, .int x2, .int x3])).length) Slot.unset).toArray) [] := by rw [haa]; exact lg_entry_eq m _ 4
  refine W.eq hE ?_
  generalize (lg_sl ([.ref (a0 0), .int x1, .int x2, .int x3]) ++ List.replicate (4 - (lg_sl ([.ref (a0 0), .int x1, .int x2, .int x3])).length) Slot.unset).toArray = ls at hl ⊢
  have hl : lv_has ls 4 [(0, .ref (a0 0)), (1, .int x1), (2, .int x2), (3, .int x3)] := hl
  change W p l e rm_X1_read s m aa below meth c s.heap [] 0 0 (MQ below qq aa s 0 0 A) (F0 m 0 ls [])
  have hS0 := hS
  have lk0 := hts (.methodLink RX1 36 Lib.Math.min.name) (by decide +kernel)
  have lk1 := hts (.static Lib.Math.min.name) (by decide +kernel)
  have lk2 := hts (.initialized "java/lang/Math") (by decide +kernel)
  have lk3 := hts (.code Lib.Math.min.name Lib.Math.min.code 2 (some .int)) (by decide +kernel)
  obtain ⟨H, hH⟩ : ∃ H : Heap, H = s.heap := ⟨_, rfl⟩
  obtain ⟨locs, hlocs⟩ : ∃ locs : List Loc, locs = [] := ⟨_, rfl⟩
  have hS : va_S A s.heap H locs := by rw [hH, hlocs]; exact hS
  rw [← hH] at hP
  suffices hg : W p l e rm_X1_read s m aa below meth c H locs 0 0 (MQ below qq aa s 0 0 A) (F0 m 0 ls []) by subst hH; subst hlocs; exact hg
  unfold p_X1_read at h
  refine lv_aload_n hx hb dX1_read_0 rfl (lv_at hl 0 rfl) ?_
  refine lv_iload_n hx hb dX1_read_1 rfl (lv_at hl 1 rfl) ?_
  refine lv_aload_n hx hb dX1_read_2 rfl (lv_at hl 0 rfl) ?_
  refine lv_iload_n hx hb dX1_read_3 rfl (lv_at hl 1 rfl) ?_
  obtain ⟨v1, hv2, h⟩ := ok_bind h
  refine cl_vi (w2 := fun (_ : Unit) => w_X1_read cy a0 gd) (As := [.int x1]) (rest := [.int x1, .ref (a0 0)]) ⟨hx, hb, hml, hown, hts⟩ (c_X4_lengthOf l dC dI cy a0 gd x1 H.size v1 hv2) (cwV 1 hts gX1_read_X4_lengthOf rfl rfl rfl (by decide +kernel) ⟨Nat.le_of_ble_eq_true rfl, Nat.le_of_ble_eq_true rfl⟩) (va_recv hK hP (ci := 2) (q0 := 0) rfl rfl) cl_blind (cl_pre hK hP hD [0, 1, 2, 3, 4] (by decide) rfl) hP hD hS hA [0, 1, 2, 3, 4] rfl rfl hl.1 rfl (lv_room (Nat.le_of_ble_eq_true rfl)) dX1_read_4 ⟨Nat.le_of_ble_eq_true rfl, Nat.le_of_ble_eq_true rfl⟩ ⟨rfl, rfl⟩ (fun _ => updR [0, 1, 2, 3, 4] rfl) (fun r u H locs hw hP hD hS => ?_)
  have hw := hw.symm
  subst hw
  have hP : va_P (dC, dI) vwCl (w_X1_read cy a0 gd) H := hP
  have hD : va_D A (w_X1_read cy a0 gd) := hD
  refine lv_iconst (v := (1 : Int32)) hx hb dX1_read_7 (by decide) ?_
  refine lv_isub hx hb dX1_read_8 ?_
  refine lv_iload_n hx hb dX1_read_9 rfl (lv_at hl 2 rfl) ?_
  refine lv_isub hx hb dX1_read_10 ?_
  obtain ⟨v3, hv4, h⟩ := ok_bind h
  refine cl_vi (w2 := fun (_ : Unit) => w_X1_read cy a0 gd) (As := [.int x1, .int ((v1 - (1 : Int32)) - x2)]) (rest := []) ⟨hx, hb, hml, hown, hts⟩ (c_X4_figureAt l dC dI cy a0 gd x1 ((v1 - (1 : Int32)) - x2) H.size v3 hv4) (cwV 2 hts gX1_read_X4_figureAt rfl rfl rfl (by decide +kernel) ⟨Nat.le_of_ble_eq_true rfl, Nat.le_of_ble_eq_true rfl⟩) (va_recv hK hP (ci := 2) (q0 := 0) rfl rfl) cl_blind (cl_pre hK hP hD [0, 1, 2, 3, 4] (by decide) rfl) hP hD hS hA [0, 1, 2, 3, 4] rfl rfl hl.1 rfl (lv_room (Nat.le_of_ble_eq_true rfl)) dX1_read_11 ⟨Nat.le_of_ble_eq_true rfl, Nat.le_of_ble_eq_true rfl⟩ ⟨rfl, rfl⟩ (fun _ => updR [0, 1, 2, 3, 4] rfl) (fun r u H locs hw hP hD hS => ?_)
  have hw := hw.symm
  subst hw
  have hP : va_P (dC, dI) vwCl (w_X1_read cy a0 gd) H := hP
  have hD : va_D A (w_X1_read cy a0 gd) := hD
  refine lv_iload_n hx hb dX1_read_14 rfl (lv_at hl 3 rfl) ?_
  refine lv_iconst (v := (1 : Int32)) hx hb dX1_read_15 (by decide) ?_
  refine lv_isub hx hb dX1_read_16 ?_
  refine va_mmin hx hb (by rw [hml]; exact hl.1.symm) hown lk0 lk1 lk2 lk3 (Nat.le_of_ble_eq_true rfl) (Nat.le_of_ble_eq_true rfl) (Nat.le_of_ble_eq_true rfl) (Nat.le_of_ble_eq_true rfl) dX1_read_17 ?_
  exact W.iret (v := (if (x3 - (1 : Int32)) < v3 then (x3 - (1 : Int32)) else v3)) hx hb hr (fun t ht hW => by rw [hqq]; have hh := Option.some.inj h; exact ⟨⟨(if (x3 - (1 : Int32)) < v3 then (x3 - (1 : Int32)) else v3), (()), rfl, Option.some.inj h, by rw [ht]; exact hP, va_K.moved hW.alike hK⟩, hS.F ht⟩) hS.2.2 dX1_read_20

abbrev w_X1_add (cy : Nat → ClassId) (a0 : Nat → Nat) (a1 : Nat → Nat) (gcs_0 : Int32 × Int32 × (Nat → Int32)) (gd_1 : Int32 × Int32 × (Nat → Int32) × (Nat → Int32) × (Nat → Int32) × (Nat → Int32)) : va_W := [(a0 0, .inr (0, [.int (gcs_0.1), .int (gcs_0.2.1), .ref (a0 1)])), (a0 1, .inl (cy 1, 6, .inl (gcs_0.2.2))), (a1 0, .inr (2, [.int (gd_1.1), .int (gd_1.2.1), .ref (a1 1), .ref (a1 2), .ref (a1 3), .ref (a1 4)])), (a1 1, .inl (cy 1, 10, .inl (gd_1.2.2.1))), (a1 2, .inl (cy 1, 10, .inl (gd_1.2.2.2.1))), (a1 3, .inl (cy 1, 10, .inl (gd_1.2.2.2.2.1))), (a1 4, .inl (cy 1, 50, .inl (gd_1.2.2.2.2.2)))]
abbrev rm_X1_add : Room := { frames := 4, cells := 0, slots := 0, locals := 88 }
set_option maxHeartbeats 1000000 in
set_option maxRecDepth 100000 in
theorem c_X1_add (l : Launch) (dC : Nat → ClassId) (dI : Nat → Nat → Nat) (cy : Nat → ClassId) (a0 : Nat → Nat) (a1 : Nat → Nat) (gcs_0 : Int32 × Int32 × (Nat → Int32)) (gd_1 : Int32 × Int32 × (Nat → Int32) × (Nat → Int32) × (Nat → Int32) × (Nat → Int32)) (x2 : Int32) (x3 : Int32) (x4 : Int32) (sz : Nat) (R0 : (Int32 × Int32 × (Nat → Int32))) (h : p_X1_add gcs_0 gd_1 x2 x3 x4 = some R0) : Met l yX1_add wsX1_add rm_X1_add (va_Pc [.ref (a0 0), .ref (a1 0), .int x2, .int x3, .int x4] (prC dC dI cy (w_X1_add cy a0 a1 gcs_0 gd_1) sz)) (va_Qv (fun (u : (Int32 × Int32 × (Nat → Int32))) => u = R0) (fun (u : (Int32 × Int32 × (Nat → Int32))) t => poC dC dI cy (w_X1_add cy a0 a1 u gd_1) t) (va_A (w_X1_add cy a0 a1 gcs_0 gd_1) sz)) 0 0 (va_A (w_X1_add cy a0 a1 gcs_0 gd_1) sz) := by
  refine Met.ofW (cc := cX1_add) (maxL := 8) (ret := none) (by decide) rfl ?_
  intro p e s m aa below meth c s₁ B hml hv
  obtain ⟨haa, hsz, hP, hK, hD0⟩ := hv
  have hx := B.exec
  have hb := B.bytes
  have hr := B.returns
  have hts := atoms_spec (ws := wsX1_add) B.pre
  have hown : s.vm.findClass RX1 = some m.cls := findClass_of_methodNamed B.named
  have hlocks := B.notSynchronized
  subst hsz
  have hD := hD0.self (sz := s.heap.size)
  obtain ⟨qq, hqq⟩ : ∃ qq, qq = (va_Qv (fun (u : (Int32 × Int32 × (Nat → Int32))) => u = R0) (fun (u : (Int32 × Int32 × (Nat → Int32))) t => poC dC dI cy (w_X1_add cy a0 a1 u gd_1) t) (va_A (w_X1_add cy a0 a1 gcs_0 gd_1) s.heap.size)) := ⟨_, rfl⟩
  rw [← hqq]
  generalize hAe : va_A (w_X1_add cy a0 a1 gcs_0 gd_1) s.heap.size = A at hD hqq ⊢
  have hA : ∀ q : Nat, s.heap.size ≤ q → A q := fun q h => by rw [← hAe]; exact Or.inr h
  have hS : va_S A s.heap s.heap [] := va_S.rf
  have hl := lv_entry ([.ref (a0 0), .ref (a1 0), .int x2, .int x3, .int x4]) (n := 8) (Nat.le_of_ble_eq_true rfl)
  have hE : entryFrame m aa 8 = F0 m 0 ((lg_sl ([.ref (a0 0), .ref (a1 0), .int x2, .int x3, .int x4]) ++ List.replicate (8 - (lg_sl ([.ref (a0 0), .ref (a1 0), .int x2, .int x3, .int x4])).length) Slot.unset).toArray) [] := by rw [haa]; exact lg_entry_eq m _ 8
  refine W.eq hE ?_
  generalize (lg_sl ([.ref (a0 0), .ref (a1 0), .int x2, .int x3, .int x4]) ++ List.replicate (8 - (lg_sl ([.ref (a0 0), .ref (a1 0), .int x2, .int x3, .int x4])).length) Slot.unset).toArray = ls at hl ⊢
  have hl : lv_has ls 8 [(0, .ref (a0 0)), (1, .ref (a1 0)), (2, .int x2), (3, .int x3), (4, .int x4)] := hl
  change W p l e rm_X1_add s m aa below meth c s.heap [] 0 0 (MQ below qq aa s 0 0 A) (F0 m 0 ls [])
  have hS0 := hS
  have lk0 := hts (.fieldLink RX1 15 "GoatDoors$ChildSum" "carries" "I") (by decide +kernel)
  have lk1 := hts (.fieldLink RX1 11 "GoatDoors$ChildSum" "figures" "[I") (by decide +kernel)
  have lk2 := hts (.fieldLink RX1 19 "GoatDoors$ChildSum" "length" "I") (by decide +kernel)
  have in_X1 : ∀ w ∈ wsX10, w ∈ wsX1_add := by decide +kernel
  have c105 : ∀ (k16 : (Int32 × Int32 × (Nat → Int32)) → Int32 → Int32 → Int32 → Int32 → Int32 → Option ((Int32 × Int32 × (Nat → Int32)))) (hk16 : ∀ (gcs_0 : Int32 × Int32 × (Nat → Int32)) (x2 : Int32) (x3 : Int32) (x4 : Int32) (x5 : Int32) (x6 : Int32) (H : Heap) (locs : List Loc) (ls : Array Slot), k16 gcs_0 x2 x3 x4 x5 x6 = some R0 → va_P (dC, dI) vwCl (w_X1_add cy a0 a1 gcs_0 gd_1) H → va_D A (w_X1_add cy a0 a1 gcs_0 gd_1) → va_S A s.heap H locs → lv_has ls 8 [(0, .ref (a0 0)), (1, .ref (a1 0)), (2, .int x2), (3, .int x3), (4, .int x4), (5, .int x5), (6, .int x6)] → W p l e rm_X1_add s m aa below meth c H locs 0 0 (MQ below qq aa s 0 0 A) (F0 m 16 ls [])), ∀ (gcs_0 : Int32 × Int32 × (Nat → Int32)) (x2 : Int32) (x3 : Int32) (x4 : Int32) (x5 : Int32) (x6 : Int32) (H : Heap) (locs : List Loc) (ls : Array Slot), p_X1_add_105 k16 gd_1 gcs_0 x2 x3 x4 x5 x6 = some R0 → va_P (dC, dI) vwCl (w_X1_add cy a0 a1 gcs_0 gd_1) H → va_D A (w_X1_add cy a0 a1 gcs_0 gd_1) → va_S A s.heap H locs → lv_has ls 8 [(0, .ref (a0 0)), (1, .ref (a1 0)), (2, .int x2), (3, .int x3), (4, .int x4), (5, .int x5), (6, .int x6)] → W p l e rm_X1_add s m aa below meth c H locs 0 0 (MQ below qq aa s 0 0 A) (F0 m 105 ls []) := by
    intro k16 hk16 gcs_0 x2 x3 x4 x5 x6 H locs ls h hP hD hS hl
    unfold p_X1_add_105 at h
    refine lv_iinc (v := (x6 + (1 : Int32))) (lv' := [(6, .int (x6 + (1 : Int32))), (0, .ref (a0 0)), (1, .ref (a1 0)), (2, .int x2), (3, .int x3), (4, .int x4), (5, .int x5)]) hx hb dX1_add_105 hl (k := 6) rfl rfl (by decide) rfl (fun ls hl => ?_)
    refine lv_goto (tgt := 16) hx hb dX1_add_108 (by decide) ?_
    exact hk16 gcs_0 x2 x3 x4 x5 (x6 + (1 : Int32)) H locs ls h hP hD hS (lv_sub hl [1, 2, 3, 4, 5, 6, 0] rfl)
  have c59 : ∀ (k16 : (Int32 × Int32 × (Nat → Int32)) → Int32 → Int32 → Int32 → Int32 → Int32 → Option ((Int32 × Int32 × (Nat → Int32)))) (hk16 : ∀ (gcs_0 : Int32 × Int32 × (Nat → Int32)) (x2 : Int32) (x3 : Int32) (x4 : Int32) (x5 : Int32) (x6 : Int32) (H : Heap) (locs : List Loc) (ls : Array Slot), k16 gcs_0 x2 x3 x4 x5 x6 = some R0 → va_P (dC, dI) vwCl (w_X1_add cy a0 a1 gcs_0 gd_1) H → va_D A (w_X1_add cy a0 a1 gcs_0 gd_1) → va_S A s.heap H locs → lv_has ls 8 [(0, .ref (a0 0)), (1, .ref (a1 0)), (2, .int x2), (3, .int x3), (4, .int x4), (5, .int x5), (6, .int x6)] → W p l e rm_X1_add s m aa below meth c H locs 0 0 (MQ below qq aa s 0 0 A) (F0 m 16 ls [])), ∀ (gcs_0 : Int32 × Int32 × (Nat → Int32)) (x2 : Int32) (x3 : Int32) (x4 : Int32) (x6 : Int32) (x7 : Int32) (t0 : Int32) (H : Heap) (locs : List Loc) (ls : Array Slot), p_X1_add_59 k16 gd_1 gcs_0 x2 x3 x4 x6 x7 t0 = some R0 → va_P (dC, dI) vwCl (w_X1_add cy a0 a1 gcs_0 gd_1) H → va_D A (w_X1_add cy a0 a1 gcs_0 gd_1) → va_S A s.heap H locs → lv_has ls 8 [(0, .ref (a0 0)), (1, .ref (a1 0)), (2, .int x2), (3, .int x3), (4, .int x4), (6, .int x6), (7, .int x7)] → W p l e rm_X1_add s m aa below meth c H locs 0 0 (MQ below qq aa s 0 0 A) (F0 m 59 ls [.int t0]) := by
    intro k16 hk16 gcs_0 x2 x3 x4 x6 x7 t0 H locs ls h hP hD hS hl
    unfold p_X1_add_59 at h
    refine lv_istore (lv' := [(5, .int t0), (0, .ref (a0 0)), (1, .ref (a1 0)), (2, .int x2), (3, .int x3), (4, .int x4), (6, .int x6), (7, .int x7)]) hx hb dX1_add_59 hl (by decide) rfl (fun ls hl => ?_)
    refine lv_aload_n hx hb dX1_add_61 rfl (lv_at hl 1 rfl) ?_
    refine lv_dup hx hb dX1_add_62 rfl ?_
    refine va_get (D := (dC, dI)) (ci := 0) (v := .int gcs_0.2.1) (C := RX1) (T := TX1) (N := 3) hx hb hts in_X1 hown hK hP 0 rfl rfl 1 (by decide) lk0 (fun _ h9 => h9) rfl dX1_add_63 ?_
    refine lv_iload hx hb dX1_add_66 (lv_at hl 0 rfl) ?_
    refine lv_iadd hx hb dX1_add_68 ?_
    refine va_put (D := (dC, dI)) (ci := 0) (v := .int (gcs_0.2.1 + t0)) (ty := .int) (C := RX1) (T := TX1) (N := 3) hx hb hts in_X1 tyX1 tyX1_ok nmX1 hown hK hP hD hS 0 rfl rfl 1 (by decide) lk0 (fun _ h9 => h9) rfl (by decide +kernel) rfl rfl (Nat.le_of_ble_eq_true rfl) dX1_add_69 (fun H locs hP hD hS => ?_)
    have hP : va_P (dC, dI) vwCl (w_X1_add cy a0 a1 ((gcs_0.1, (gcs_0.2.1 + t0), gcs_0.2.2)) gd_1) H := hP
    have hD : va_D A (w_X1_add cy a0 a1 ((gcs_0.1, (gcs_0.2.1 + t0), gcs_0.2.2)) gd_1) := hD
    refine lv_aload_n hx hb dX1_add_72 rfl (lv_at hl 1 rfl) ?_
    refine va_get (D := (dC, dI)) (ci := 0) (v := .ref (a0 1)) (C := RX1) (T := TX1) (N := 3) hx hb hts in_X1 hown hK hP 0 rfl rfl 2 (by decide) lk1 (fun _ h9 => h9) rfl dX1_add_73 ?_
    refine lv_iload hx hb dX1_add_76 (lv_at hl 6 rfl) ?_
    refine lv_iload hx hb dX1_add_78 (lv_at hl 7 rfl) ?_
    refine lv_iload hx hb dX1_add_80 (lv_at hl 0 rfl) ?_
    refine lv_iload hx hb dX1_add_82 (lv_at hl 5 rfl) ?_
    refine lv_imul hx hb dX1_add_84 ?_
    refine lv_isub hx hb dX1_add_85 ?_
    obtain ⟨hi1, h⟩ := ok_if h
    refine va_iast hx hb hK hP hD hS 1 1 rfl rfl (ix_in hi1) dX1_add_86 (fun H locs hP hD hS => ?_)
    have hP : va_P (dC, dI) vwCl (w_X1_add cy a0 a1 ((gcs_0.1, (gcs_0.2.1 + t0), (upd gcs_0.2.2 x6.toNatClampNeg (x7 - (t0 * x4))))) gd_1) H := hP
    have hD : va_D A (w_X1_add cy a0 a1 ((gcs_0.1, (gcs_0.2.1 + t0), (upd gcs_0.2.2 x6.toNatClampNeg (x7 - (t0 * x4))))) gd_1) := hD
    refine lv_aload_n hx hb dX1_add_87 rfl (lv_at hl 1 rfl) ?_
    refine va_get (D := (dC, dI)) (ci := 0) (v := .ref (a0 1)) (C := RX1) (T := TX1) (N := 3) hx hb hts in_X1 hown hK hP 0 rfl rfl 2 (by decide) lk1 (fun _ h9 => h9) rfl dX1_add_88 ?_
    refine lv_iload hx hb dX1_add_91 (lv_at hl 6 rfl) ?_
    obtain ⟨hi2, h⟩ := ok_if h
    refine va_iald hx hb hK hP 1 1 rfl rfl (ix_in hi2) dX1_add_93 ?_
    refine lv_if_eq (tgt := 105) hx hb dX1_add_94 (by decide) (fun c3 => ?_) (fun c3 => ?_)
    · rw [if_pos c3] at h
      exact c105 k16 hk16 (gcs_0.1, (gcs_0.2.1 + t0), (upd gcs_0.2.2 x6.toNatClampNeg (x7 - (t0 * x4)))) x2 x3 x4 t0 x6 H locs ls h hP hD hS (lv_sub hl [1, 2, 3, 4, 5, 0, 6] rfl)
    · rw [if_neg c3] at h
      refine lv_aload_n hx hb dX1_add_97 rfl (lv_at hl 1 rfl) ?_
      refine lv_iload hx hb dX1_add_98 (lv_at hl 6 rfl) ?_
      refine lv_iconst (v := (1 : Int32)) hx hb dX1_add_100 (by decide) ?_
      refine lv_iadd hx hb dX1_add_101 ?_
      refine va_put (D := (dC, dI)) (ci := 0) (v := .int (x6 + (1 : Int32))) (ty := .int) (C := RX1) (T := TX1) (N := 3) hx hb hts in_X1 tyX1 tyX1_ok nmX1 hown hK hP hD hS 0 rfl rfl 0 (by decide) lk2 (fun _ h9 => h9) rfl (by decide +kernel) rfl rfl (Nat.le_of_ble_eq_true rfl) dX1_add_102 (fun H locs hP hD hS => ?_)
      have hP : va_P (dC, dI) vwCl (w_X1_add cy a0 a1 (((x6 + (1 : Int32)), (gcs_0.2.1 + t0), (upd gcs_0.2.2 x6.toNatClampNeg (x7 - (t0 * x4))))) gd_1) H := hP
      have hD : va_D A (w_X1_add cy a0 a1 (((x6 + (1 : Int32)), (gcs_0.2.1 + t0), (upd gcs_0.2.2 x6.toNatClampNeg (x7 - (t0 * x4))))) gd_1) := hD
      exact c105 k16 hk16 ((x6 + (1 : Int32)), (gcs_0.2.1 + t0), (upd gcs_0.2.2 x6.toNatClampNeg (x7 - (t0 * x4)))) x2 x3 x4 t0 x6 H locs ls h hP hD hS (lv_sub hl [1, 2, 3, 4, 5, 0, 6] rfl)
  have c16 : ∀ (n : Nat), ∀ (gcs_0 : Int32 × Int32 × (Nat → Int32)) (x2 : Int32) (x3 : Int32) (x4 : Int32) (x5 : Int32) (x6 : Int32) (H : Heap) (locs : List Loc) (ls : Array Slot), p_X1_add_16 gd_1 n gcs_0 x2 x3 x4 x5 x6 = some R0 → va_P (dC, dI) vwCl (w_X1_add cy a0 a1 gcs_0 gd_1) H → va_D A (w_X1_add cy a0 a1 gcs_0 gd_1) → va_S A s.heap H locs → lv_has ls 8 [(0, .ref (a0 0)), (1, .ref (a1 0)), (2, .int x2), (3, .int x3), (4, .int x4), (5, .int x5), (6, .int x6)] → W p l e rm_X1_add s m aa below meth c H locs 0 0 (MQ below qq aa s 0 0 A) (F0 m 16 ls []) := by
    intro  n
    induction n with
    | zero => intro gcs_0 x2 x3 x4 x5 x6 H locs ls h; exact no_some h
    | succ n ih =>
      intro gcs_0 x2 x3 x4 x5 x6 H locs ls h hP hD hS hl
      rw [p_X1_add_16.eq_2] at h
      refine lv_iload hx hb dX1_add_16 (lv_at hl 6 rfl) ?_
      refine lv_bipush (v := (6 : Int32)) hx hb dX1_add_18 (by decide) ?_
      refine lv_icmp_ge (tgt := 111) hx hb dX1_add_20 (by decide) (fun c1 => ?_) (fun c1 => ?_)
      · rw [if_pos c1] at h
        exact W.vret hx hb hr (fun t ht hW => by rw [hqq]; have hh := Option.some.inj h; exact ⟨⟨(gcs_0), rfl, Option.some.inj h, by rw [ht]; exact hP, va_K.moved hW.alike hK⟩, hS.F ht⟩) hS.2.2 dX1_add_111
      · rw [if_neg c1] at h
        refine lv_aload_n hx hb dX1_add_23 rfl (lv_at hl 1 rfl) ?_
        refine lv_iload_n hx hb dX1_add_24 rfl (lv_at hl 2 rfl) ?_
        refine lv_iload hx hb dX1_add_25 (lv_at hl 6 rfl) ?_
        refine lv_iload hx hb dX1_add_27 (lv_at hl 4 rfl) ?_
        obtain ⟨v2, hv3, h⟩ := ok_bind h
        refine cl_si (w2 := fun (_ : Unit) => w_X1_add cy a0 a1 gcs_0 gd_1) (As := [.ref (a1 0), .int x2, .int x6, .int x4]) (rest := []) ⟨hx, hb, hml, hown, hts⟩ (c_X1_read l dC dI cy a1 gd_1 x2 x6 x4 H.size v2 hv3) (va_cwS 4 hts gX1_add_X1_read rfl rfl rfl (by decide +kernel) ⟨Nat.le_of_ble_eq_true rfl, Nat.le_of_ble_eq_true rfl⟩) cl_blind (cl_pre hK hP hD [2, 3, 4, 5, 6] (by decide) rfl) hP hD hS hA [2, 3, 4, 5, 6] rfl rfl hl.1 rfl (lv_room (Nat.le_of_ble_eq_true rfl)) dX1_add_29 ⟨Nat.le_of_ble_eq_true rfl, Nat.le_of_ble_eq_true rfl⟩ ⟨rfl, rfl⟩ (fun _ => updR [2, 3, 4, 5, 6] rfl) (fun r u H locs hw hP hD hS => ?_)
        have hw := hw.symm
        subst hw
        have hP : va_P (dC, dI) vwCl (w_X1_add cy a0 a1 gcs_0 gd_1) H := hP
        have hD : va_D A (w_X1_add cy a0 a1 gcs_0 gd_1) := hD
        refine lv_aload_n hx hb dX1_add_32 rfl (lv_at hl 1 rfl) ?_
        refine lv_iload_n hx hb dX1_add_33 rfl (lv_at hl 3 rfl) ?_
        refine lv_iload hx hb dX1_add_34 (lv_at hl 6 rfl) ?_
        refine lv_iload hx hb dX1_add_36 (lv_at hl 4 rfl) ?_
        obtain ⟨v4, hv5, h⟩ := ok_bind h
        refine cl_si (w2 := fun (_ : Unit) => w_X1_add cy a0 a1 gcs_0 gd_1) (As := [.ref (a1 0), .int x3, .int x6, .int x4]) (rest := [.int v2]) ⟨hx, hb, hml, hown, hts⟩ (c_X1_read l dC dI cy a1 gd_1 x3 x6 x4 H.size v4 hv5) (va_cwS 4 hts gX1_add_X1_read rfl rfl rfl (by decide +kernel) ⟨Nat.le_of_ble_eq_true rfl, Nat.le_of_ble_eq_true rfl⟩) cl_blind (cl_pre hK hP hD [2, 3, 4, 5, 6] (by decide) rfl) hP hD hS hA [2, 3, 4, 5, 6] rfl rfl hl.1 rfl (lv_room (Nat.le_of_ble_eq_true rfl)) dX1_add_38 ⟨Nat.le_of_ble_eq_true rfl, Nat.le_of_ble_eq_true rfl⟩ ⟨rfl, rfl⟩ (fun _ => updR [2, 3, 4, 5, 6] rfl) (fun r u H locs hw hP hD hS => ?_)
        have hw := hw.symm
        subst hw
        have hP : va_P (dC, dI) vwCl (w_X1_add cy a0 a1 gcs_0 gd_1) H := hP
        have hD : va_D A (w_X1_add cy a0 a1 gcs_0 gd_1) := hD
        refine lv_iadd hx hb dX1_add_41 ?_
        refine lv_iload hx hb dX1_add_42 (lv_at hl 5 rfl) ?_
        refine lv_iadd hx hb dX1_add_44 ?_
        refine lv_istore (lv' := [(7, .int ((v2 + v4) + x5)), (0, .ref (a0 0)), (1, .ref (a1 0)), (2, .int x2), (3, .int x3), (4, .int x4), (5, .int x5), (6, .int x6)]) hx hb dX1_add_45 hl (by decide) rfl (fun ls hl => ?_)
        refine lv_iload hx hb dX1_add_47 (lv_at hl 0 rfl) ?_
        refine lv_iload hx hb dX1_add_49 (lv_at hl 5 rfl) ?_
        refine lv_icmp_lt (tgt := 58) hx hb dX1_add_51 (by decide) (fun c6 => ?_) (fun c6 => ?_)
        · rw [if_pos c6] at h
          refine lv_iconst (v := (0 : Int32)) hx hb dX1_add_58 (by decide) ?_
          exact c59 (p_X1_add_16 gd_1 n) ih gcs_0 x2 x3 x4 x6 ((v2 + v4) + x5) (0 : Int32) H locs ls h hP hD hS (lv_sub hl [1, 2, 3, 4, 5, 7, 0] rfl)
        · rw [if_neg c6] at h
          refine lv_iconst (v := (1 : Int32)) hx hb dX1_add_54 (by decide) ?_
          refine lv_goto (tgt := 59) hx hb dX1_add_55 (by decide) ?_
          exact c59 (p_X1_add_16 gd_1 n) ih gcs_0 x2 x3 x4 x6 ((v2 + v4) + x5) (1 : Int32) H locs ls h hP hD hS (lv_sub hl [1, 2, 3, 4, 5, 7, 0] rfl)
  obtain ⟨H, hH⟩ : ∃ H : Heap, H = s.heap := ⟨_, rfl⟩
  obtain ⟨locs, hlocs⟩ : ∃ locs : List Loc, locs = [] := ⟨_, rfl⟩
  have hS : va_S A s.heap H locs := by rw [hH, hlocs]; exact hS
  rw [← hH] at hP
  suffices hg : W p l e rm_X1_add s m aa below meth c H locs 0 0 (MQ below qq aa s 0 0 A) (F0 m 0 ls []) by subst hH; subst hlocs; exact hg
  unfold p_X1_add at h
  refine lv_iconst (v := (0 : Int32)) hx hb dX1_add_0 (by decide) ?_
  refine lv_istore (lv' := [(5, .int (0 : Int32)), (0, .ref (a0 0)), (1, .ref (a1 0)), (2, .int x2), (3, .int x3), (4, .int x4)]) hx hb dX1_add_1 hl (by decide) rfl (fun ls hl => ?_)
  refine lv_aload_n hx hb dX1_add_3 rfl (lv_at hl 1 rfl) ?_
  refine lv_iconst (v := (0 : Int32)) hx hb dX1_add_4 (by decide) ?_
  refine va_put (D := (dC, dI)) (ci := 0) (v := .int (0 : Int32)) (ty := .int) (C := RX1) (T := TX1) (N := 3) hx hb hts in_X1 tyX1 tyX1_ok nmX1 hown hK hP hD hS 0 rfl rfl 1 (by decide) lk0 (fun _ h9 => h9) rfl (by decide +kernel) rfl rfl (Nat.le_of_ble_eq_true rfl) dX1_add_5 (fun H locs hP hD hS => ?_)
  have hP : va_P (dC, dI) vwCl (w_X1_add cy a0 a1 ((gcs_0.1, (0 : Int32), gcs_0.2.2)) gd_1) H := hP
  have hD : va_D A (w_X1_add cy a0 a1 ((gcs_0.1, (0 : Int32), gcs_0.2.2)) gd_1) := hD
  refine lv_aload_n hx hb dX1_add_8 rfl (lv_at hl 1 rfl) ?_
  refine lv_iconst (v := (1 : Int32)) hx hb dX1_add_9 (by decide) ?_
  refine va_put (D := (dC, dI)) (ci := 0) (v := .int (1 : Int32)) (ty := .int) (C := RX1) (T := TX1) (N := 3) hx hb hts in_X1 tyX1 tyX1_ok nmX1 hown hK hP hD hS 0 rfl rfl 0 (by decide) lk2 (fun _ h9 => h9) rfl (by decide +kernel) rfl rfl (Nat.le_of_ble_eq_true rfl) dX1_add_10 (fun H locs hP hD hS => ?_)
  have hP : va_P (dC, dI) vwCl (w_X1_add cy a0 a1 (((1 : Int32), (0 : Int32), gcs_0.2.2)) gd_1) H := hP
  have hD : va_D A (w_X1_add cy a0 a1 (((1 : Int32), (0 : Int32), gcs_0.2.2)) gd_1) := hD
  refine lv_iconst (v := (0 : Int32)) hx hb dX1_add_13 (by decide) ?_
  refine lv_istore (lv' := [(6, .int (0 : Int32)), (5, .int (0 : Int32)), (0, .ref (a0 0)), (1, .ref (a1 0)), (2, .int x2), (3, .int x3), (4, .int x4)]) hx hb dX1_add_14 hl (by decide) rfl (fun ls hl => ?_)
  exact c16 fu ((1 : Int32), (0 : Int32), gcs_0.2.2) x2 x3 x4 (0 : Int32) (0 : Int32) H locs ls h hP hD hS (lv_sub hl [2, 3, 4, 5, 6, 1, 0] rfl)

abbrev w_X1_figureAt (cy : Nat → ClassId) (a0 : Nat → Nat) (gcs : Int32 × Int32 × (Nat → Int32)) : va_W := [(a0 0, .inr (0, [.int (gcs.1), .int (gcs.2.1), .ref (a0 1)])), (a0 1, .inl (cy 1, 6, .inl (gcs.2.2)))]
abbrev rm_X1_figureAt : Room := { frames := 0, cells := 0, slots := 0, locals := 0 }
set_option maxHeartbeats 1000000 in
set_option maxRecDepth 100000 in
theorem c_X1_figureAt (l : Launch) (dC : Nat → ClassId) (dI : Nat → Nat → Nat) (cy : Nat → ClassId) (a0 : Nat → Nat) (gcs : Int32 × Int32 × (Nat → Int32)) (x1 : Int32) (sz : Nat) (R0 : Int32) (h : p_X1_figureAt gcs x1 = some R0) : Met l yX1_figureAt wsX1_figureAt rm_X1_figureAt (va_Pc [.ref (a0 0), .int x1] (prC dC dI cy (w_X1_figureAt cy a0 gcs) sz)) (va_Qi (fun (r : Int32) (_ : Unit) => r = R0) (fun (_ : Unit) t => poC dC dI cy (w_X1_figureAt cy a0 gcs) t) (va_A (w_X1_figureAt cy a0 gcs) sz)) 0 0 (va_A (w_X1_figureAt cy a0 gcs) sz) := by
  refine Met.ofW (cc := cX1_figureAt) (maxL := 3) (ret := (some .int)) (by decide) rfl ?_
  intro p e s m aa below meth c s₁ B hml hv
  obtain ⟨haa, hsz, hP, hK, hD0⟩ := hv
  have hx := B.exec
  have hb := B.bytes
  have hr := B.returns
  have hts := atoms_spec (ws := wsX1_figureAt) B.pre
  have hown : s.vm.findClass RX1 = some m.cls := findClass_of_methodNamed B.named
  have hlocks := B.notSynchronized
  subst hsz
  have hD := hD0.self (sz := s.heap.size)
  obtain ⟨qq, hqq⟩ : ∃ qq, qq = (va_Qi (fun (r : Int32) (_ : Unit) => r = R0) (fun (_ : Unit) t => poC dC dI cy (w_X1_figureAt cy a0 gcs) t) (va_A (w_X1_figureAt cy a0 gcs) s.heap.size)) := ⟨_, rfl⟩
  rw [← hqq]
  generalize hAe : va_A (w_X1_figureAt cy a0 gcs) s.heap.size = A at hD hqq ⊢
  have hA : ∀ q : Nat, s.heap.size ≤ q → A q := fun q h => by rw [← hAe]; exact Or.inr h
  have hS : va_S A s.heap s.heap [] := va_S.rf
  have hl := lv_entry ([.ref (a0 0), .int x1]) (n := 3) (Nat.le_of_ble_eq_true rfl)
  have hE : entryFrame m aa 3 = F0 m 0 ((lg_sl ([.ref (a0 0), .int x1]) ++ List.replicate (3 - (lg_sl ([.ref (a0 0), .int x1])).length) Slot.unset).toArray) [] := by rw [haa]; exact lg_entry_eq m _ 3
  refine W.eq hE ?_
  generalize (lg_sl ([.ref (a0 0), .int x1]) ++ List.replicate (3 - (lg_sl ([.ref (a0 0), .int x1])).length) Slot.unset).toArray = ls at hl ⊢
  have hl : lv_has ls 3 [(0, .ref (a0 0)), (1, .int x1)] := hl
  change W p l e rm_X1_figureAt s m aa below meth c s.heap [] 0 0 (MQ below qq aa s 0 0 A) (F0 m 0 ls [])
  have hS0 := hS
  have lk0 := hts (.fieldLink RX1 19 "GoatDoors$ChildSum" "length" "I") (by decide +kernel)
  have lk1 := hts (.fieldLink RX1 11 "GoatDoors$ChildSum" "figures" "[I") (by decide +kernel)
  have in_X1 : ∀ w ∈ wsX10, w ∈ wsX1_figureAt := by decide +kernel
  obtain ⟨H, hH⟩ : ∃ H : Heap, H = s.heap := ⟨_, rfl⟩
  obtain ⟨locs, hlocs⟩ : ∃ locs : List Loc, locs = [] := ⟨_, rfl⟩
  have hS : va_S A s.heap H locs := by rw [hH, hlocs]; exact hS
  rw [← hH] at hP
  suffices hg : W p l e rm_X1_figureAt s m aa below meth c H locs 0 0 (MQ below qq aa s 0 0 A) (F0 m 0 ls []) by subst hH; subst hlocs; exact hg
  unfold p_X1_figureAt at h
  refine lv_aload_n hx hb dX1_figureAt_0 rfl (lv_at hl 0 rfl) ?_
  refine va_get (D := (dC, dI)) (ci := 0) (v := .int gcs.1) (C := RX1) (T := TX1) (N := 3) hx hb hts in_X1 hown hK hP 0 rfl rfl 0 (by decide) lk0 (fun _ h9 => h9) rfl dX1_figureAt_1 ?_
  refine lv_iconst (v := (1 : Int32)) hx hb dX1_figureAt_4 (by decide) ?_
  refine lv_isub hx hb dX1_figureAt_5 ?_
  refine lv_iload_n hx hb dX1_figureAt_6 rfl (lv_at hl 1 rfl) ?_
  refine lv_isub hx hb dX1_figureAt_7 ?_
  refine lv_istore_n (lv' := [(2, .int ((gcs.1 - (1 : Int32)) - x1)), (0, .ref (a0 0)), (1, .int x1)]) hx hb dX1_figureAt_8 rfl hl (by decide) rfl (fun ls hl => ?_)
  refine lv_iload_n hx hb dX1_figureAt_9 rfl (lv_at hl 0 rfl) ?_
  refine lv_if_lt (tgt := 28) hx hb dX1_figureAt_10 (by decide) (fun c1 => ?_) (fun c1 => ?_)
  · rw [if_pos c1] at h
    refine lv_iconst (v := (0 : Int32)) hx hb dX1_figureAt_28 (by decide) ?_
    exact W.iret (v := (0 : Int32)) hx hb hr (fun t ht hW => by rw [hqq]; have hh := Option.some.inj h; exact ⟨⟨(0 : Int32), (()), rfl, Option.some.inj h, by rw [ht]; exact hP, va_K.moved hW.alike hK⟩, hS.F ht⟩) hS.2.2 dX1_figureAt_29
  · rw [if_neg c1] at h
    refine lv_iload_n hx hb dX1_figureAt_13 rfl (lv_at hl 0 rfl) ?_
    refine lv_bipush (v := (6 : Int32)) hx hb dX1_figureAt_14 (by decide) ?_
    refine lv_icmp_ge (tgt := 28) hx hb dX1_figureAt_16 (by decide) (fun c2 => ?_) (fun c2 => ?_)
    · rw [if_pos c2] at h
      refine lv_iconst (v := (0 : Int32)) hx hb dX1_figureAt_28 (by decide) ?_
      exact W.iret (v := (0 : Int32)) hx hb hr (fun t ht hW => by rw [hqq]; have hh := Option.some.inj h; exact ⟨⟨(0 : Int32), (()), rfl, Option.some.inj h, by rw [ht]; exact hP, va_K.moved hW.alike hK⟩, hS.F ht⟩) hS.2.2 dX1_figureAt_29
    · rw [if_neg c2] at h
      refine lv_aload_n hx hb dX1_figureAt_19 rfl (lv_at hl 1 rfl) ?_
      refine va_get (D := (dC, dI)) (ci := 0) (v := .ref (a0 1)) (C := RX1) (T := TX1) (N := 3) hx hb hts in_X1 hown hK hP 0 rfl rfl 2 (by decide) lk1 (fun _ h9 => h9) rfl dX1_figureAt_20 ?_
      refine lv_iload_n hx hb dX1_figureAt_23 rfl (lv_at hl 0 rfl) ?_
      obtain ⟨hi3, h⟩ := ok_if h
      refine va_iald hx hb hK hP 1 1 rfl rfl (ix_in hi3) dX1_figureAt_24 ?_
      refine lv_goto (tgt := 29) hx hb dX1_figureAt_25 (by decide) ?_
      exact W.iret (v := (gcs.2.2 ((gcs.1 - (1 : Int32)) - x1).toNatClampNeg)) hx hb hr (fun t ht hW => by rw [hqq]; have hh := Option.some.inj h; exact ⟨⟨(gcs.2.2 ((gcs.1 - (1 : Int32)) - x1).toNatClampNeg), (()), rfl, Option.some.inj h, by rw [ht]; exact hP, va_K.moved hW.alike hK⟩, hS.F ht⟩) hS.2.2 dX1_figureAt_29

abbrev w_X4_chalk (cy : Nat → ClassId) (a0 : Nat → Nat) (a1 : Nat → Nat) (gd_0 : Int32 × Int32 × (Nat → Int32) × (Nat → Int32) × (Nat → Int32) × (Nat → Int32)) (gr_1 : Int32 × Int32 × Int32 × Int32 × Int32 × Int32 × Int32 × Int32 × Int32) (gtx_1 : (Nat → Int32)) : va_W := [(a0 0, .inr (2, [.int (gd_0.1), .int (gd_0.2.1), .ref (a0 1), .ref (a0 2), .ref (a0 3), .ref (a0 4)])), (a0 1, .inl (cy 1, 10, .inl (gd_0.2.2.1))), (a0 2, .inl (cy 1, 10, .inl (gd_0.2.2.2.1))), (a0 3, .inl (cy 1, 10, .inl (gd_0.2.2.2.2.1))), (a0 4, .inl (cy 1, 50, .inl (gd_0.2.2.2.2.2))), (a1 0, .inr (5, [.ref (a1 1), .int (gr_1.1), .int (gr_1.2.1), .int (gr_1.2.2.1), .int (gr_1.2.2.2.1), .int (gr_1.2.2.2.2.1), .int (gr_1.2.2.2.2.2.1), .int (gr_1.2.2.2.2.2.2.1), .int (gr_1.2.2.2.2.2.2.2.1), .int (gr_1.2.2.2.2.2.2.2.2)])), (a1 1, .inl (cy 0, 600, .inl (gtx_1)))]
abbrev rm_X4_chalk : Room := { frames := 2, cells := 0, slots := 0, locals := 43 }
set_option maxHeartbeats 1000000 in
set_option maxRecDepth 100000 in
theorem c_X4_chalk (l : Launch) (dC : Nat → ClassId) (dI : Nat → Nat → Nat) (cy : Nat → ClassId) (a0 : Nat → Nat) (a1 : Nat → Nat) (gd_0 : Int32 × Int32 × (Nat → Int32) × (Nat → Int32) × (Nat → Int32) × (Nat → Int32)) (gr_1 : Int32 × Int32 × Int32 × Int32 × Int32 × Int32 × Int32 × Int32 × Int32) (gtx_1 : (Nat → Int32)) (x1 : Int32) (x2 : Int32) (sz : Nat) (R0 : Int32 × (Int32 × Int32 × (Nat → Int32) × (Nat → Int32) × (Nat → Int32) × (Nat → Int32))) (h : p_X4_chalk gd_0 gr_1 gtx_1 x1 x2 = some R0) : Met l yX4_chalk wsX4_chalk rm_X4_chalk (va_Pc [.ref (a0 0), .int x1, .int x2, .ref (a1 0)] (prC dC dI cy (w_X4_chalk cy a0 a1 gd_0 gr_1 gtx_1) sz)) (va_Qi (fun (r : Int32) (u : (Int32 × Int32 × (Nat → Int32) × (Nat → Int32) × (Nat → Int32) × (Nat → Int32))) => r = R0.1 ∧ u = R0.2) (fun (u : (Int32 × Int32 × (Nat → Int32) × (Nat → Int32) × (Nat → Int32) × (Nat → Int32))) t => poC dC dI cy (w_X4_chalk cy a0 a1 u gr_1 gtx_1) t) (va_A (w_X4_chalk cy a0 a1 gd_0 gr_1 gtx_1) sz)) 0 0 (va_A (w_X4_chalk cy a0 a1 gd_0 gr_1 gtx_1) sz) := by
  refine Met.ofW (cc := cX4_chalk) (maxL := 6) (ret := (some .boolean)) (by decide) rfl ?_
  intro p e s m aa below meth c s₁ B hml hv
  obtain ⟨haa, hsz, hP, hK, hD0⟩ := hv
  have hx := B.exec
  have hb := B.bytes
  have hr := B.returns
  have hts := atoms_spec (ws := wsX4_chalk) B.pre
  have hown : s.vm.findClass RX4 = some m.cls := findClass_of_methodNamed B.named
  have hlocks := B.notSynchronized
  subst hsz
  have hD := hD0.self (sz := s.heap.size)
  obtain ⟨qq, hqq⟩ : ∃ qq, qq = (va_Qi (fun (r : Int32) (u : (Int32 × Int32 × (Nat → Int32) × (Nat → Int32) × (Nat → Int32) × (Nat → Int32))) => r = R0.1 ∧ u = R0.2) (fun (u : (Int32 × Int32 × (Nat → Int32) × (Nat → Int32) × (Nat → Int32) × (Nat → Int32))) t => poC dC dI cy (w_X4_chalk cy a0 a1 u gr_1 gtx_1) t) (va_A (w_X4_chalk cy a0 a1 gd_0 gr_1 gtx_1) s.heap.size)) := ⟨_, rfl⟩
  rw [← hqq]
  generalize hAe : va_A (w_X4_chalk cy a0 a1 gd_0 gr_1 gtx_1) s.heap.size = A at hD hqq ⊢
  have hA : ∀ q : Nat, s.heap.size ≤ q → A q := fun q h => by rw [← hAe]; exact Or.inr h
  have hS : va_S A s.heap s.heap [] := va_S.rf
  have hl := lv_entry ([.ref (a0 0), .int x1, .int x2, .ref (a1 0)]) (n := 6) (Nat.le_of_ble_eq_true rfl)
  have hE : entryFrame m aa 6 = F0 m 0 ((lg_sl ([.ref (a0 0), .int x1, .int x2, .ref (a1 0)]) ++ List.replicate (6 - (lg_sl ([.ref (a0 0), .int x1, .int x2, .ref (a1 0)])).length) Slot.unset).toArray) [] := by rw [haa]; exact lg_entry_eq m _ 6
  refine W.eq hE ?_
  generalize (lg_sl ([.ref (a0 0), .int x1, .int x2, .ref (a1 0)]) ++ List.replicate (6 - (lg_sl ([.ref (a0 0), .int x1, .int x2, .ref (a1 0)])).length) Slot.unset).toArray = ls at hl ⊢
  have hl : lv_has ls 6 [(0, .ref (a0 0)), (1, .int x1), (2, .int x2), (3, .ref (a1 0))] := hl
  change W p l e rm_X4_chalk s m aa below meth c s.heap [] 0 0 (MQ below qq aa s 0 0 A) (F0 m 0 ls [])
  have hS0 := hS
  have lk0 := hts (.fieldLink RX4 21 "GoatDoors$Doors" "figures" "[I") (by decide +kernel)
  have lk1 := hts (.fieldLink RX4 28 "GoatDoors$Doors" "bits" "I") (by decide +kernel)
  have lk2 := hts (.fieldLink RX4 9 "GoatDoors$Doors" "debtors" "[I") (by decide +kernel)
  have lk3 := hts (.fieldLink RX4 15 "GoatDoors$Doors" "lenders" "[I") (by decide +kernel)
  have lk4 := hts (.fieldLink RX4 18 "GoatDoors$Doors" "lengths" "[I") (by decide +kernel)
  have lk5 := hts (.fieldLink RX4 45 "GoatDoors$Reader" "rowLength" "I") (by decide +kernel)
  have in_X4 : ∀ w ∈ wsX40, w ∈ wsX4_chalk := by decide +kernel
  have in_X7 : ∀ w ∈ wsX70, w ∈ wsX4_chalk := by decide +kernel
  have c62 : ∀ (n : Nat), ∀ (gd_0 : Int32 × Int32 × (Nat → Int32) × (Nat → Int32) × (Nat → Int32) × (Nat → Int32)) (x4 : Int32) (x5 : Int32) (H : Heap) (locs : List Loc) (ls : Array Slot), p_X4_chalk_62 gr_1 gtx_1 n gd_0 x4 x5 = some R0 → va_P (dC, dI) vwCl (w_X4_chalk cy a0 a1 gd_0 gr_1 gtx_1) H → va_D A (w_X4_chalk cy a0 a1 gd_0 gr_1 gtx_1) → va_S A s.heap H locs → lv_has ls 6 [(0, .ref (a0 0)), (3, .ref (a1 0)), (4, .int x4), (5, .int x5)] → W p l e rm_X4_chalk s m aa below meth c H locs 0 0 (MQ below qq aa s 0 0 A) (F0 m 62 ls []) := by
    intro  n
    induction n with
    | zero => intro gd_0 x4 x5 H locs ls h; exact no_some h
    | succ n ih =>
      intro gd_0 x4 x5 H locs ls h hP hD hS hl
      rw [p_X4_chalk_62.eq_2] at h
      refine lv_iload hx hb dX4_chalk_62 (lv_at hl 3 rfl) ?_
      refine lv_iconst (v := (5 : Int32)) hx hb dX4_chalk_64 (by decide) ?_
      refine lv_icmp_ge (tgt := 92) hx hb dX4_chalk_65 (by decide) (fun c1 => ?_) (fun c1 => ?_)
      · rw [if_pos c1] at h
        refine lv_iconst (v := (1 : Int32)) hx hb dX4_chalk_92 (by decide) ?_
        exact W.zret (v := (1 : Int32)) (ty := .boolean) hx hb hr rfl (fun t ht hW => by rw [hqq]; have hh := Option.some.inj h; exact ⟨⟨(1 : Int32), (gd_0), rfl, ⟨fst_of hh, snd_of hh⟩, by rw [ht]; exact hP, va_K.moved hW.alike hK⟩, hS.F ht⟩) hS.2.2 dX4_chalk_93
      · rw [if_neg c1] at h
        refine lv_aload_n hx hb dX4_chalk_68 rfl (lv_at hl 0 rfl) ?_
        refine va_get (D := (dC, dI)) (ci := 2) (v := .ref (a0 4)) (C := RX4) (T := TX4) (N := 6) hx hb hts in_X4 hown hK hP 0 rfl rfl 5 (by decide) lk0 (fun _ h9 => h9) rfl dX4_chalk_69 ?_
        refine lv_iload hx hb dX4_chalk_72 (lv_at hl 2 rfl) ?_
        refine lv_iconst (v := (5 : Int32)) hx hb dX4_chalk_74 (by decide) ?_
        refine lv_imul hx hb dX4_chalk_75 ?_
        refine lv_iload hx hb dX4_chalk_76 (lv_at hl 3 rfl) ?_
        refine lv_iadd hx hb dX4_chalk_78 ?_
        refine lv_aload_n hx hb dX4_chalk_79 rfl (lv_at hl 1 rfl) ?_
        refine lv_iload hx hb dX4_chalk_80 (lv_at hl 3 rfl) ?_
        obtain ⟨v2, hv3, h⟩ := ok_bind h
        refine cl_vi (w2 := fun (_ : Unit) => w_X4_chalk cy a0 a1 gd_0 gr_1 gtx_1) (As := [.int x5]) (rest := [.int ((x4 * (5 : Int32)) + x5), .ref (a0 4)]) ⟨hx, hb, hml, hown, hts⟩ (c_X7_rowFigure l dC dI cy a1 gr_1 gtx_1 x5 H.size v2 hv3) (cwV 1 hts gX4_chalk_X7_rowFigure rfl rfl rfl (by decide +kernel) ⟨Nat.le_of_ble_eq_true rfl, Nat.le_of_ble_eq_true rfl⟩) (va_recv hK hP (ci := 5) (q0 := 5) rfl rfl) cl_blind (cl_pre hK hP hD [5, 6] (by decide) rfl) hP hD hS hA [5, 6] rfl rfl hl.1 rfl (lv_room (Nat.le_of_ble_eq_true rfl)) dX4_chalk_82 ⟨Nat.le_of_ble_eq_true rfl, Nat.le_of_ble_eq_true rfl⟩ ⟨rfl, rfl⟩ (fun _ => updR [5, 6] rfl) (fun r u H locs hw hP hD hS => ?_)
        have hw := hw.symm
        subst hw
        have hP : va_P (dC, dI) vwCl (w_X4_chalk cy a0 a1 gd_0 gr_1 gtx_1) H := hP
        have hD : va_D A (w_X4_chalk cy a0 a1 gd_0 gr_1 gtx_1) := hD
        obtain ⟨hi4, h⟩ := ok_if h
        refine va_iast hx hb hK hP hD hS 4 1 rfl rfl (ix_in hi4) dX4_chalk_85 (fun H locs hP hD hS => ?_)
        have hP : va_P (dC, dI) vwCl (w_X4_chalk cy a0 a1 ((gd_0.1, gd_0.2.1, gd_0.2.2.1, gd_0.2.2.2.1, gd_0.2.2.2.2.1, (upd gd_0.2.2.2.2.2 ((x4 * (5 : Int32)) + x5).toNatClampNeg v2))) gr_1 gtx_1) H := hP
        have hD : va_D A (w_X4_chalk cy a0 a1 ((gd_0.1, gd_0.2.1, gd_0.2.2.1, gd_0.2.2.2.1, gd_0.2.2.2.2.1, (upd gd_0.2.2.2.2.2 ((x4 * (5 : Int32)) + x5).toNatClampNeg v2))) gr_1 gtx_1) := hD
        refine lv_iinc (v := (x5 + (1 : Int32))) (lv' := [(5, .int (x5 + (1 : Int32))), (0, .ref (a0 0)), (3, .ref (a1 0)), (4, .int x4)]) hx hb dX4_chalk_86 hl (k := 3) rfl rfl (by decide) rfl (fun ls hl => ?_)
        refine lv_goto (tgt := 62) hx hb dX4_chalk_89 (by decide) ?_
        exact ih (gd_0.1, gd_0.2.1, gd_0.2.2.1, gd_0.2.2.2.1, gd_0.2.2.2.2.1, (upd gd_0.2.2.2.2.2 ((x4 * (5 : Int32)) + x5).toNatClampNeg v2)) x4 (x5 + (1 : Int32)) H locs ls h hP hD hS (lv_sub hl [1, 2, 3, 0] rfl)
  have c3 : ∀ (n : Nat), ∀ (gd_0 : Int32 × Int32 × (Nat → Int32) × (Nat → Int32) × (Nat → Int32) × (Nat → Int32)) (x1 : Int32) (x2 : Int32) (x4 : Int32) (H : Heap) (locs : List Loc) (ls : Array Slot), p_X4_chalk_3 gr_1 gtx_1 n gd_0 x1 x2 x4 = some R0 → va_P (dC, dI) vwCl (w_X4_chalk cy a0 a1 gd_0 gr_1 gtx_1) H → va_D A (w_X4_chalk cy a0 a1 gd_0 gr_1 gtx_1) → va_S A s.heap H locs → lv_has ls 6 [(0, .ref (a0 0)), (1, .int x1), (2, .int x2), (3, .ref (a1 0)), (4, .int x4)] → W p l e rm_X4_chalk s m aa below meth c H locs 0 0 (MQ below qq aa s 0 0 A) (F0 m 3 ls []) := by
    intro  n
    induction n with
    | zero => intro gd_0 x1 x2 x4 H locs ls h; exact no_some h
    | succ n ih =>
      intro gd_0 x1 x2 x4 H locs ls h hP hD hS hl
      rw [p_X4_chalk_3.eq_2] at h
      refine lv_iload hx hb dX4_chalk_3 (lv_at hl 4 rfl) ?_
      refine lv_bipush (v := (10 : Int32)) hx hb dX4_chalk_5 (by decide) ?_
      refine lv_icmp_ge (tgt := 100) hx hb dX4_chalk_7 (by decide) (fun c1 => ?_) (fun c1 => ?_)
      · rw [if_pos c1] at h
        refine lv_iconst (v := (0 : Int32)) hx hb dX4_chalk_100 (by decide) ?_
        exact W.zret (v := (0 : Int32)) (ty := .boolean) hx hb hr rfl (fun t ht hW => by rw [hqq]; have hh := Option.some.inj h; exact ⟨⟨(0 : Int32), (gd_0), rfl, ⟨fst_of hh, snd_of hh⟩, by rw [ht]; exact hP, va_K.moved hW.alike hK⟩, hS.F ht⟩) hS.2.2 dX4_chalk_101
      · rw [if_neg c1] at h
        refine lv_aload_n hx hb dX4_chalk_10 rfl (lv_at hl 0 rfl) ?_
        refine lv_iload hx hb dX4_chalk_11 (lv_at hl 4 rfl) ?_
        obtain ⟨v2, hv3, h⟩ := ok_bind h
        refine cl_vi (w2 := fun (_ : Unit) => w_X4_chalk cy a0 a1 gd_0 gr_1 gtx_1) (As := [.int x4]) (rest := []) ⟨hx, hb, hml, hown, hts⟩ (c_X4_has l dC dI cy a0 gd_0 x4 H.size v2 hv3) (cwV 1 hts gX4_chalk_X4_has rfl rfl rfl (by decide +kernel) ⟨Nat.le_of_ble_eq_true rfl, Nat.le_of_ble_eq_true rfl⟩) (va_recv hK hP (ci := 2) (q0 := 0) rfl rfl) cl_blind (cl_pre hK hP hD [0, 1, 2, 3, 4] (by decide) rfl) hP hD hS hA [0, 1, 2, 3, 4] rfl rfl hl.1 rfl (lv_room (Nat.le_of_ble_eq_true rfl)) dX4_chalk_13 ⟨Nat.le_of_ble_eq_true rfl, Nat.le_of_ble_eq_true rfl⟩ ⟨rfl, rfl⟩ (fun _ => updR [0, 1, 2, 3, 4] rfl) (fun r u H locs hw hP hD hS => ?_)
        have hw := hw.symm
        subst hw
        have hP : va_P (dC, dI) vwCl (w_X4_chalk cy a0 a1 gd_0 gr_1 gtx_1) H := hP
        have hD : va_D A (w_X4_chalk cy a0 a1 gd_0 gr_1 gtx_1) := hD
        refine lv_if_ne (tgt := 94) hx hb dX4_chalk_16 (by decide) (fun c4 => ?_) (fun c4 => ?_)
        · rw [if_neg c4] at h
          refine lv_iinc (v := (x4 + (1 : Int32))) (lv' := [(4, .int (x4 + (1 : Int32))), (0, .ref (a0 0)), (1, .int x1), (2, .int x2), (3, .ref (a1 0))]) hx hb dX4_chalk_94 hl (k := 4) rfl rfl (by decide) rfl (fun ls hl => ?_)
          refine lv_goto (tgt := 3) hx hb dX4_chalk_97 (by decide) ?_
          exact ih gd_0 x1 x2 (x4 + (1 : Int32)) H locs ls h hP hD hS (lv_sub hl [1, 2, 3, 4, 0] rfl)
        · rw [if_pos c4] at h
          refine lv_aload_n hx hb dX4_chalk_19 rfl (lv_at hl 0 rfl) ?_
          refine lv_dup hx hb dX4_chalk_20 rfl ?_
          refine va_get (D := (dC, dI)) (ci := 2) (v := .int gd_0.2.1) (C := RX4) (T := TX4) (N := 6) hx hb hts in_X4 hown hK hP 0 rfl rfl 1 (by decide) lk1 (fun _ h9 => h9) rfl dX4_chalk_21 ?_
          refine lv_iconst (v := (1 : Int32)) hx hb dX4_chalk_24 (by decide) ?_
          refine lv_iload hx hb dX4_chalk_25 (lv_at hl 4 rfl) ?_
          refine lv_ishl hx hb dX4_chalk_27 ?_
          refine lv_ior hx hb dX4_chalk_28 ?_
          refine va_put (D := (dC, dI)) (ci := 2) (v := .int (gd_0.2.1 ||| ((1 : Int32) <<< (x4 &&& 31)))) (ty := .int) (C := RX4) (T := TX4) (N := 6) hx hb hts in_X4 tyX4 tyX4_ok nmX4 hown hK hP hD hS 0 rfl rfl 1 (by decide) lk1 (fun _ h9 => h9) rfl (by decide +kernel) rfl rfl (Nat.le_of_ble_eq_true rfl) dX4_chalk_29 (fun H locs hP hD hS => ?_)
          have hP : va_P (dC, dI) vwCl (w_X4_chalk cy a0 a1 ((gd_0.1, (gd_0.2.1 ||| ((1 : Int32) <<< (x4 &&& 31))), gd_0.2.2)) gr_1 gtx_1) H := hP
          have hD : va_D A (w_X4_chalk cy a0 a1 ((gd_0.1, (gd_0.2.1 ||| ((1 : Int32) <<< (x4 &&& 31))), gd_0.2.2)) gr_1 gtx_1) := hD
          refine lv_aload_n hx hb dX4_chalk_32 rfl (lv_at hl 0 rfl) ?_
          refine va_get (D := (dC, dI)) (ci := 2) (v := .ref (a0 1)) (C := RX4) (T := TX4) (N := 6) hx hb hts in_X4 hown hK hP 0 rfl rfl 2 (by decide) lk2 (fun _ h9 => h9) rfl dX4_chalk_33 ?_
          refine lv_iload hx hb dX4_chalk_36 (lv_at hl 4 rfl) ?_
          refine lv_iload_n hx hb dX4_chalk_38 rfl (lv_at hl 1 rfl) ?_
          obtain ⟨hi5, h⟩ := ok_if h
          refine va_iast hx hb hK hP hD hS 1 1 rfl rfl (ix_in hi5) dX4_chalk_39 (fun H locs hP hD hS => ?_)
          have hP : va_P (dC, dI) vwCl (w_X4_chalk cy a0 a1 ((gd_0.1, (gd_0.2.1 ||| ((1 : Int32) <<< (x4 &&& 31))), (upd gd_0.2.2.1 x4.toNatClampNeg x1), gd_0.2.2.2)) gr_1 gtx_1) H := hP
          have hD : va_D A (w_X4_chalk cy a0 a1 ((gd_0.1, (gd_0.2.1 ||| ((1 : Int32) <<< (x4 &&& 31))), (upd gd_0.2.2.1 x4.toNatClampNeg x1), gd_0.2.2.2)) gr_1 gtx_1) := hD
          refine lv_aload_n hx hb dX4_chalk_40 rfl (lv_at hl 0 rfl) ?_
          refine va_get (D := (dC, dI)) (ci := 2) (v := .ref (a0 2)) (C := RX4) (T := TX4) (N := 6) hx hb hts in_X4 hown hK hP 0 rfl rfl 3 (by decide) lk3 (fun _ h9 => h9) rfl dX4_chalk_41 ?_
          refine lv_iload hx hb dX4_chalk_44 (lv_at hl 4 rfl) ?_
          refine lv_iload_n hx hb dX4_chalk_46 rfl (lv_at hl 2 rfl) ?_
          obtain ⟨hi6, h⟩ := ok_if h
          refine va_iast hx hb hK hP hD hS 2 1 rfl rfl (ix_in hi6) dX4_chalk_47 (fun H locs hP hD hS => ?_)
          have hP : va_P (dC, dI) vwCl (w_X4_chalk cy a0 a1 ((gd_0.1, (gd_0.2.1 ||| ((1 : Int32) <<< (x4 &&& 31))), (upd gd_0.2.2.1 x4.toNatClampNeg x1), (upd gd_0.2.2.2.1 x4.toNatClampNeg x2), gd_0.2.2.2.2)) gr_1 gtx_1) H := hP
          have hD : va_D A (w_X4_chalk cy a0 a1 ((gd_0.1, (gd_0.2.1 ||| ((1 : Int32) <<< (x4 &&& 31))), (upd gd_0.2.2.1 x4.toNatClampNeg x1), (upd gd_0.2.2.2.1 x4.toNatClampNeg x2), gd_0.2.2.2.2)) gr_1 gtx_1) := hD
          refine lv_aload_n hx hb dX4_chalk_48 rfl (lv_at hl 0 rfl) ?_
          refine va_get (D := (dC, dI)) (ci := 2) (v := .ref (a0 3)) (C := RX4) (T := TX4) (N := 6) hx hb hts in_X4 hown hK hP 0 rfl rfl 4 (by decide) lk4 (fun _ h9 => h9) rfl dX4_chalk_49 ?_
          refine lv_iload hx hb dX4_chalk_52 (lv_at hl 4 rfl) ?_
          refine lv_aload_n hx hb dX4_chalk_54 rfl (lv_at hl 3 rfl) ?_
          refine va_get (D := (dC, dI)) (ci := 5) (v := .int gr_1.2.2.2.2.2.2.2.1) (C := RX7) (T := TX7) (N := 10) hx hb hts in_X7 hown hK hP 5 rfl rfl 8 (by decide) lk5 (fun _ h9 => h9) rfl dX4_chalk_55 ?_
          obtain ⟨hi7, h⟩ := ok_if h
          refine va_iast hx hb hK hP hD hS 3 1 rfl rfl (ix_in hi7) dX4_chalk_58 (fun H locs hP hD hS => ?_)
          have hP : va_P (dC, dI) vwCl (w_X4_chalk cy a0 a1 ((gd_0.1, (gd_0.2.1 ||| ((1 : Int32) <<< (x4 &&& 31))), (upd gd_0.2.2.1 x4.toNatClampNeg x1), (upd gd_0.2.2.2.1 x4.toNatClampNeg x2), (upd gd_0.2.2.2.2.1 x4.toNatClampNeg gr_1.2.2.2.2.2.2.2.1), gd_0.2.2.2.2.2)) gr_1 gtx_1) H := hP
          have hD : va_D A (w_X4_chalk cy a0 a1 ((gd_0.1, (gd_0.2.1 ||| ((1 : Int32) <<< (x4 &&& 31))), (upd gd_0.2.2.1 x4.toNatClampNeg x1), (upd gd_0.2.2.2.1 x4.toNatClampNeg x2), (upd gd_0.2.2.2.2.1 x4.toNatClampNeg gr_1.2.2.2.2.2.2.2.1), gd_0.2.2.2.2.2)) gr_1 gtx_1) := hD
          refine lv_iconst (v := (0 : Int32)) hx hb dX4_chalk_59 (by decide) ?_
          refine lv_istore (lv' := [(5, .int (0 : Int32)), (0, .ref (a0 0)), (1, .int x1), (2, .int x2), (3, .ref (a1 0)), (4, .int x4)]) hx hb dX4_chalk_60 hl (by decide) rfl (fun ls hl => ?_)
          exact c62 fu (gd_0.1, (gd_0.2.1 ||| ((1 : Int32) <<< (x4 &&& 31))), (upd gd_0.2.2.1 x4.toNatClampNeg x1), (upd gd_0.2.2.2.1 x4.toNatClampNeg x2), (upd gd_0.2.2.2.2.1 x4.toNatClampNeg gr_1.2.2.2.2.2.2.2.1), gd_0.2.2.2.2.2) x4 (0 : Int32) H locs ls h hP hD hS (lv_sub hl [1, 4, 5, 0] rfl)
  obtain ⟨H, hH⟩ : ∃ H : Heap, H = s.heap := ⟨_, rfl⟩
  obtain ⟨locs, hlocs⟩ : ∃ locs : List Loc, locs = [] := ⟨_, rfl⟩
  have hS : va_S A s.heap H locs := by rw [hH, hlocs]; exact hS
  rw [← hH] at hP
  suffices hg : W p l e rm_X4_chalk s m aa below meth c H locs 0 0 (MQ below qq aa s 0 0 A) (F0 m 0 ls []) by subst hH; subst hlocs; exact hg
  unfold p_X4_chalk at h
  refine lv_iconst (v := (0 : Int32)) hx hb dX4_chalk_0 (by decide) ?_
  refine lv_istore (lv' := [(4, .int (0 : Int32)), (0, .ref (a0 0)), (1, .int x1), (2, .int x2), (3, .ref (a1 0))]) hx hb dX4_chalk_1 hl (by decide) rfl (fun ls hl => ?_)
  exact c3 fu gd_0 x1 x2 (0 : Int32) H locs ls h hP hD hS (lv_sub hl [1, 2, 3, 4, 0] rfl)

abbrev w_X9_hasOwner (cy : Nat → ClassId) (a0 : Nat → Nat) (gv : Int32 × Int32 × (Nat → Int32) × (Nat → Int32) × (Nat → Int32) × (Nat → Int32) × (Nat → Int32)) : va_W := [(a0 0, .inr (7, [.int (gv.1), .int (gv.2.1), .ref (a0 1), .ref (a0 6), .ref (a0 10), .ref (a0 11), .ref (a0 12), .ref (a0 13), .ref (a0 14)])), (a0 10, .inl (cy 1, 5, .inl (gv.2.2.1))), (a0 11, .inl (cy 1, 5, .inl (gv.2.2.2.1))), (a0 12, .inl (cy 1, 5, .inl (gv.2.2.2.2.1))), (a0 13, .inl (cy 1, 5, .inl (gv.2.2.2.2.2.1))), (a0 14, .inl (cy 1, 5, .inl (gv.2.2.2.2.2.2)))]
abbrev rm_X9_hasOwner : Room := { frames := 0, cells := 0, slots := 0, locals := 0 }
set_option maxHeartbeats 1000000 in
set_option maxRecDepth 100000 in
theorem c_X9_hasOwner (l : Launch) (dC : Nat → ClassId) (dI : Nat → Nat → Nat) (cy : Nat → ClassId) (a0 : Nat → Nat) (gv : Int32 × Int32 × (Nat → Int32) × (Nat → Int32) × (Nat → Int32) × (Nat → Int32) × (Nat → Int32)) (x1 : Int32) (sz : Nat) (R0 : Int32) (h : p_X9_hasOwner gv x1 = some R0) : Met l yX9_hasOwner wsX9_hasOwner rm_X9_hasOwner (va_Pc [.ref (a0 0), .int x1] (prC dC dI cy (w_X9_hasOwner cy a0 gv) sz)) (va_Qi (fun (r : Int32) (_ : Unit) => r = R0) (fun (_ : Unit) t => poC dC dI cy (w_X9_hasOwner cy a0 gv) t) (va_A (w_X9_hasOwner cy a0 gv) sz)) 0 0 (va_A (w_X9_hasOwner cy a0 gv) sz) := by
  refine Met.ofW (cc := cX9_hasOwner) (maxL := 2) (ret := (some .boolean)) (by decide) rfl ?_
  intro p e s m aa below meth c s₁ B hml hv
  obtain ⟨haa, hsz, hP, hK, hD0⟩ := hv
  have hx := B.exec
  have hb := B.bytes
  have hr := B.returns
  have hts := atoms_spec (ws := wsX9_hasOwner) B.pre
  have hown : s.vm.findClass RX9 = some m.cls := findClass_of_methodNamed B.named
  have hlocks := B.notSynchronized
  subst hsz
  have hD := hD0.self (sz := s.heap.size)
  obtain ⟨qq, hqq⟩ : ∃ qq, qq = (va_Qi (fun (r : Int32) (_ : Unit) => r = R0) (fun (_ : Unit) t => poC dC dI cy (w_X9_hasOwner cy a0 gv) t) (va_A (w_X9_hasOwner cy a0 gv) s.heap.size)) := ⟨_, rfl⟩
  rw [← hqq]
  generalize hAe : va_A (w_X9_hasOwner cy a0 gv) s.heap.size = A at hD hqq ⊢
  have hA : ∀ q : Nat, s.heap.size ≤ q → A q := fun q h => by rw [← hAe]; exact Or.inr h
  have hS : va_S A s.heap s.heap [] := va_S.rf
  have hl := lv_entry ([.ref (a0 0), .int x1]) (n := 2) (Nat.le_of_ble_eq_true rfl)
  have hE : entryFrame m aa 2 = F0 m 0 ((lg_sl ([.ref (a0 0), .int x1]) ++ List.replicate (2 - (lg_sl ([.ref (a0 0), .int x1])).length) Slot.unset).toArray) [] := by rw [haa]; exact lg_entry_eq m _ 2
  refine W.eq hE ?_
  generalize (lg_sl ([.ref (a0 0), .int x1]) ++ List.replicate (2 - (lg_sl ([.ref (a0 0), .int x1])).length) Slot.unset).toArray = ls at hl ⊢
  have hl : lv_has ls 2 [(0, .ref (a0 0)), (1, .int x1)] := hl
  change W p l e rm_X9_hasOwner s m aa below meth c s.heap [] 0 0 (MQ below qq aa s 0 0 A) (F0 m 0 ls [])
  have hS0 := hS
  have lk0 := hts (.fieldLink RX9 41 "GoatDoors$Village" "owners" "I") (by decide +kernel)
  have in_X9 : ∀ w ∈ wsX90, w ∈ wsX9_hasOwner := by decide +kernel
  obtain ⟨H, hH⟩ : ∃ H : Heap, H = s.heap := ⟨_, rfl⟩
  obtain ⟨locs, hlocs⟩ : ∃ locs : List Loc, locs = [] := ⟨_, rfl⟩
  have hS : va_S A s.heap H locs := by rw [hH, hlocs]; exact hS
  rw [← hH] at hP
  suffices hg : W p l e rm_X9_hasOwner s m aa below meth c H locs 0 0 (MQ below qq aa s 0 0 A) (F0 m 0 ls []) by subst hH; subst hlocs; exact hg
  unfold p_X9_hasOwner at h
  refine lv_iload_n hx hb dX9_hasOwner_0 rfl (lv_at hl 1 rfl) ?_
  refine lv_if_lt (tgt := 21) hx hb dX9_hasOwner_1 (by decide) (fun c1 => ?_) (fun c1 => ?_)
  · rw [if_pos c1] at h
    refine lv_iconst (v := (0 : Int32)) hx hb dX9_hasOwner_21 (by decide) ?_
    exact W.zret (v := (0 : Int32)) (ty := .boolean) hx hb hr rfl (fun t ht hW => by rw [hqq]; have hh := Option.some.inj h; exact ⟨⟨(0 : Int32), (()), rfl, Option.some.inj h, by rw [ht]; exact hP, va_K.moved hW.alike hK⟩, hS.F ht⟩) hS.2.2 dX9_hasOwner_22
  · rw [if_neg c1] at h
    refine lv_iload_n hx hb dX9_hasOwner_4 rfl (lv_at hl 1 rfl) ?_
    refine lv_iconst (v := (5 : Int32)) hx hb dX9_hasOwner_5 (by decide) ?_
    refine lv_icmp_ge (tgt := 21) hx hb dX9_hasOwner_6 (by decide) (fun c2 => ?_) (fun c2 => ?_)
    · rw [if_pos c2] at h
      refine lv_iconst (v := (0 : Int32)) hx hb dX9_hasOwner_21 (by decide) ?_
      exact W.zret (v := (0 : Int32)) (ty := .boolean) hx hb hr rfl (fun t ht hW => by rw [hqq]; have hh := Option.some.inj h; exact ⟨⟨(0 : Int32), (()), rfl, Option.some.inj h, by rw [ht]; exact hP, va_K.moved hW.alike hK⟩, hS.F ht⟩) hS.2.2 dX9_hasOwner_22
    · rw [if_neg c2] at h
      refine lv_iload_n hx hb dX9_hasOwner_9 rfl (lv_at hl 1 rfl) ?_
      refine lv_aload_n hx hb dX9_hasOwner_10 rfl (lv_at hl 0 rfl) ?_
      refine va_get (D := (dC, dI)) (ci := 7) (v := .int gv.1) (C := RX9) (T := TX9) (N := 9) hx hb hts in_X9 hown hK hP 0 rfl rfl 0 (by decide) lk0 (fun _ h9 => h9) rfl dX9_hasOwner_11 ?_
      refine lv_icmp_ge (tgt := 21) hx hb dX9_hasOwner_14 (by decide) (fun c3 => ?_) (fun c3 => ?_)
      · rw [if_pos c3] at h
        refine lv_iconst (v := (0 : Int32)) hx hb dX9_hasOwner_21 (by decide) ?_
        exact W.zret (v := (0 : Int32)) (ty := .boolean) hx hb hr rfl (fun t ht hW => by rw [hqq]; have hh := Option.some.inj h; exact ⟨⟨(0 : Int32), (()), rfl, Option.some.inj h, by rw [ht]; exact hP, va_K.moved hW.alike hK⟩, hS.F ht⟩) hS.2.2 dX9_hasOwner_22
      · rw [if_neg c3] at h
        refine lv_iconst (v := (1 : Int32)) hx hb dX9_hasOwner_17 (by decide) ?_
        refine lv_goto (tgt := 22) hx hb dX9_hasOwner_18 (by decide) ?_
        exact W.zret (v := (1 : Int32)) (ty := .boolean) hx hb hr rfl (fun t ht hW => by rw [hqq]; have hh := Option.some.inj h; exact ⟨⟨(1 : Int32), (()), rfl, Option.some.inj h, by rw [ht]; exact hP, va_K.moved hW.alike hK⟩, hS.F ht⟩) hS.2.2 dX9_hasOwner_22

abbrev w_X9_goatsOf (cy : Nat → ClassId) (a0 : Nat → Nat) (gv : Int32 × Int32 × (Nat → Int32) × (Nat → Int32) × (Nat → Int32) × (Nat → Int32) × (Nat → Int32)) : va_W := [(a0 0, .inr (7, [.int (gv.1), .int (gv.2.1), .ref (a0 1), .ref (a0 6), .ref (a0 10), .ref (a0 11), .ref (a0 12), .ref (a0 13), .ref (a0 14)])), (a0 10, .inl (cy 1, 5, .inl (gv.2.2.1))), (a0 11, .inl (cy 1, 5, .inl (gv.2.2.2.1))), (a0 12, .inl (cy 1, 5, .inl (gv.2.2.2.2.1))), (a0 13, .inl (cy 1, 5, .inl (gv.2.2.2.2.2.1))), (a0 14, .inl (cy 1, 5, .inl (gv.2.2.2.2.2.2)))]
abbrev rm_X9_goatsOf : Room := { frames := 1, cells := 0, slots := 0, locals := 21 }
set_option maxHeartbeats 1000000 in
set_option maxRecDepth 100000 in
theorem c_X9_goatsOf (l : Launch) (dC : Nat → ClassId) (dI : Nat → Nat → Nat) (cy : Nat → ClassId) (a0 : Nat → Nat) (gv : Int32 × Int32 × (Nat → Int32) × (Nat → Int32) × (Nat → Int32) × (Nat → Int32) × (Nat → Int32)) (x1 : Int32) (sz : Nat) (R0 : Int32) (h : p_X9_goatsOf gv x1 = some R0) : Met l yX9_goatsOf wsX9_goatsOf rm_X9_goatsOf (va_Pc [.ref (a0 0), .int x1] (prC dC dI cy (w_X9_goatsOf cy a0 gv) sz)) (va_Qi (fun (r : Int32) (_ : Unit) => r = R0) (fun (_ : Unit) t => poC dC dI cy (w_X9_goatsOf cy a0 gv) t) (va_A (w_X9_goatsOf cy a0 gv) sz)) 0 0 (va_A (w_X9_goatsOf cy a0 gv) sz) := by
  refine Met.ofW (cc := cX9_goatsOf) (maxL := 2) (ret := (some .int)) (by decide) rfl ?_
  intro p e s m aa below meth c s₁ B hml hv
  obtain ⟨haa, hsz, hP, hK, hD0⟩ := hv
  have hx := B.exec
  have hb := B.bytes
  have hr := B.returns
  have hts := atoms_spec (ws := wsX9_goatsOf) B.pre
  have hown : s.vm.findClass RX9 = some m.cls := findClass_of_methodNamed B.named
  have hlocks := B.notSynchronized
  subst hsz
  have hD := hD0.self (sz := s.heap.size)
  obtain ⟨qq, hqq⟩ : ∃ qq, qq = (va_Qi (fun (r : Int32) (_ : Unit) => r = R0) (fun (_ : Unit) t => poC dC dI cy (w_X9_goatsOf cy a0 gv) t) (va_A (w_X9_goatsOf cy a0 gv) s.heap.size)) := ⟨_, rfl⟩
  rw [← hqq]
  generalize hAe : va_A (w_X9_goatsOf cy a0 gv) s.heap.size = A at hD hqq ⊢
  have hA : ∀ q : Nat, s.heap.size ≤ q → A q := fun q h => by rw [← hAe]; exact Or.inr h
  have hS : va_S A s.heap s.heap [] := va_S.rf
  have hl := lv_entry ([.ref (a0 0), .int x1]) (n := 2) (Nat.le_of_ble_eq_true rfl)
  have hE : entryFrame m aa 2 = F0 m 0 ((lg_sl ([.ref (a0 0), .int x1]) ++ List.replicate (2 - (lg_sl ([.ref (a0 0), .int x1])).length) Slot.unset).toArray) [] := by rw [haa]; exact lg_entry_eq m _ 2
  refine W.eq hE ?_
  generalize (lg_sl ([.ref (a0 0), .int x1]) ++ List.replicate (2 - (lg_sl ([.ref (a0 0), .int x1])).length) Slot.unset).toArray = ls at hl ⊢
  have hl : lv_has ls 2 [(0, .ref (a0 0)), (1, .int x1)] := hl
  change W p l e rm_X9_goatsOf s m aa below meth c s.heap [] 0 0 (MQ below qq aa s 0 0 A) (F0 m 0 ls [])
  have hS0 := hS
  have lk0 := hts (.fieldLink RX9 25 "GoatDoors$Village" "goats" "[I") (by decide +kernel)
  have in_X9 : ∀ w ∈ wsX90, w ∈ wsX9_goatsOf := by decide +kernel
  obtain ⟨H, hH⟩ : ∃ H : Heap, H = s.heap := ⟨_, rfl⟩
  obtain ⟨locs, hlocs⟩ : ∃ locs : List Loc, locs = [] := ⟨_, rfl⟩
  have hS : va_S A s.heap H locs := by rw [hH, hlocs]; exact hS
  rw [← hH] at hP
  suffices hg : W p l e rm_X9_goatsOf s m aa below meth c H locs 0 0 (MQ below qq aa s 0 0 A) (F0 m 0 ls []) by subst hH; subst hlocs; exact hg
  unfold p_X9_goatsOf at h
  refine lv_aload_n hx hb dX9_goatsOf_0 rfl (lv_at hl 0 rfl) ?_
  refine lv_iload_n hx hb dX9_goatsOf_1 rfl (lv_at hl 1 rfl) ?_
  obtain ⟨v1, hv2, h⟩ := ok_bind h
  refine cl_vi (w2 := fun (_ : Unit) => w_X9_goatsOf cy a0 gv) (As := [.int x1]) (rest := []) ⟨hx, hb, hml, hown, hts⟩ (c_X9_hasOwner l dC dI cy a0 gv x1 H.size v1 hv2) (cwV 1 hts gX9_goatsOf_X9_hasOwner rfl rfl rfl (by decide +kernel) ⟨Nat.le_of_ble_eq_true rfl, Nat.le_of_ble_eq_true rfl⟩) (va_recv hK hP (ci := 7) (q0 := 0) rfl rfl) cl_blind (cl_pre hK hP hD [0, 1, 2, 3, 4, 5] (by decide) rfl) hP hD hS hA [0, 1, 2, 3, 4, 5] rfl rfl hl.1 rfl (lv_room (Nat.le_of_ble_eq_true rfl)) dX9_goatsOf_2 ⟨Nat.le_of_ble_eq_true rfl, Nat.le_of_ble_eq_true rfl⟩ ⟨rfl, rfl⟩ (fun _ => updR [0, 1, 2, 3, 4, 5] rfl) (fun r u H locs hw hP hD hS => ?_)
  have hw := hw.symm
  subst hw
  have hP : va_P (dC, dI) vwCl (w_X9_goatsOf cy a0 gv) H := hP
  have hD : va_D A (w_X9_goatsOf cy a0 gv) := hD
  refine lv_if_eq (tgt := 17) hx hb dX9_goatsOf_5 (by decide) (fun c3 => ?_) (fun c3 => ?_)
  · rw [if_pos c3] at h
    refine lv_iconst (v := (0 : Int32)) hx hb dX9_goatsOf_17 (by decide) ?_
    exact W.iret (v := (0 : Int32)) hx hb hr (fun t ht hW => by rw [hqq]; have hh := Option.some.inj h; exact ⟨⟨(0 : Int32), (()), rfl, Option.some.inj h, by rw [ht]; exact hP, va_K.moved hW.alike hK⟩, hS.F ht⟩) hS.2.2 dX9_goatsOf_18
  · rw [if_neg c3] at h
    refine lv_aload_n hx hb dX9_goatsOf_8 rfl (lv_at hl 0 rfl) ?_
    refine va_get (D := (dC, dI)) (ci := 7) (v := .ref (a0 10)) (C := RX9) (T := TX9) (N := 9) hx hb hts in_X9 hown hK hP 0 rfl rfl 4 (by decide) lk0 (fun _ h9 => h9) rfl dX9_goatsOf_9 ?_
    refine lv_iload_n hx hb dX9_goatsOf_12 rfl (lv_at hl 1 rfl) ?_
    obtain ⟨hi4, h⟩ := ok_if h
    refine va_iald hx hb hK hP 1 1 rfl rfl (ix_in hi4) dX9_goatsOf_13 ?_
    refine lv_goto (tgt := 18) hx hb dX9_goatsOf_14 (by decide) ?_
    exact W.iret (v := (gv.2.2.1 x1.toNatClampNeg)) hx hb hr (fun t ht hW => by rw [hqq]; have hh := Option.some.inj h; exact ⟨⟨(gv.2.2.1 x1.toNatClampNeg), (()), rfl, Option.some.inj h, by rw [ht]; exact hP, va_K.moved hW.alike hK⟩, hS.F ht⟩) hS.2.2 dX9_goatsOf_18

abbrev w_X9_allGoats (cy : Nat → ClassId) (a0 : Nat → Nat) (gv : Int32 × Int32 × (Nat → Int32) × (Nat → Int32) × (Nat → Int32) × (Nat → Int32) × (Nat → Int32)) : va_W := [(a0 0, .inr (7, [.int (gv.1), .int (gv.2.1), .ref (a0 1), .ref (a0 6), .ref (a0 10), .ref (a0 11), .ref (a0 12), .ref (a0 13), .ref (a0 14)])), (a0 10, .inl (cy 1, 5, .inl (gv.2.2.1))), (a0 11, .inl (cy 1, 5, .inl (gv.2.2.2.1))), (a0 12, .inl (cy 1, 5, .inl (gv.2.2.2.2.1))), (a0 13, .inl (cy 1, 5, .inl (gv.2.2.2.2.2.1))), (a0 14, .inl (cy 1, 5, .inl (gv.2.2.2.2.2.2)))]
abbrev rm_X9_allGoats : Room := { frames := 2, cells := 0, slots := 0, locals := 42 }
set_option maxHeartbeats 1000000 in
set_option maxRecDepth 100000 in
theorem c_X9_allGoats (l : Launch) (dC : Nat → ClassId) (dI : Nat → Nat → Nat) (cy : Nat → ClassId) (a0 : Nat → Nat) (gv : Int32 × Int32 × (Nat → Int32) × (Nat → Int32) × (Nat → Int32) × (Nat → Int32) × (Nat → Int32)) (sz : Nat) (R0 : Int32) (h : p_X9_allGoats gv = some R0) : Met l yX9_allGoats wsX9_allGoats rm_X9_allGoats (va_Pc [.ref (a0 0)] (prC dC dI cy (w_X9_allGoats cy a0 gv) sz)) (va_Qi (fun (r : Int32) (_ : Unit) => r = R0) (fun (_ : Unit) t => poC dC dI cy (w_X9_allGoats cy a0 gv) t) (va_A (w_X9_allGoats cy a0 gv) sz)) 0 0 (va_A (w_X9_allGoats cy a0 gv) sz) := by
  refine Met.ofW (cc := cX9_allGoats) (maxL := 3) (ret := (some .int)) (by decide) rfl ?_
  intro p e s m aa below meth c s₁ B hml hv
  obtain ⟨haa, hsz, hP, hK, hD0⟩ := hv
  have hx := B.exec
  have hb := B.bytes
  have hr := B.returns
  have hts := atoms_spec (ws := wsX9_allGoats) B.pre
  have hown : s.vm.findClass RX9 = some m.cls := findClass_of_methodNamed B.named
  have hlocks := B.notSynchronized
  subst hsz
  have hD := hD0.self (sz := s.heap.size)
  obtain ⟨qq, hqq⟩ : ∃ qq, qq = (va_Qi (fun (r : Int32) (_ : Unit) => r = R0) (fun (_ : Unit) t => poC dC dI cy (w_X9_allGoats cy a0 gv) t) (va_A (w_X9_allGoats cy a0 gv) s.heap.size)) := ⟨_, rfl⟩
  rw [← hqq]
  generalize hAe : va_A (w_X9_allGoats cy a0 gv) s.heap.size = A at hD hqq ⊢
  have hA : ∀ q : Nat, s.heap.size ≤ q → A q := fun q h => by rw [← hAe]; exact Or.inr h
  have hS : va_S A s.heap s.heap [] := va_S.rf
  have hl := lv_entry ([.ref (a0 0)]) (n := 3) (Nat.le_of_ble_eq_true rfl)
  have hE : entryFrame m aa 3 = F0 m 0 ((lg_sl ([.ref (a0 0)]) ++ List.replicate (3 - (lg_sl ([.ref (a0 0)])).length) Slot.unset).toArray) [] := by rw [haa]; exact lg_entry_eq m _ 3
  refine W.eq hE ?_
  generalize (lg_sl ([.ref (a0 0)]) ++ List.replicate (3 - (lg_sl ([.ref (a0 0)])).length) Slot.unset).toArray = ls at hl ⊢
  have hl : lv_has ls 3 [(0, .ref (a0 0))] := hl
  change W p l e rm_X9_allGoats s m aa below meth c s.heap [] 0 0 (MQ below qq aa s 0 0 A) (F0 m 0 ls [])
  have hS0 := hS
  have c4 : ∀ (n : Nat), ∀ (x1 : Int32) (x2 : Int32) (H : Heap) (locs : List Loc) (ls : Array Slot), p_X9_allGoats_4 gv n x1 x2 = some R0 → va_P (dC, dI) vwCl (w_X9_allGoats cy a0 gv) H → va_D A (w_X9_allGoats cy a0 gv) → va_S A s.heap H locs → lv_has ls 3 [(0, .ref (a0 0)), (1, .int x1), (2, .int x2)] → W p l e rm_X9_allGoats s m aa below meth c H locs 0 0 (MQ below qq aa s 0 0 A) (F0 m 4 ls []) := by
    intro  n
    induction n with
    | zero => intro x1 x2 H locs ls h; exact no_some h
    | succ n ih =>
      intro x1 x2 H locs ls h hP hD hS hl
      rw [p_X9_allGoats_4.eq_2] at h
      refine lv_iload_n hx hb dX9_allGoats_4 rfl (lv_at hl 2 rfl) ?_
      refine lv_iconst (v := (5 : Int32)) hx hb dX9_allGoats_5 (by decide) ?_
      refine lv_icmp_ge (tgt := 23) hx hb dX9_allGoats_6 (by decide) (fun c1 => ?_) (fun c1 => ?_)
      · rw [if_pos c1] at h
        refine lv_iload_n hx hb dX9_allGoats_23 rfl (lv_at hl 1 rfl) ?_
        exact W.iret (v := x1) hx hb hr (fun t ht hW => by rw [hqq]; have hh := Option.some.inj h; exact ⟨⟨x1, (()), rfl, Option.some.inj h, by rw [ht]; exact hP, va_K.moved hW.alike hK⟩, hS.F ht⟩) hS.2.2 dX9_allGoats_24
      · rw [if_neg c1] at h
        refine lv_iload_n hx hb dX9_allGoats_9 rfl (lv_at hl 1 rfl) ?_
        refine lv_aload_n hx hb dX9_allGoats_10 rfl (lv_at hl 0 rfl) ?_
        refine lv_iload_n hx hb dX9_allGoats_11 rfl (lv_at hl 2 rfl) ?_
        obtain ⟨v2, hv3, h⟩ := ok_bind h
        refine cl_vi (w2 := fun (_ : Unit) => w_X9_allGoats cy a0 gv) (As := [.int x2]) (rest := [.int x1]) ⟨hx, hb, hml, hown, hts⟩ (c_X9_goatsOf l dC dI cy a0 gv x2 H.size v2 hv3) (cwV 1 hts gX9_allGoats_X9_goatsOf rfl rfl rfl (by decide +kernel) ⟨Nat.le_of_ble_eq_true rfl, Nat.le_of_ble_eq_true rfl⟩) (va_recv hK hP (ci := 7) (q0 := 0) rfl rfl) cl_blind (cl_pre hK hP hD [0, 1, 2, 3, 4, 5] (by decide) rfl) hP hD hS hA [0, 1, 2, 3, 4, 5] rfl rfl hl.1 rfl (lv_room (Nat.le_of_ble_eq_true rfl)) dX9_allGoats_12 ⟨Nat.le_of_ble_eq_true rfl, Nat.le_of_ble_eq_true rfl⟩ ⟨rfl, rfl⟩ (fun _ => updR [0, 1, 2, 3, 4, 5] rfl) (fun r u H locs hw hP hD hS => ?_)
        have hw := hw.symm
        subst hw
        have hP : va_P (dC, dI) vwCl (w_X9_allGoats cy a0 gv) H := hP
        have hD : va_D A (w_X9_allGoats cy a0 gv) := hD
        refine lv_iadd hx hb dX9_allGoats_15 ?_
        refine lv_istore_n (lv' := [(1, .int (x1 + v2)), (0, .ref (a0 0)), (2, .int x2)]) hx hb dX9_allGoats_16 rfl hl (by decide) rfl (fun ls hl => ?_)
        refine lv_iinc (v := (x2 + (1 : Int32))) (lv' := [(2, .int (x2 + (1 : Int32))), (1, .int (x1 + v2)), (0, .ref (a0 0))]) hx hb dX9_allGoats_17 hl (k := 2) rfl rfl (by decide) rfl (fun ls hl => ?_)
        refine lv_goto (tgt := 4) hx hb dX9_allGoats_20 (by decide) ?_
        exact ih (x1 + v2) (x2 + (1 : Int32)) H locs ls h hP hD hS (lv_sub hl [2, 1, 0] rfl)
  obtain ⟨H, hH⟩ : ∃ H : Heap, H = s.heap := ⟨_, rfl⟩
  obtain ⟨locs, hlocs⟩ : ∃ locs : List Loc, locs = [] := ⟨_, rfl⟩
  have hS : va_S A s.heap H locs := by rw [hH, hlocs]; exact hS
  rw [← hH] at hP
  suffices hg : W p l e rm_X9_allGoats s m aa below meth c H locs 0 0 (MQ below qq aa s 0 0 A) (F0 m 0 ls []) by subst hH; subst hlocs; exact hg
  unfold p_X9_allGoats at h
  refine lv_iconst (v := (0 : Int32)) hx hb dX9_allGoats_0 (by decide) ?_
  refine lv_istore_n (lv' := [(1, .int (0 : Int32)), (0, .ref (a0 0))]) hx hb dX9_allGoats_1 rfl hl (by decide) rfl (fun ls hl => ?_)
  refine lv_iconst (v := (0 : Int32)) hx hb dX9_allGoats_2 (by decide) ?_
  refine lv_istore_n (lv' := [(2, .int (0 : Int32)), (1, .int (0 : Int32)), (0, .ref (a0 0))]) hx hb dX9_allGoats_3 rfl hl (by decide) rfl (fun ls hl => ?_)
  exact c4 fu (0 : Int32) (0 : Int32) H locs ls h hP hD hS (lv_sub hl [2, 1, 0] rfl)

abbrev w_X9_hiddenBy (cy : Nat → ClassId) (a0 : Nat → Nat) (gv : Int32 × Int32 × (Nat → Int32) × (Nat → Int32) × (Nat → Int32) × (Nat → Int32) × (Nat → Int32)) : va_W := [(a0 0, .inr (7, [.int (gv.1), .int (gv.2.1), .ref (a0 1), .ref (a0 6), .ref (a0 10), .ref (a0 11), .ref (a0 12), .ref (a0 13), .ref (a0 14)])), (a0 10, .inl (cy 1, 5, .inl (gv.2.2.1))), (a0 11, .inl (cy 1, 5, .inl (gv.2.2.2.1))), (a0 12, .inl (cy 1, 5, .inl (gv.2.2.2.2.1))), (a0 13, .inl (cy 1, 5, .inl (gv.2.2.2.2.2.1))), (a0 14, .inl (cy 1, 5, .inl (gv.2.2.2.2.2.2)))]
abbrev rm_X9_hiddenBy : Room := { frames := 1, cells := 0, slots := 0, locals := 21 }
set_option maxHeartbeats 1000000 in
set_option maxRecDepth 100000 in
theorem c_X9_hiddenBy (l : Launch) (dC : Nat → ClassId) (dI : Nat → Nat → Nat) (cy : Nat → ClassId) (a0 : Nat → Nat) (gv : Int32 × Int32 × (Nat → Int32) × (Nat → Int32) × (Nat → Int32) × (Nat → Int32) × (Nat → Int32)) (x1 : Int32) (sz : Nat) (R0 : Int32) (h : p_X9_hiddenBy gv x1 = some R0) : Met l yX9_hiddenBy wsX9_hiddenBy rm_X9_hiddenBy (va_Pc [.ref (a0 0), .int x1] (prC dC dI cy (w_X9_hiddenBy cy a0 gv) sz)) (va_Qi (fun (r : Int32) (_ : Unit) => r = R0) (fun (_ : Unit) t => poC dC dI cy (w_X9_hiddenBy cy a0 gv) t) (va_A (w_X9_hiddenBy cy a0 gv) sz)) 0 0 (va_A (w_X9_hiddenBy cy a0 gv) sz) := by
  refine Met.ofW (cc := cX9_hiddenBy) (maxL := 2) (ret := (some .int)) (by decide) rfl ?_
  intro p e s m aa below meth c s₁ B hml hv
  obtain ⟨haa, hsz, hP, hK, hD0⟩ := hv
  have hx := B.exec
  have hb := B.bytes
  have hr := B.returns
  have hts := atoms_spec (ws := wsX9_hiddenBy) B.pre
  have hown : s.vm.findClass RX9 = some m.cls := findClass_of_methodNamed B.named
  have hlocks := B.notSynchronized
  subst hsz
  have hD := hD0.self (sz := s.heap.size)
  obtain ⟨qq, hqq⟩ : ∃ qq, qq = (va_Qi (fun (r : Int32) (_ : Unit) => r = R0) (fun (_ : Unit) t => poC dC dI cy (w_X9_hiddenBy cy a0 gv) t) (va_A (w_X9_hiddenBy cy a0 gv) s.heap.size)) := ⟨_, rfl⟩
  rw [← hqq]
  generalize hAe : va_A (w_X9_hiddenBy cy a0 gv) s.heap.size = A at hD hqq ⊢
  have hA : ∀ q : Nat, s.heap.size ≤ q → A q := fun q h => by rw [← hAe]; exact Or.inr h
  have hS : va_S A s.heap s.heap [] := va_S.rf
  have hl := lv_entry ([.ref (a0 0), .int x1]) (n := 2) (Nat.le_of_ble_eq_true rfl)
  have hE : entryFrame m aa 2 = F0 m 0 ((lg_sl ([.ref (a0 0), .int x1]) ++ List.replicate (2 - (lg_sl ([.ref (a0 0), .int x1])).length) Slot.unset).toArray) [] := by rw [haa]; exact lg_entry_eq m _ 2
  refine W.eq hE ?_
  generalize (lg_sl ([.ref (a0 0), .int x1]) ++ List.replicate (2 - (lg_sl ([.ref (a0 0), .int x1])).length) Slot.unset).toArray = ls at hl ⊢
  have hl : lv_has ls 2 [(0, .ref (a0 0)), (1, .int x1)] := hl
  change W p l e rm_X9_hiddenBy s m aa below meth c s.heap [] 0 0 (MQ below qq aa s 0 0 A) (F0 m 0 ls [])
  have hS0 := hS
  have lk0 := hts (.fieldLink RX9 32 "GoatDoors$Village" "hidden" "[I") (by decide +kernel)
  have in_X9 : ∀ w ∈ wsX90, w ∈ wsX9_hiddenBy := by decide +kernel
  obtain ⟨H, hH⟩ : ∃ H : Heap, H = s.heap := ⟨_, rfl⟩
  obtain ⟨locs, hlocs⟩ : ∃ locs : List Loc, locs = [] := ⟨_, rfl⟩
  have hS : va_S A s.heap H locs := by rw [hH, hlocs]; exact hS
  rw [← hH] at hP
  suffices hg : W p l e rm_X9_hiddenBy s m aa below meth c H locs 0 0 (MQ below qq aa s 0 0 A) (F0 m 0 ls []) by subst hH; subst hlocs; exact hg
  unfold p_X9_hiddenBy at h
  refine lv_aload_n hx hb dX9_hiddenBy_0 rfl (lv_at hl 0 rfl) ?_
  refine lv_iload_n hx hb dX9_hiddenBy_1 rfl (lv_at hl 1 rfl) ?_
  obtain ⟨v1, hv2, h⟩ := ok_bind h
  refine cl_vi (w2 := fun (_ : Unit) => w_X9_hiddenBy cy a0 gv) (As := [.int x1]) (rest := []) ⟨hx, hb, hml, hown, hts⟩ (c_X9_hasOwner l dC dI cy a0 gv x1 H.size v1 hv2) (cwV 1 hts gX9_hiddenBy_X9_hasOwner rfl rfl rfl (by decide +kernel) ⟨Nat.le_of_ble_eq_true rfl, Nat.le_of_ble_eq_true rfl⟩) (va_recv hK hP (ci := 7) (q0 := 0) rfl rfl) cl_blind (cl_pre hK hP hD [0, 1, 2, 3, 4, 5] (by decide) rfl) hP hD hS hA [0, 1, 2, 3, 4, 5] rfl rfl hl.1 rfl (lv_room (Nat.le_of_ble_eq_true rfl)) dX9_hiddenBy_2 ⟨Nat.le_of_ble_eq_true rfl, Nat.le_of_ble_eq_true rfl⟩ ⟨rfl, rfl⟩ (fun _ => updR [0, 1, 2, 3, 4, 5] rfl) (fun r u H locs hw hP hD hS => ?_)
  have hw := hw.symm
  subst hw
  have hP : va_P (dC, dI) vwCl (w_X9_hiddenBy cy a0 gv) H := hP
  have hD : va_D A (w_X9_hiddenBy cy a0 gv) := hD
  refine lv_if_eq (tgt := 17) hx hb dX9_hiddenBy_5 (by decide) (fun c3 => ?_) (fun c3 => ?_)
  · rw [if_pos c3] at h
    refine lv_iconst (v := (0 : Int32)) hx hb dX9_hiddenBy_17 (by decide) ?_
    exact W.iret (v := (0 : Int32)) hx hb hr (fun t ht hW => by rw [hqq]; have hh := Option.some.inj h; exact ⟨⟨(0 : Int32), (()), rfl, Option.some.inj h, by rw [ht]; exact hP, va_K.moved hW.alike hK⟩, hS.F ht⟩) hS.2.2 dX9_hiddenBy_18
  · rw [if_neg c3] at h
    refine lv_aload_n hx hb dX9_hiddenBy_8 rfl (lv_at hl 0 rfl) ?_
    refine va_get (D := (dC, dI)) (ci := 7) (v := .ref (a0 12)) (C := RX9) (T := TX9) (N := 9) hx hb hts in_X9 hown hK hP 0 rfl rfl 6 (by decide) lk0 (fun _ h9 => h9) rfl dX9_hiddenBy_9 ?_
    refine lv_iload_n hx hb dX9_hiddenBy_12 rfl (lv_at hl 1 rfl) ?_
    obtain ⟨hi4, h⟩ := ok_if h
    refine va_iald hx hb hK hP 3 1 rfl rfl (ix_in hi4) dX9_hiddenBy_13 ?_
    refine lv_goto (tgt := 18) hx hb dX9_hiddenBy_14 (by decide) ?_
    exact W.iret (v := (gv.2.2.2.2.1 x1.toNatClampNeg)) hx hb hr (fun t ht hW => by rw [hqq]; have hh := Option.some.inj h; exact ⟨⟨(gv.2.2.2.2.1 x1.toNatClampNeg), (()), rfl, Option.some.inj h, by rw [ht]; exact hP, va_K.moved hW.alike hK⟩, hS.F ht⟩) hS.2.2 dX9_hiddenBy_18

abbrev w_X9_takeCensus (cy : Nat → ClassId) (a0 : Nat → Nat) (gv : Int32 × Int32 × (Nat → Int32) × (Nat → Int32) × (Nat → Int32) × (Nat → Int32) × (Nat → Int32)) : va_W := [(a0 0, .inr (7, [.int (gv.1), .int (gv.2.1), .ref (a0 1), .ref (a0 6), .ref (a0 10), .ref (a0 11), .ref (a0 12), .ref (a0 13), .ref (a0 14)])), (a0 10, .inl (cy 1, 5, .inl (gv.2.2.1))), (a0 11, .inl (cy 1, 5, .inl (gv.2.2.2.1))), (a0 12, .inl (cy 1, 5, .inl (gv.2.2.2.2.1))), (a0 13, .inl (cy 1, 5, .inl (gv.2.2.2.2.2.1))), (a0 14, .inl (cy 1, 5, .inl (gv.2.2.2.2.2.2)))]
abbrev rm_X9_takeCensus : Room := { frames := 3, cells := 0, slots := 0, locals := 64 }
set_option maxHeartbeats 1000000 in
set_option maxRecDepth 100000 in
theorem c_X9_takeCensus (l : Launch) (dC : Nat → ClassId) (dI : Nat → Nat → Nat) (cy : Nat → ClassId) (a0 : Nat → Nat) (gv : Int32 × Int32 × (Nat → Int32) × (Nat → Int32) × (Nat → Int32) × (Nat → Int32) × (Nat → Int32)) (sz : Nat) (R0 : Int32 × (Int32 × Int32 × (Nat → Int32) × (Nat → Int32) × (Nat → Int32) × (Nat → Int32) × (Nat → Int32))) (h : p_X9_takeCensus gv = some R0) : Met l yX9_takeCensus wsX9_takeCensus rm_X9_takeCensus (va_Pc [.ref (a0 0)] (prC dC dI cy (w_X9_takeCensus cy a0 gv) sz)) (va_Qi (fun (r : Int32) (u : (Int32 × Int32 × (Nat → Int32) × (Nat → Int32) × (Nat → Int32) × (Nat → Int32) × (Nat → Int32))) => r = R0.1 ∧ u = R0.2) (fun (u : (Int32 × Int32 × (Nat → Int32) × (Nat → Int32) × (Nat → Int32) × (Nat → Int32) × (Nat → Int32))) t => poC dC dI cy (w_X9_takeCensus cy a0 u) t) (va_A (w_X9_takeCensus cy a0 gv) sz)) 0 0 (va_A (w_X9_takeCensus cy a0 gv) sz) := by
  refine Met.ofW (cc := cX9_takeCensus) (maxL := 2) (ret := (some .boolean)) (by decide) rfl ?_
  intro p e s m aa below meth c s₁ B hml hv
  obtain ⟨haa, hsz, hP, hK, hD0⟩ := hv
  have hx := B.exec
  have hb := B.bytes
  have hr := B.returns
  have hts := atoms_spec (ws := wsX9_takeCensus) B.pre
  have hown : s.vm.findClass RX9 = some m.cls := findClass_of_methodNamed B.named
  have hlocks := B.notSynchronized
  subst hsz
  have hD := hD0.self (sz := s.heap.size)
  obtain ⟨qq, hqq⟩ : ∃ qq, qq = (va_Qi (fun (r : Int32) (u : (Int32 × Int32 × (Nat → Int32) × (Nat → Int32) × (Nat → Int32) × (Nat → Int32) × (Nat → Int32))) => r = R0.1 ∧ u = R0.2) (fun (u : (Int32 × Int32 × (Nat → Int32) × (Nat → Int32) × (Nat → Int32) × (Nat → Int32) × (Nat → Int32))) t => poC dC dI cy (w_X9_takeCensus cy a0 u) t) (va_A (w_X9_takeCensus cy a0 gv) s.heap.size)) := ⟨_, rfl⟩
  rw [← hqq]
  generalize hAe : va_A (w_X9_takeCensus cy a0 gv) s.heap.size = A at hD hqq ⊢
  have hA : ∀ q : Nat, s.heap.size ≤ q → A q := fun q h => by rw [← hAe]; exact Or.inr h
  have hS : va_S A s.heap s.heap [] := va_S.rf
  have hl := lv_entry ([.ref (a0 0)]) (n := 2) (Nat.le_of_ble_eq_true rfl)
  have hE : entryFrame m aa 2 = F0 m 0 ((lg_sl ([.ref (a0 0)]) ++ List.replicate (2 - (lg_sl ([.ref (a0 0)])).length) Slot.unset).toArray) [] := by rw [haa]; exact lg_entry_eq m _ 2
  refine W.eq hE ?_
  generalize (lg_sl ([.ref (a0 0)]) ++ List.replicate (2 - (lg_sl ([.ref (a0 0)])).length) Slot.unset).toArray = ls at hl ⊢
  have hl : lv_has ls 2 [(0, .ref (a0 0))] := hl
  change W p l e rm_X9_takeCensus s m aa below meth c s.heap [] 0 0 (MQ below qq aa s 0 0 A) (F0 m 0 ls [])
  have hS0 := hS
  have lk0 := hts (.fieldLink RX9 45 "GoatDoors$Village" "base" "I") (by decide +kernel)
  have lk1 := hts (.fieldLink RX9 32 "GoatDoors$Village" "hidden" "[I") (by decide +kernel)
  have lk2 := hts (.fieldLink RX9 35 "GoatDoors$Village" "lent" "[I") (by decide +kernel)
  have lk3 := hts (.fieldLink RX9 38 "GoatDoors$Village" "borrowed" "[I") (by decide +kernel)
  have in_X9 : ∀ w ∈ wsX90, w ∈ wsX9_takeCensus := by decide +kernel
  have c10 : ∀ (n : Nat), ∀ (gv : Int32 × Int32 × (Nat → Int32) × (Nat → Int32) × (Nat → Int32) × (Nat → Int32) × (Nat → Int32)) (x1 : Int32) (H : Heap) (locs : List Loc) (ls : Array Slot), p_X9_takeCensus_10 n gv x1 = some R0 → va_P (dC, dI) vwCl (w_X9_takeCensus cy a0 gv) H → va_D A (w_X9_takeCensus cy a0 gv) → va_S A s.heap H locs → lv_has ls 2 [(0, .ref (a0 0)), (1, .int x1)] → W p l e rm_X9_takeCensus s m aa below meth c H locs 0 0 (MQ below qq aa s 0 0 A) (F0 m 10 ls []) := by
    intro  n
    induction n with
    | zero => intro gv x1 H locs ls h; exact no_some h
    | succ n ih =>
      intro gv x1 H locs ls h hP hD hS hl
      rw [p_X9_takeCensus_10.eq_2] at h
      refine lv_iload_n hx hb dX9_takeCensus_10 rfl (lv_at hl 1 rfl) ?_
      refine lv_iconst (v := (5 : Int32)) hx hb dX9_takeCensus_11 (by decide) ?_
      refine lv_icmp_ge (tgt := 56) hx hb dX9_takeCensus_12 (by decide) (fun c1 => ?_) (fun c1 => ?_)
      · rw [if_pos c1] at h
        refine lv_iconst (v := (1 : Int32)) hx hb dX9_takeCensus_56 (by decide) ?_
        exact W.zret (v := (1 : Int32)) (ty := .boolean) hx hb hr rfl (fun t ht hW => by rw [hqq]; have hh := Option.some.inj h; exact ⟨⟨(1 : Int32), (gv), rfl, ⟨fst_of hh, snd_of hh⟩, by rw [ht]; exact hP, va_K.moved hW.alike hK⟩, hS.F ht⟩) hS.2.2 dX9_takeCensus_57
      · rw [if_neg c1] at h
        refine lv_aload_n hx hb dX9_takeCensus_15 rfl (lv_at hl 0 rfl) ?_
        refine lv_dup hx hb dX9_takeCensus_16 rfl ?_
        refine va_get (D := (dC, dI)) (ci := 7) (v := .int gv.2.1) (C := RX9) (T := TX9) (N := 9) hx hb hts in_X9 hown hK hP 0 rfl rfl 1 (by decide) lk0 (fun _ h9 => h9) rfl dX9_takeCensus_17 ?_
        refine lv_aload_n hx hb dX9_takeCensus_20 rfl (lv_at hl 0 rfl) ?_
        refine lv_iload_n hx hb dX9_takeCensus_21 rfl (lv_at hl 1 rfl) ?_
        obtain ⟨v2, hv3, h⟩ := ok_bind h
        refine cl_vi (w2 := fun (_ : Unit) => w_X9_takeCensus cy a0 gv) (As := [.int x1]) (rest := [.int gv.2.1, .ref (a0 0)]) ⟨hx, hb, hml, hown, hts⟩ (c_X9_hiddenBy l dC dI cy a0 gv x1 H.size v2 hv3) (cwV 1 hts gX9_takeCensus_X9_hiddenBy rfl rfl rfl (by decide +kernel) ⟨Nat.le_of_ble_eq_true rfl, Nat.le_of_ble_eq_true rfl⟩) (va_recv hK hP (ci := 7) (q0 := 0) rfl rfl) cl_blind (cl_pre hK hP hD [0, 1, 2, 3, 4, 5] (by decide) rfl) hP hD hS hA [0, 1, 2, 3, 4, 5] rfl rfl hl.1 rfl (lv_room (Nat.le_of_ble_eq_true rfl)) dX9_takeCensus_22 ⟨Nat.le_of_ble_eq_true rfl, Nat.le_of_ble_eq_true rfl⟩ ⟨rfl, rfl⟩ (fun _ => updR [0, 1, 2, 3, 4, 5] rfl) (fun r u H locs hw hP hD hS => ?_)
        have hw := hw.symm
        subst hw
        have hP : va_P (dC, dI) vwCl (w_X9_takeCensus cy a0 gv) H := hP
        have hD : va_D A (w_X9_takeCensus cy a0 gv) := hD
        refine lv_isub hx hb dX9_takeCensus_25 ?_
        refine va_put (D := (dC, dI)) (ci := 7) (v := .int (gv.2.1 - v2)) (ty := .int) (C := RX9) (T := TX9) (N := 9) hx hb hts in_X9 tyX9 tyX9_ok nmX9 hown hK hP hD hS 0 rfl rfl 1 (by decide) lk0 (fun _ h9 => h9) rfl (by decide +kernel) rfl rfl (Nat.le_of_ble_eq_true rfl) dX9_takeCensus_26 (fun H locs hP hD hS => ?_)
        have hP : va_P (dC, dI) vwCl (w_X9_takeCensus cy a0 ((gv.1, (gv.2.1 - v2), gv.2.2))) H := hP
        have hD : va_D A (w_X9_takeCensus cy a0 ((gv.1, (gv.2.1 - v2), gv.2.2))) := hD
        refine lv_aload_n hx hb dX9_takeCensus_29 rfl (lv_at hl 0 rfl) ?_
        refine va_get (D := (dC, dI)) (ci := 7) (v := .ref (a0 12)) (C := RX9) (T := TX9) (N := 9) hx hb hts in_X9 hown hK hP 0 rfl rfl 6 (by decide) lk1 (fun _ h9 => h9) rfl dX9_takeCensus_30 ?_
        refine lv_iload_n hx hb dX9_takeCensus_33 rfl (lv_at hl 1 rfl) ?_
        refine lv_iconst (v := (0 : Int32)) hx hb dX9_takeCensus_34 (by decide) ?_
        obtain ⟨hi4, h⟩ := ok_if h
        refine va_iast hx hb hK hP hD hS 3 1 rfl rfl (ix_in hi4) dX9_takeCensus_35 (fun H locs hP hD hS => ?_)
        have hP : va_P (dC, dI) vwCl (w_X9_takeCensus cy a0 ((gv.1, (gv.2.1 - v2), gv.2.2.1, gv.2.2.2.1, (upd gv.2.2.2.2.1 x1.toNatClampNeg (0 : Int32)), gv.2.2.2.2.2))) H := hP
        have hD : va_D A (w_X9_takeCensus cy a0 ((gv.1, (gv.2.1 - v2), gv.2.2.1, gv.2.2.2.1, (upd gv.2.2.2.2.1 x1.toNatClampNeg (0 : Int32)), gv.2.2.2.2.2))) := hD
        refine lv_aload_n hx hb dX9_takeCensus_36 rfl (lv_at hl 0 rfl) ?_
        refine va_get (D := (dC, dI)) (ci := 7) (v := .ref (a0 13)) (C := RX9) (T := TX9) (N := 9) hx hb hts in_X9 hown hK hP 0 rfl rfl 7 (by decide) lk2 (fun _ h9 => h9) rfl dX9_takeCensus_37 ?_
        refine lv_iload_n hx hb dX9_takeCensus_40 rfl (lv_at hl 1 rfl) ?_
        refine lv_iconst (v := (0 : Int32)) hx hb dX9_takeCensus_41 (by decide) ?_
        obtain ⟨hi5, h⟩ := ok_if h
        refine va_iast hx hb hK hP hD hS 4 1 rfl rfl (ix_in hi5) dX9_takeCensus_42 (fun H locs hP hD hS => ?_)
        have hP : va_P (dC, dI) vwCl (w_X9_takeCensus cy a0 ((gv.1, (gv.2.1 - v2), gv.2.2.1, gv.2.2.2.1, (upd gv.2.2.2.2.1 x1.toNatClampNeg (0 : Int32)), (upd gv.2.2.2.2.2.1 x1.toNatClampNeg (0 : Int32)), gv.2.2.2.2.2.2))) H := hP
        have hD : va_D A (w_X9_takeCensus cy a0 ((gv.1, (gv.2.1 - v2), gv.2.2.1, gv.2.2.2.1, (upd gv.2.2.2.2.1 x1.toNatClampNeg (0 : Int32)), (upd gv.2.2.2.2.2.1 x1.toNatClampNeg (0 : Int32)), gv.2.2.2.2.2.2))) := hD
        refine lv_aload_n hx hb dX9_takeCensus_43 rfl (lv_at hl 0 rfl) ?_
        refine va_get (D := (dC, dI)) (ci := 7) (v := .ref (a0 14)) (C := RX9) (T := TX9) (N := 9) hx hb hts in_X9 hown hK hP 0 rfl rfl 8 (by decide) lk3 (fun _ h9 => h9) rfl dX9_takeCensus_44 ?_
        refine lv_iload_n hx hb dX9_takeCensus_47 rfl (lv_at hl 1 rfl) ?_
        refine lv_iconst (v := (0 : Int32)) hx hb dX9_takeCensus_48 (by decide) ?_
        obtain ⟨hi6, h⟩ := ok_if h
        refine va_iast hx hb hK hP hD hS 5 1 rfl rfl (ix_in hi6) dX9_takeCensus_49 (fun H locs hP hD hS => ?_)
        have hP : va_P (dC, dI) vwCl (w_X9_takeCensus cy a0 ((gv.1, (gv.2.1 - v2), gv.2.2.1, gv.2.2.2.1, (upd gv.2.2.2.2.1 x1.toNatClampNeg (0 : Int32)), (upd gv.2.2.2.2.2.1 x1.toNatClampNeg (0 : Int32)), (upd gv.2.2.2.2.2.2 x1.toNatClampNeg (0 : Int32))))) H := hP
        have hD : va_D A (w_X9_takeCensus cy a0 ((gv.1, (gv.2.1 - v2), gv.2.2.1, gv.2.2.2.1, (upd gv.2.2.2.2.1 x1.toNatClampNeg (0 : Int32)), (upd gv.2.2.2.2.2.1 x1.toNatClampNeg (0 : Int32)), (upd gv.2.2.2.2.2.2 x1.toNatClampNeg (0 : Int32))))) := hD
        refine lv_iinc (v := (x1 + (1 : Int32))) (lv' := [(1, .int (x1 + (1 : Int32))), (0, .ref (a0 0))]) hx hb dX9_takeCensus_50 hl (k := 1) rfl rfl (by decide) rfl (fun ls hl => ?_)
        refine lv_goto (tgt := 10) hx hb dX9_takeCensus_53 (by decide) ?_
        exact ih (gv.1, (gv.2.1 - v2), gv.2.2.1, gv.2.2.2.1, (upd gv.2.2.2.2.1 x1.toNatClampNeg (0 : Int32)), (upd gv.2.2.2.2.2.1 x1.toNatClampNeg (0 : Int32)), (upd gv.2.2.2.2.2.2 x1.toNatClampNeg (0 : Int32))) (x1 + (1 : Int32)) H locs ls h hP hD hS (lv_sub hl [1, 0] rfl)
  obtain ⟨H, hH⟩ : ∃ H : Heap, H = s.heap := ⟨_, rfl⟩
  obtain ⟨locs, hlocs⟩ : ∃ locs : List Loc, locs = [] := ⟨_, rfl⟩
  have hS : va_S A s.heap H locs := by rw [hH, hlocs]; exact hS
  rw [← hH] at hP
  suffices hg : W p l e rm_X9_takeCensus s m aa below meth c H locs 0 0 (MQ below qq aa s 0 0 A) (F0 m 0 ls []) by subst hH; subst hlocs; exact hg
  unfold p_X9_takeCensus at h
  refine lv_aload_n hx hb dX9_takeCensus_0 rfl (lv_at hl 0 rfl) ?_
  refine lv_aload_n hx hb dX9_takeCensus_1 rfl (lv_at hl 0 rfl) ?_
  obtain ⟨v1, hv2, h⟩ := ok_bind h
  refine cl_vi (w2 := fun (_ : Unit) => w_X9_takeCensus cy a0 gv) (As := []) (rest := [.ref (a0 0)]) ⟨hx, hb, hml, hown, hts⟩ (c_X9_allGoats l dC dI cy a0 gv H.size v1 hv2) (cwV 0 hts gX9_takeCensus_X9_allGoats rfl rfl rfl (by decide +kernel) ⟨Nat.le_of_ble_eq_true rfl, Nat.le_of_ble_eq_true rfl⟩) (va_recv hK hP (ci := 7) (q0 := 0) rfl rfl) cl_blind (cl_pre hK hP hD [0, 1, 2, 3, 4, 5] (by decide) rfl) hP hD hS hA [0, 1, 2, 3, 4, 5] rfl rfl hl.1 rfl (lv_room (Nat.le_of_ble_eq_true rfl)) dX9_takeCensus_2 ⟨Nat.le_of_ble_eq_true rfl, Nat.le_of_ble_eq_true rfl⟩ ⟨rfl, rfl⟩ (fun _ => updR [0, 1, 2, 3, 4, 5] rfl) (fun r u H locs hw hP hD hS => ?_)
  have hw := hw.symm
  subst hw
  have hP : va_P (dC, dI) vwCl (w_X9_takeCensus cy a0 gv) H := hP
  have hD : va_D A (w_X9_takeCensus cy a0 gv) := hD
  refine va_put (D := (dC, dI)) (ci := 7) (v := .int v1) (ty := .int) (C := RX9) (T := TX9) (N := 9) hx hb hts in_X9 tyX9 tyX9_ok nmX9 hown hK hP hD hS 0 rfl rfl 1 (by decide) lk0 (fun _ h9 => h9) rfl (by decide +kernel) rfl rfl (Nat.le_of_ble_eq_true rfl) dX9_takeCensus_5 (fun H locs hP hD hS => ?_)
  have hP : va_P (dC, dI) vwCl (w_X9_takeCensus cy a0 ((gv.1, v1, gv.2.2))) H := hP
  have hD : va_D A (w_X9_takeCensus cy a0 ((gv.1, v1, gv.2.2))) := hD
  refine lv_iconst (v := (0 : Int32)) hx hb dX9_takeCensus_8 (by decide) ?_
  refine lv_istore_n (lv' := [(1, .int (0 : Int32)), (0, .ref (a0 0))]) hx hb dX9_takeCensus_9 rfl hl (by decide) rfl (fun ls hl => ?_)
  exact c10 fu (gv.1, v1, gv.2.2) (0 : Int32) H locs ls h hP hD hS (lv_sub hl [1, 0] rfl)

abbrev w_X9_hide (cy : Nat → ClassId) (a0 : Nat → Nat) (gv : Int32 × Int32 × (Nat → Int32) × (Nat → Int32) × (Nat → Int32) × (Nat → Int32) × (Nat → Int32)) : va_W := [(a0 0, .inr (7, [.int (gv.1), .int (gv.2.1), .ref (a0 1), .ref (a0 6), .ref (a0 10), .ref (a0 11), .ref (a0 12), .ref (a0 13), .ref (a0 14)])), (a0 10, .inl (cy 1, 5, .inl (gv.2.2.1))), (a0 11, .inl (cy 1, 5, .inl (gv.2.2.2.1))), (a0 12, .inl (cy 1, 5, .inl (gv.2.2.2.2.1))), (a0 13, .inl (cy 1, 5, .inl (gv.2.2.2.2.2.1))), (a0 14, .inl (cy 1, 5, .inl (gv.2.2.2.2.2.2)))]
abbrev rm_X9_hide : Room := { frames := 1, cells := 0, slots := 0, locals := 21 }
set_option maxHeartbeats 1000000 in
set_option maxRecDepth 100000 in
theorem c_X9_hide (l : Launch) (dC : Nat → ClassId) (dI : Nat → Nat → Nat) (cy : Nat → ClassId) (a0 : Nat → Nat) (gv : Int32 × Int32 × (Nat → Int32) × (Nat → Int32) × (Nat → Int32) × (Nat → Int32) × (Nat → Int32)) (x1 : Int32) (x2 : Int32) (sz : Nat) (R0 : Int32 × (Int32 × Int32 × (Nat → Int32) × (Nat → Int32) × (Nat → Int32) × (Nat → Int32) × (Nat → Int32))) (h : p_X9_hide gv x1 x2 = some R0) : Met l yX9_hide wsX9_hide rm_X9_hide (va_Pc [.ref (a0 0), .int x1, .int x2] (prC dC dI cy (w_X9_hide cy a0 gv) sz)) (va_Qi (fun (r : Int32) (u : (Int32 × Int32 × (Nat → Int32) × (Nat → Int32) × (Nat → Int32) × (Nat → Int32) × (Nat → Int32))) => r = R0.1 ∧ u = R0.2) (fun (u : (Int32 × Int32 × (Nat → Int32) × (Nat → Int32) × (Nat → Int32) × (Nat → Int32) × (Nat → Int32))) t => poC dC dI cy (w_X9_hide cy a0 u) t) (va_A (w_X9_hide cy a0 gv) sz)) 0 0 (va_A (w_X9_hide cy a0 gv) sz) := by
  refine Met.ofW (cc := cX9_hide) (maxL := 3) (ret := (some .boolean)) (by decide) rfl ?_
  intro p e s m aa below meth c s₁ B hml hv
  obtain ⟨haa, hsz, hP, hK, hD0⟩ := hv
  have hx := B.exec
  have hb := B.bytes
  have hr := B.returns
  have hts := atoms_spec (ws := wsX9_hide) B.pre
  have hown : s.vm.findClass RX9 = some m.cls := findClass_of_methodNamed B.named
  have hlocks := B.notSynchronized
  subst hsz
  have hD := hD0.self (sz := s.heap.size)
  obtain ⟨qq, hqq⟩ : ∃ qq, qq = (va_Qi (fun (r : Int32) (u : (Int32 × Int32 × (Nat → Int32) × (Nat → Int32) × (Nat → Int32) × (Nat → Int32) × (Nat → Int32))) => r = R0.1 ∧ u = R0.2) (fun (u : (Int32 × Int32 × (Nat → Int32) × (Nat → Int32) × (Nat → Int32) × (Nat → Int32) × (Nat → Int32))) t => poC dC dI cy (w_X9_hide cy a0 u) t) (va_A (w_X9_hide cy a0 gv) s.heap.size)) := ⟨_, rfl⟩
  rw [← hqq]
  generalize hAe : va_A (w_X9_hide cy a0 gv) s.heap.size = A at hD hqq ⊢
  have hA : ∀ q : Nat, s.heap.size ≤ q → A q := fun q h => by rw [← hAe]; exact Or.inr h
  have hS : va_S A s.heap s.heap [] := va_S.rf
  have hl := lv_entry ([.ref (a0 0), .int x1, .int x2]) (n := 3) (Nat.le_of_ble_eq_true rfl)
  have hE : entryFrame m aa 3 = F0 m 0 ((lg_sl ([.ref (a0 0), .int x1, .int x2]) ++ List.replicate (3 - (lg_sl ([.ref (a0 0), .int x1, .int x2])).length) Slot.unset).toArray) [] := by rw [haa]; exact lg_entry_eq m _ 3
  refine W.eq hE ?_
  generalize (lg_sl ([.ref (a0 0), .int x1, .int x2]) ++ List.replicate (3 - (lg_sl ([.ref (a0 0), .int x1, .int x2])).length) Slot.unset).toArray = ls at hl ⊢
  have hl : lv_has ls 3 [(0, .ref (a0 0)), (1, .int x1), (2, .int x2)] := hl
  change W p l e rm_X9_hide s m aa below meth c s.heap [] 0 0 (MQ below qq aa s 0 0 A) (F0 m 0 ls [])
  have hS0 := hS
  have lk0 := hts (.fieldLink RX9 29 "GoatDoors$Village" "hides" "[I") (by decide +kernel)
  have lk1 := hts (.fieldLink RX9 25 "GoatDoors$Village" "goats" "[I") (by decide +kernel)
  have lk2 := hts (.fieldLink RX9 35 "GoatDoors$Village" "lent" "[I") (by decide +kernel)
  have lk3 := hts (.fieldLink RX9 32 "GoatDoors$Village" "hidden" "[I") (by decide +kernel)
  have in_X9 : ∀ w ∈ wsX90, w ∈ wsX9_hide := by decide +kernel
  obtain ⟨H, hH⟩ : ∃ H : Heap, H = s.heap := ⟨_, rfl⟩
  obtain ⟨locs, hlocs⟩ : ∃ locs : List Loc, locs = [] := ⟨_, rfl⟩
  have hS : va_S A s.heap H locs := by rw [hH, hlocs]; exact hS
  rw [← hH] at hP
  suffices hg : W p l e rm_X9_hide s m aa below meth c H locs 0 0 (MQ below qq aa s 0 0 A) (F0 m 0 ls []) by subst hH; subst hlocs; exact hg
  unfold p_X9_hide at h
  refine lv_aload_n hx hb dX9_hide_0 rfl (lv_at hl 0 rfl) ?_
  refine lv_iload_n hx hb dX9_hide_1 rfl (lv_at hl 1 rfl) ?_
  obtain ⟨v1, hv2, h⟩ := ok_bind h
  refine cl_vi (w2 := fun (_ : Unit) => w_X9_hide cy a0 gv) (As := [.int x1]) (rest := []) ⟨hx, hb, hml, hown, hts⟩ (c_X9_hasOwner l dC dI cy a0 gv x1 H.size v1 hv2) (cwV 1 hts gX9_hide_X9_hasOwner rfl rfl rfl (by decide +kernel) ⟨Nat.le_of_ble_eq_true rfl, Nat.le_of_ble_eq_true rfl⟩) (va_recv hK hP (ci := 7) (q0 := 0) rfl rfl) cl_blind (cl_pre hK hP hD [0, 1, 2, 3, 4, 5] (by decide) rfl) hP hD hS hA [0, 1, 2, 3, 4, 5] rfl rfl hl.1 rfl (lv_room (Nat.le_of_ble_eq_true rfl)) dX9_hide_2 ⟨Nat.le_of_ble_eq_true rfl, Nat.le_of_ble_eq_true rfl⟩ ⟨rfl, rfl⟩ (fun _ => updR [0, 1, 2, 3, 4, 5] rfl) (fun r u H locs hw hP hD hS => ?_)
  have hw := hw.symm
  subst hw
  have hP : va_P (dC, dI) vwCl (w_X9_hide cy a0 gv) H := hP
  have hD : va_D A (w_X9_hide cy a0 gv) := hD
  refine lv_if_eq (tgt := 35) hx hb dX9_hide_5 (by decide) (fun c3 => ?_) (fun c3 => ?_)
  · rw [if_pos c3] at h
    refine lv_iconst (v := (0 : Int32)) hx hb dX9_hide_35 (by decide) ?_
    exact W.zret (v := (0 : Int32)) (ty := .boolean) hx hb hr rfl (fun t ht hW => by rw [hqq]; have hh := Option.some.inj h; exact ⟨⟨(0 : Int32), (gv), rfl, ⟨fst_of hh, snd_of hh⟩, by rw [ht]; exact hP, va_K.moved hW.alike hK⟩, hS.F ht⟩) hS.2.2 dX9_hide_36
  · rw [if_neg c3] at h
    refine lv_iload_n hx hb dX9_hide_8 rfl (lv_at hl 2 rfl) ?_
    refine lv_aload_n hx hb dX9_hide_9 rfl (lv_at hl 0 rfl) ?_
    refine va_get (D := (dC, dI)) (ci := 7) (v := .ref (a0 11)) (C := RX9) (T := TX9) (N := 9) hx hb hts in_X9 hown hK hP 0 rfl rfl 5 (by decide) lk0 (fun _ h9 => h9) rfl dX9_hide_10 ?_
    refine lv_iload_n hx hb dX9_hide_13 rfl (lv_at hl 1 rfl) ?_
    obtain ⟨hi4, h⟩ := ok_if h
    refine va_iald hx hb hK hP 2 1 rfl rfl (ix_in hi4) dX9_hide_14 ?_
    refine lv_icmp_gt (tgt := 35) hx hb dX9_hide_15 (by decide) (fun c5 => ?_) (fun c5 => ?_)
    · rw [if_pos c5] at h
      refine lv_iconst (v := (0 : Int32)) hx hb dX9_hide_35 (by decide) ?_
      exact W.zret (v := (0 : Int32)) (ty := .boolean) hx hb hr rfl (fun t ht hW => by rw [hqq]; have hh := Option.some.inj h; exact ⟨⟨(0 : Int32), (gv), rfl, ⟨fst_of hh, snd_of hh⟩, by rw [ht]; exact hP, va_K.moved hW.alike hK⟩, hS.F ht⟩) hS.2.2 dX9_hide_36
    · rw [if_neg c5] at h
      refine lv_iload_n hx hb dX9_hide_18 rfl (lv_at hl 2 rfl) ?_
      refine lv_aload_n hx hb dX9_hide_19 rfl (lv_at hl 0 rfl) ?_
      refine va_get (D := (dC, dI)) (ci := 7) (v := .ref (a0 10)) (C := RX9) (T := TX9) (N := 9) hx hb hts in_X9 hown hK hP 0 rfl rfl 4 (by decide) lk1 (fun _ h9 => h9) rfl dX9_hide_20 ?_
      refine lv_iload_n hx hb dX9_hide_23 rfl (lv_at hl 1 rfl) ?_
      obtain ⟨hi6, h⟩ := ok_if h
      refine va_iald hx hb hK hP 1 1 rfl rfl (ix_in hi6) dX9_hide_24 ?_
      refine lv_aload_n hx hb dX9_hide_25 rfl (lv_at hl 0 rfl) ?_
      refine va_get (D := (dC, dI)) (ci := 7) (v := .ref (a0 13)) (C := RX9) (T := TX9) (N := 9) hx hb hts in_X9 hown hK hP 0 rfl rfl 7 (by decide) lk2 (fun _ h9 => h9) rfl dX9_hide_26 ?_
      refine lv_iload_n hx hb dX9_hide_29 rfl (lv_at hl 1 rfl) ?_
      obtain ⟨hi7, h⟩ := ok_if h
      refine va_iald hx hb hK hP 4 1 rfl rfl (ix_in hi7) dX9_hide_30 ?_
      refine lv_isub hx hb dX9_hide_31 ?_
      refine lv_icmp_le (tgt := 37) hx hb dX9_hide_32 (by decide) (fun c8 => ?_) (fun c8 => ?_)
      · rw [if_pos c8] at h
        refine lv_aload_n hx hb dX9_hide_37 rfl (lv_at hl 0 rfl) ?_
        refine va_get (D := (dC, dI)) (ci := 7) (v := .ref (a0 12)) (C := RX9) (T := TX9) (N := 9) hx hb hts in_X9 hown hK hP 0 rfl rfl 6 (by decide) lk3 (fun _ h9 => h9) rfl dX9_hide_38 ?_
        refine lv_iload_n hx hb dX9_hide_41 rfl (lv_at hl 1 rfl) ?_
        refine lv_iload_n hx hb dX9_hide_42 rfl (lv_at hl 2 rfl) ?_
        obtain ⟨hi9, h⟩ := ok_if h
        refine va_iast hx hb hK hP hD hS 3 1 rfl rfl (ix_in hi9) dX9_hide_43 (fun H locs hP hD hS => ?_)
        have hP : va_P (dC, dI) vwCl (w_X9_hide cy a0 ((gv.1, gv.2.1, gv.2.2.1, gv.2.2.2.1, (upd gv.2.2.2.2.1 x1.toNatClampNeg x2), gv.2.2.2.2.2))) H := hP
        have hD : va_D A (w_X9_hide cy a0 ((gv.1, gv.2.1, gv.2.2.1, gv.2.2.2.1, (upd gv.2.2.2.2.1 x1.toNatClampNeg x2), gv.2.2.2.2.2))) := hD
        refine lv_iconst (v := (1 : Int32)) hx hb dX9_hide_44 (by decide) ?_
        exact W.zret (v := (1 : Int32)) (ty := .boolean) hx hb hr rfl (fun t ht hW => by rw [hqq]; have hh := Option.some.inj h; exact ⟨⟨(1 : Int32), ((gv.1, gv.2.1, gv.2.2.1, gv.2.2.2.1, (upd gv.2.2.2.2.1 x1.toNatClampNeg x2), gv.2.2.2.2.2)), rfl, ⟨fst_of hh, snd_of hh⟩, by rw [ht]; exact hP, va_K.moved hW.alike hK⟩, hS.F ht⟩) hS.2.2 dX9_hide_45
      · rw [if_neg c8] at h
        refine lv_iconst (v := (0 : Int32)) hx hb dX9_hide_35 (by decide) ?_
        exact W.zret (v := (0 : Int32)) (ty := .boolean) hx hb hr rfl (fun t ht hW => by rw [hqq]; have hh := Option.some.inj h; exact ⟨⟨(0 : Int32), (gv), rfl, ⟨fst_of hh, snd_of hh⟩, by rw [ht]; exact hP, va_K.moved hW.alike hK⟩, hS.F ht⟩) hS.2.2 dX9_hide_36

abbrev w_X9_lentBy (cy : Nat → ClassId) (a0 : Nat → Nat) (gv : Int32 × Int32 × (Nat → Int32) × (Nat → Int32) × (Nat → Int32) × (Nat → Int32) × (Nat → Int32)) : va_W := [(a0 0, .inr (7, [.int (gv.1), .int (gv.2.1), .ref (a0 1), .ref (a0 6), .ref (a0 10), .ref (a0 11), .ref (a0 12), .ref (a0 13), .ref (a0 14)])), (a0 10, .inl (cy 1, 5, .inl (gv.2.2.1))), (a0 11, .inl (cy 1, 5, .inl (gv.2.2.2.1))), (a0 12, .inl (cy 1, 5, .inl (gv.2.2.2.2.1))), (a0 13, .inl (cy 1, 5, .inl (gv.2.2.2.2.2.1))), (a0 14, .inl (cy 1, 5, .inl (gv.2.2.2.2.2.2)))]
abbrev rm_X9_lentBy : Room := { frames := 1, cells := 0, slots := 0, locals := 21 }
set_option maxHeartbeats 1000000 in
set_option maxRecDepth 100000 in
theorem c_X9_lentBy (l : Launch) (dC : Nat → ClassId) (dI : Nat → Nat → Nat) (cy : Nat → ClassId) (a0 : Nat → Nat) (gv : Int32 × Int32 × (Nat → Int32) × (Nat → Int32) × (Nat → Int32) × (Nat → Int32) × (Nat → Int32)) (x1 : Int32) (sz : Nat) (R0 : Int32) (h : p_X9_lentBy gv x1 = some R0) : Met l yX9_lentBy wsX9_lentBy rm_X9_lentBy (va_Pc [.ref (a0 0), .int x1] (prC dC dI cy (w_X9_lentBy cy a0 gv) sz)) (va_Qi (fun (r : Int32) (_ : Unit) => r = R0) (fun (_ : Unit) t => poC dC dI cy (w_X9_lentBy cy a0 gv) t) (va_A (w_X9_lentBy cy a0 gv) sz)) 0 0 (va_A (w_X9_lentBy cy a0 gv) sz) := by
  refine Met.ofW (cc := cX9_lentBy) (maxL := 2) (ret := (some .int)) (by decide) rfl ?_
  intro p e s m aa below meth c s₁ B hml hv
  obtain ⟨haa, hsz, hP, hK, hD0⟩ := hv
  have hx := B.exec
  have hb := B.bytes
  have hr := B.returns
  have hts := atoms_spec (ws := wsX9_lentBy) B.pre
  have hown : s.vm.findClass RX9 = some m.cls := findClass_of_methodNamed B.named
  have hlocks := B.notSynchronized
  subst hsz
  have hD := hD0.self (sz := s.heap.size)
  obtain ⟨qq, hqq⟩ : ∃ qq, qq = (va_Qi (fun (r : Int32) (_ : Unit) => r = R0) (fun (_ : Unit) t => poC dC dI cy (w_X9_lentBy cy a0 gv) t) (va_A (w_X9_lentBy cy a0 gv) s.heap.size)) := ⟨_, rfl⟩
  rw [← hqq]
  generalize hAe : va_A (w_X9_lentBy cy a0 gv) s.heap.size = A at hD hqq ⊢
  have hA : ∀ q : Nat, s.heap.size ≤ q → A q := fun q h => by rw [← hAe]; exact Or.inr h
  have hS : va_S A s.heap s.heap [] := va_S.rf
  have hl := lv_entry ([.ref (a0 0), .int x1]) (n := 2) (Nat.le_of_ble_eq_true rfl)
  have hE : entryFrame m aa 2 = F0 m 0 ((lg_sl ([.ref (a0 0), .int x1]) ++ List.replicate (2 - (lg_sl ([.ref (a0 0), .int x1])).length) Slot.unset).toArray) [] := by rw [haa]; exact lg_entry_eq m _ 2
  refine W.eq hE ?_
  generalize (lg_sl ([.ref (a0 0), .int x1]) ++ List.replicate (2 - (lg_sl ([.ref (a0 0), .int x1])).length) Slot.unset).toArray = ls at hl ⊢
  have hl : lv_has ls 2 [(0, .ref (a0 0)), (1, .int x1)] := hl
  change W p l e rm_X9_lentBy s m aa below meth c s.heap [] 0 0 (MQ below qq aa s 0 0 A) (F0 m 0 ls [])
  have hS0 := hS
  have lk0 := hts (.fieldLink RX9 35 "GoatDoors$Village" "lent" "[I") (by decide +kernel)
  have in_X9 : ∀ w ∈ wsX90, w ∈ wsX9_lentBy := by decide +kernel
  obtain ⟨H, hH⟩ : ∃ H : Heap, H = s.heap := ⟨_, rfl⟩
  obtain ⟨locs, hlocs⟩ : ∃ locs : List Loc, locs = [] := ⟨_, rfl⟩
  have hS : va_S A s.heap H locs := by rw [hH, hlocs]; exact hS
  rw [← hH] at hP
  suffices hg : W p l e rm_X9_lentBy s m aa below meth c H locs 0 0 (MQ below qq aa s 0 0 A) (F0 m 0 ls []) by subst hH; subst hlocs; exact hg
  unfold p_X9_lentBy at h
  refine lv_aload_n hx hb dX9_lentBy_0 rfl (lv_at hl 0 rfl) ?_
  refine lv_iload_n hx hb dX9_lentBy_1 rfl (lv_at hl 1 rfl) ?_
  obtain ⟨v1, hv2, h⟩ := ok_bind h
  refine cl_vi (w2 := fun (_ : Unit) => w_X9_lentBy cy a0 gv) (As := [.int x1]) (rest := []) ⟨hx, hb, hml, hown, hts⟩ (c_X9_hasOwner l dC dI cy a0 gv x1 H.size v1 hv2) (cwV 1 hts gX9_lentBy_X9_hasOwner rfl rfl rfl (by decide +kernel) ⟨Nat.le_of_ble_eq_true rfl, Nat.le_of_ble_eq_true rfl⟩) (va_recv hK hP (ci := 7) (q0 := 0) rfl rfl) cl_blind (cl_pre hK hP hD [0, 1, 2, 3, 4, 5] (by decide) rfl) hP hD hS hA [0, 1, 2, 3, 4, 5] rfl rfl hl.1 rfl (lv_room (Nat.le_of_ble_eq_true rfl)) dX9_lentBy_2 ⟨Nat.le_of_ble_eq_true rfl, Nat.le_of_ble_eq_true rfl⟩ ⟨rfl, rfl⟩ (fun _ => updR [0, 1, 2, 3, 4, 5] rfl) (fun r u H locs hw hP hD hS => ?_)
  have hw := hw.symm
  subst hw
  have hP : va_P (dC, dI) vwCl (w_X9_lentBy cy a0 gv) H := hP
  have hD : va_D A (w_X9_lentBy cy a0 gv) := hD
  refine lv_if_eq (tgt := 17) hx hb dX9_lentBy_5 (by decide) (fun c3 => ?_) (fun c3 => ?_)
  · rw [if_pos c3] at h
    refine lv_iconst (v := (0 : Int32)) hx hb dX9_lentBy_17 (by decide) ?_
    exact W.iret (v := (0 : Int32)) hx hb hr (fun t ht hW => by rw [hqq]; have hh := Option.some.inj h; exact ⟨⟨(0 : Int32), (()), rfl, Option.some.inj h, by rw [ht]; exact hP, va_K.moved hW.alike hK⟩, hS.F ht⟩) hS.2.2 dX9_lentBy_18
  · rw [if_neg c3] at h
    refine lv_aload_n hx hb dX9_lentBy_8 rfl (lv_at hl 0 rfl) ?_
    refine va_get (D := (dC, dI)) (ci := 7) (v := .ref (a0 13)) (C := RX9) (T := TX9) (N := 9) hx hb hts in_X9 hown hK hP 0 rfl rfl 7 (by decide) lk0 (fun _ h9 => h9) rfl dX9_lentBy_9 ?_
    refine lv_iload_n hx hb dX9_lentBy_12 rfl (lv_at hl 1 rfl) ?_
    obtain ⟨hi4, h⟩ := ok_if h
    refine va_iald hx hb hK hP 4 1 rfl rfl (ix_in hi4) dX9_lentBy_13 ?_
    refine lv_goto (tgt := 18) hx hb dX9_lentBy_14 (by decide) ?_
    exact W.iret (v := (gv.2.2.2.2.2.1 x1.toNatClampNeg)) hx hb hr (fun t ht hW => by rw [hqq]; have hh := Option.some.inj h; exact ⟨⟨(gv.2.2.2.2.2.1 x1.toNatClampNeg), (()), rfl, Option.some.inj h, by rw [ht]; exact hP, va_K.moved hW.alike hK⟩, hS.F ht⟩) hS.2.2 dX9_lentBy_18

abbrev w_X9_atHand (cy : Nat → ClassId) (a0 : Nat → Nat) (gv : Int32 × Int32 × (Nat → Int32) × (Nat → Int32) × (Nat → Int32) × (Nat → Int32) × (Nat → Int32)) : va_W := [(a0 0, .inr (7, [.int (gv.1), .int (gv.2.1), .ref (a0 1), .ref (a0 6), .ref (a0 10), .ref (a0 11), .ref (a0 12), .ref (a0 13), .ref (a0 14)])), (a0 10, .inl (cy 1, 5, .inl (gv.2.2.1))), (a0 11, .inl (cy 1, 5, .inl (gv.2.2.2.1))), (a0 12, .inl (cy 1, 5, .inl (gv.2.2.2.2.1))), (a0 13, .inl (cy 1, 5, .inl (gv.2.2.2.2.2.1))), (a0 14, .inl (cy 1, 5, .inl (gv.2.2.2.2.2.2)))]
abbrev rm_X9_atHand : Room := { frames := 2, cells := 0, slots := 0, locals := 42 }
set_option maxHeartbeats 1000000 in
set_option maxRecDepth 100000 in
theorem c_X9_atHand (l : Launch) (dC : Nat → ClassId) (dI : Nat → Nat → Nat) (cy : Nat → ClassId) (a0 : Nat → Nat) (gv : Int32 × Int32 × (Nat → Int32) × (Nat → Int32) × (Nat → Int32) × (Nat → Int32) × (Nat → Int32)) (x1 : Int32) (sz : Nat) (R0 : Int32) (h : p_X9_atHand gv x1 = some R0) : Met l yX9_atHand wsX9_atHand rm_X9_atHand (va_Pc [.ref (a0 0), .int x1] (prC dC dI cy (w_X9_atHand cy a0 gv) sz)) (va_Qi (fun (r : Int32) (_ : Unit) => r = R0) (fun (_ : Unit) t => poC dC dI cy (w_X9_atHand cy a0 gv) t) (va_A (w_X9_atHand cy a0 gv) sz)) 0 0 (va_A (w_X9_atHand cy a0 gv) sz) := by
  refine Met.ofW (cc := cX9_atHand) (maxL := 2) (ret := (some .int)) (by decide) rfl ?_
  intro p e s m aa below meth c s₁ B hml hv
  obtain ⟨haa, hsz, hP, hK, hD0⟩ := hv
  have hx := B.exec
  have hb := B.bytes
  have hr := B.returns
  have hts := atoms_spec (ws := wsX9_atHand) B.pre
  have hown : s.vm.findClass RX9 = some m.cls := findClass_of_methodNamed B.named
  have hlocks := B.notSynchronized
  subst hsz
  have hD := hD0.self (sz := s.heap.size)
  obtain ⟨qq, hqq⟩ : ∃ qq, qq = (va_Qi (fun (r : Int32) (_ : Unit) => r = R0) (fun (_ : Unit) t => poC dC dI cy (w_X9_atHand cy a0 gv) t) (va_A (w_X9_atHand cy a0 gv) s.heap.size)) := ⟨_, rfl⟩
  rw [← hqq]
  generalize hAe : va_A (w_X9_atHand cy a0 gv) s.heap.size = A at hD hqq ⊢
  have hA : ∀ q : Nat, s.heap.size ≤ q → A q := fun q h => by rw [← hAe]; exact Or.inr h
  have hS : va_S A s.heap s.heap [] := va_S.rf
  have hl := lv_entry ([.ref (a0 0), .int x1]) (n := 2) (Nat.le_of_ble_eq_true rfl)
  have hE : entryFrame m aa 2 = F0 m 0 ((lg_sl ([.ref (a0 0), .int x1]) ++ List.replicate (2 - (lg_sl ([.ref (a0 0), .int x1])).length) Slot.unset).toArray) [] := by rw [haa]; exact lg_entry_eq m _ 2
  refine W.eq hE ?_
  generalize (lg_sl ([.ref (a0 0), .int x1]) ++ List.replicate (2 - (lg_sl ([.ref (a0 0), .int x1])).length) Slot.unset).toArray = ls at hl ⊢
  have hl : lv_has ls 2 [(0, .ref (a0 0)), (1, .int x1)] := hl
  change W p l e rm_X9_atHand s m aa below meth c s.heap [] 0 0 (MQ below qq aa s 0 0 A) (F0 m 0 ls [])
  have hS0 := hS
  obtain ⟨H, hH⟩ : ∃ H : Heap, H = s.heap := ⟨_, rfl⟩
  obtain ⟨locs, hlocs⟩ : ∃ locs : List Loc, locs = [] := ⟨_, rfl⟩
  have hS : va_S A s.heap H locs := by rw [hH, hlocs]; exact hS
  rw [← hH] at hP
  suffices hg : W p l e rm_X9_atHand s m aa below meth c H locs 0 0 (MQ below qq aa s 0 0 A) (F0 m 0 ls []) by subst hH; subst hlocs; exact hg
  unfold p_X9_atHand at h
  refine lv_aload_n hx hb dX9_atHand_0 rfl (lv_at hl 0 rfl) ?_
  refine lv_iload_n hx hb dX9_atHand_1 rfl (lv_at hl 1 rfl) ?_
  obtain ⟨v1, hv2, h⟩ := ok_bind h
  refine cl_vi (w2 := fun (_ : Unit) => w_X9_atHand cy a0 gv) (As := [.int x1]) (rest := []) ⟨hx, hb, hml, hown, hts⟩ (c_X9_goatsOf l dC dI cy a0 gv x1 H.size v1 hv2) (cwV 1 hts gX9_atHand_X9_goatsOf rfl rfl rfl (by decide +kernel) ⟨Nat.le_of_ble_eq_true rfl, Nat.le_of_ble_eq_true rfl⟩) (va_recv hK hP (ci := 7) (q0 := 0) rfl rfl) cl_blind (cl_pre hK hP hD [0, 1, 2, 3, 4, 5] (by decide) rfl) hP hD hS hA [0, 1, 2, 3, 4, 5] rfl rfl hl.1 rfl (lv_room (Nat.le_of_ble_eq_true rfl)) dX9_atHand_2 ⟨Nat.le_of_ble_eq_true rfl, Nat.le_of_ble_eq_true rfl⟩ ⟨rfl, rfl⟩ (fun _ => updR [0, 1, 2, 3, 4, 5] rfl) (fun r u H locs hw hP hD hS => ?_)
  have hw := hw.symm
  subst hw
  have hP : va_P (dC, dI) vwCl (w_X9_atHand cy a0 gv) H := hP
  have hD : va_D A (w_X9_atHand cy a0 gv) := hD
  refine lv_aload_n hx hb dX9_atHand_5 rfl (lv_at hl 0 rfl) ?_
  refine lv_iload_n hx hb dX9_atHand_6 rfl (lv_at hl 1 rfl) ?_
  obtain ⟨v3, hv4, h⟩ := ok_bind h
  refine cl_vi (w2 := fun (_ : Unit) => w_X9_atHand cy a0 gv) (As := [.int x1]) (rest := [.int v1]) ⟨hx, hb, hml, hown, hts⟩ (c_X9_lentBy l dC dI cy a0 gv x1 H.size v3 hv4) (cwV 1 hts gX9_atHand_X9_lentBy rfl rfl rfl (by decide +kernel) ⟨Nat.le_of_ble_eq_true rfl, Nat.le_of_ble_eq_true rfl⟩) (va_recv hK hP (ci := 7) (q0 := 0) rfl rfl) cl_blind (cl_pre hK hP hD [0, 1, 2, 3, 4, 5] (by decide) rfl) hP hD hS hA [0, 1, 2, 3, 4, 5] rfl rfl hl.1 rfl (lv_room (Nat.le_of_ble_eq_true rfl)) dX9_atHand_7 ⟨Nat.le_of_ble_eq_true rfl, Nat.le_of_ble_eq_true rfl⟩ ⟨rfl, rfl⟩ (fun _ => updR [0, 1, 2, 3, 4, 5] rfl) (fun r u H locs hw hP hD hS => ?_)
  have hw := hw.symm
  subst hw
  have hP : va_P (dC, dI) vwCl (w_X9_atHand cy a0 gv) H := hP
  have hD : va_D A (w_X9_atHand cy a0 gv) := hD
  refine lv_isub hx hb dX9_atHand_10 ?_
  refine lv_aload_n hx hb dX9_atHand_11 rfl (lv_at hl 0 rfl) ?_
  refine lv_iload_n hx hb dX9_atHand_12 rfl (lv_at hl 1 rfl) ?_
  obtain ⟨v5, hv6, h⟩ := ok_bind h
  refine cl_vi (w2 := fun (_ : Unit) => w_X9_atHand cy a0 gv) (As := [.int x1]) (rest := [.int (v1 - v3)]) ⟨hx, hb, hml, hown, hts⟩ (c_X9_hiddenBy l dC dI cy a0 gv x1 H.size v5 hv6) (cwV 1 hts gX9_atHand_X9_hiddenBy rfl rfl rfl (by decide +kernel) ⟨Nat.le_of_ble_eq_true rfl, Nat.le_of_ble_eq_true rfl⟩) (va_recv hK hP (ci := 7) (q0 := 0) rfl rfl) cl_blind (cl_pre hK hP hD [0, 1, 2, 3, 4, 5] (by decide) rfl) hP hD hS hA [0, 1, 2, 3, 4, 5] rfl rfl hl.1 rfl (lv_room (Nat.le_of_ble_eq_true rfl)) dX9_atHand_13 ⟨Nat.le_of_ble_eq_true rfl, Nat.le_of_ble_eq_true rfl⟩ ⟨rfl, rfl⟩ (fun _ => updR [0, 1, 2, 3, 4, 5] rfl) (fun r u H locs hw hP hD hS => ?_)
  have hw := hw.symm
  subst hw
  have hP : va_P (dC, dI) vwCl (w_X9_atHand cy a0 gv) H := hP
  have hD : va_D A (w_X9_atHand cy a0 gv) := hD
  refine lv_isub hx hb dX9_atHand_16 ?_
  exact W.iret (v := ((v1 - v3) - v5)) hx hb hr (fun t ht hW => by rw [hqq]; have hh := Option.some.inj h; exact ⟨⟨((v1 - v3) - v5), (()), rfl, Option.some.inj h, by rw [ht]; exact hP, va_K.moved hW.alike hK⟩, hS.F ht⟩) hS.2.2 dX9_atHand_17

abbrev w_X9_lend (cy : Nat → ClassId) (a0 : Nat → Nat) (gv : Int32 × Int32 × (Nat → Int32) × (Nat → Int32) × (Nat → Int32) × (Nat → Int32) × (Nat → Int32)) : va_W := [(a0 0, .inr (7, [.int (gv.1), .int (gv.2.1), .ref (a0 1), .ref (a0 6), .ref (a0 10), .ref (a0 11), .ref (a0 12), .ref (a0 13), .ref (a0 14)])), (a0 10, .inl (cy 1, 5, .inl (gv.2.2.1))), (a0 11, .inl (cy 1, 5, .inl (gv.2.2.2.1))), (a0 12, .inl (cy 1, 5, .inl (gv.2.2.2.2.1))), (a0 13, .inl (cy 1, 5, .inl (gv.2.2.2.2.2.1))), (a0 14, .inl (cy 1, 5, .inl (gv.2.2.2.2.2.2)))]
abbrev rm_X9_lend : Room := { frames := 3, cells := 0, slots := 0, locals := 63 }
set_option maxHeartbeats 1000000 in
set_option maxRecDepth 100000 in
theorem c_X9_lend (l : Launch) (dC : Nat → ClassId) (dI : Nat → Nat → Nat) (cy : Nat → ClassId) (a0 : Nat → Nat) (gv : Int32 × Int32 × (Nat → Int32) × (Nat → Int32) × (Nat → Int32) × (Nat → Int32) × (Nat → Int32)) (x1 : Int32) (x2 : Int32) (x3 : Int32) (sz : Nat) (R0 : Int32 × (Int32 × Int32 × (Nat → Int32) × (Nat → Int32) × (Nat → Int32) × (Nat → Int32) × (Nat → Int32))) (h : p_X9_lend gv x1 x2 x3 = some R0) : Met l yX9_lend wsX9_lend rm_X9_lend (va_Pc [.ref (a0 0), .int x1, .int x2, .int x3] (prC dC dI cy (w_X9_lend cy a0 gv) sz)) (va_Qi (fun (r : Int32) (u : (Int32 × Int32 × (Nat → Int32) × (Nat → Int32) × (Nat → Int32) × (Nat → Int32) × (Nat → Int32))) => r = R0.1 ∧ u = R0.2) (fun (u : (Int32 × Int32 × (Nat → Int32) × (Nat → Int32) × (Nat → Int32) × (Nat → Int32) × (Nat → Int32))) t => poC dC dI cy (w_X9_lend cy a0 u) t) (va_A (w_X9_lend cy a0 gv) sz)) 0 0 (va_A (w_X9_lend cy a0 gv) sz) := by
  refine Met.ofW (cc := cX9_lend) (maxL := 4) (ret := (some .boolean)) (by decide) rfl ?_
  intro p e s m aa below meth c s₁ B hml hv
  obtain ⟨haa, hsz, hP, hK, hD0⟩ := hv
  have hx := B.exec
  have hb := B.bytes
  have hr := B.returns
  have hts := atoms_spec (ws := wsX9_lend) B.pre
  have hown : s.vm.findClass RX9 = some m.cls := findClass_of_methodNamed B.named
  have hlocks := B.notSynchronized
  subst hsz
  have hD := hD0.self (sz := s.heap.size)
  obtain ⟨qq, hqq⟩ : ∃ qq, qq = (va_Qi (fun (r : Int32) (u : (Int32 × Int32 × (Nat → Int32) × (Nat → Int32) × (Nat → Int32) × (Nat → Int32) × (Nat → Int32))) => r = R0.1 ∧ u = R0.2) (fun (u : (Int32 × Int32 × (Nat → Int32) × (Nat → Int32) × (Nat → Int32) × (Nat → Int32) × (Nat → Int32))) t => poC dC dI cy (w_X9_lend cy a0 u) t) (va_A (w_X9_lend cy a0 gv) s.heap.size)) := ⟨_, rfl⟩
  rw [← hqq]
  generalize hAe : va_A (w_X9_lend cy a0 gv) s.heap.size = A at hD hqq ⊢
  have hA : ∀ q : Nat, s.heap.size ≤ q → A q := fun q h => by rw [← hAe]; exact Or.inr h
  have hS : va_S A s.heap s.heap [] := va_S.rf
  have hl := lv_entry ([.ref (a0 0), .int x1, .int x2, .int x3]) (n := 4) (Nat.le_of_ble_eq_true rfl)
  have hE : entryFrame m aa 4 = F0 m 0 ((lg_sl ([.ref (a0 0), .int x1, .int x2, .int x3]) ++ List.replicate (4 - (lg_sl ([.ref (a0 0), .int x1, .int x2, .int x3])).length) Slot.unset).toArray) [] := by rw [haa]; exact lg_entry_eq m _ 4
  refine W.eq hE ?_
  generalize (lg_sl ([.ref (a0 0), .int x1, .int x2, .int x3]) ++ List.replicate (4 - (lg_sl ([.ref (a0 0), .int x1, .int x2, .int x3])).length) Slot.unset).toArray = ls at hl ⊢
  have hl : lv_has ls 4 [(0, .ref (a0 0)), (1, .int x1), (2, .int x2), (3, .int x3)] := hl
  change W p l e rm_X9_lend s m aa below meth c s.heap [] 0 0 (MQ below qq aa s 0 0 A) (F0 m 0 ls [])
  have hS0 := hS
  have lk0 := hts (.fieldLink RX9 35 "GoatDoors$Village" "lent" "[I") (by decide +kernel)
  have lk1 := hts (.fieldLink RX9 38 "GoatDoors$Village" "borrowed" "[I") (by decide +kernel)
  have in_X9 : ∀ w ∈ wsX90, w ∈ wsX9_lend := by decide +kernel
  obtain ⟨H, hH⟩ : ∃ H : Heap, H = s.heap := ⟨_, rfl⟩
  obtain ⟨locs, hlocs⟩ : ∃ locs : List Loc, locs = [] := ⟨_, rfl⟩
  have hS : va_S A s.heap H locs := by rw [hH, hlocs]; exact hS
  rw [← hH] at hP
  suffices hg : W p l e rm_X9_lend s m aa below meth c H locs 0 0 (MQ below qq aa s 0 0 A) (F0 m 0 ls []) by subst hH; subst hlocs; exact hg
  unfold p_X9_lend at h
  refine lv_aload_n hx hb dX9_lend_0 rfl (lv_at hl 0 rfl) ?_
  refine lv_iload_n hx hb dX9_lend_1 rfl (lv_at hl 1 rfl) ?_
  obtain ⟨v1, hv2, h⟩ := ok_bind h
  refine cl_vi (w2 := fun (_ : Unit) => w_X9_lend cy a0 gv) (As := [.int x1]) (rest := []) ⟨hx, hb, hml, hown, hts⟩ (c_X9_hasOwner l dC dI cy a0 gv x1 H.size v1 hv2) (cwV 1 hts gX9_lend_X9_hasOwner rfl rfl rfl (by decide +kernel) ⟨Nat.le_of_ble_eq_true rfl, Nat.le_of_ble_eq_true rfl⟩) (va_recv hK hP (ci := 7) (q0 := 0) rfl rfl) cl_blind (cl_pre hK hP hD [0, 1, 2, 3, 4, 5] (by decide) rfl) hP hD hS hA [0, 1, 2, 3, 4, 5] rfl rfl hl.1 rfl (lv_room (Nat.le_of_ble_eq_true rfl)) dX9_lend_2 ⟨Nat.le_of_ble_eq_true rfl, Nat.le_of_ble_eq_true rfl⟩ ⟨rfl, rfl⟩ (fun _ => updR [0, 1, 2, 3, 4, 5] rfl) (fun r u H locs hw hP hD hS => ?_)
  have hw := hw.symm
  subst hw
  have hP : va_P (dC, dI) vwCl (w_X9_lend cy a0 gv) H := hP
  have hD : va_D A (w_X9_lend cy a0 gv) := hD
  refine lv_if_eq (tgt := 25) hx hb dX9_lend_5 (by decide) (fun c3 => ?_) (fun c3 => ?_)
  · rw [if_pos c3] at h
    refine lv_iconst (v := (0 : Int32)) hx hb dX9_lend_25 (by decide) ?_
    exact W.zret (v := (0 : Int32)) (ty := .boolean) hx hb hr rfl (fun t ht hW => by rw [hqq]; have hh := Option.some.inj h; exact ⟨⟨(0 : Int32), (gv), rfl, ⟨fst_of hh, snd_of hh⟩, by rw [ht]; exact hP, va_K.moved hW.alike hK⟩, hS.F ht⟩) hS.2.2 dX9_lend_26
  · rw [if_neg c3] at h
    refine lv_aload_n hx hb dX9_lend_8 rfl (lv_at hl 0 rfl) ?_
    refine lv_iload_n hx hb dX9_lend_9 rfl (lv_at hl 2 rfl) ?_
    obtain ⟨v4, hv5, h⟩ := ok_bind h
    refine cl_vi (w2 := fun (_ : Unit) => w_X9_lend cy a0 gv) (As := [.int x2]) (rest := []) ⟨hx, hb, hml, hown, hts⟩ (c_X9_hasOwner l dC dI cy a0 gv x2 H.size v4 hv5) (cwV 1 hts gX9_lend_X9_hasOwner rfl rfl rfl (by decide +kernel) ⟨Nat.le_of_ble_eq_true rfl, Nat.le_of_ble_eq_true rfl⟩) (va_recv hK hP (ci := 7) (q0 := 0) rfl rfl) cl_blind (cl_pre hK hP hD [0, 1, 2, 3, 4, 5] (by decide) rfl) hP hD hS hA [0, 1, 2, 3, 4, 5] rfl rfl hl.1 rfl (lv_room (Nat.le_of_ble_eq_true rfl)) dX9_lend_10 ⟨Nat.le_of_ble_eq_true rfl, Nat.le_of_ble_eq_true rfl⟩ ⟨rfl, rfl⟩ (fun _ => updR [0, 1, 2, 3, 4, 5] rfl) (fun r u H locs hw hP hD hS => ?_)
    have hw := hw.symm
    subst hw
    have hP : va_P (dC, dI) vwCl (w_X9_lend cy a0 gv) H := hP
    have hD : va_D A (w_X9_lend cy a0 gv) := hD
    refine lv_if_eq (tgt := 25) hx hb dX9_lend_13 (by decide) (fun c6 => ?_) (fun c6 => ?_)
    · rw [if_pos c6] at h
      refine lv_iconst (v := (0 : Int32)) hx hb dX9_lend_25 (by decide) ?_
      exact W.zret (v := (0 : Int32)) (ty := .boolean) hx hb hr rfl (fun t ht hW => by rw [hqq]; have hh := Option.some.inj h; exact ⟨⟨(0 : Int32), (gv), rfl, ⟨fst_of hh, snd_of hh⟩, by rw [ht]; exact hP, va_K.moved hW.alike hK⟩, hS.F ht⟩) hS.2.2 dX9_lend_26
    · rw [if_neg c6] at h
      refine lv_aload_n hx hb dX9_lend_16 rfl (lv_at hl 0 rfl) ?_
      refine lv_iload_n hx hb dX9_lend_17 rfl (lv_at hl 1 rfl) ?_
      obtain ⟨v7, hv8, h⟩ := ok_bind h
      refine cl_vi (w2 := fun (_ : Unit) => w_X9_lend cy a0 gv) (As := [.int x1]) (rest := []) ⟨hx, hb, hml, hown, hts⟩ (c_X9_atHand l dC dI cy a0 gv x1 H.size v7 hv8) (cwV 1 hts gX9_lend_X9_atHand rfl rfl rfl (by decide +kernel) ⟨Nat.le_of_ble_eq_true rfl, Nat.le_of_ble_eq_true rfl⟩) (va_recv hK hP (ci := 7) (q0 := 0) rfl rfl) cl_blind (cl_pre hK hP hD [0, 1, 2, 3, 4, 5] (by decide) rfl) hP hD hS hA [0, 1, 2, 3, 4, 5] rfl rfl hl.1 rfl (lv_room (Nat.le_of_ble_eq_true rfl)) dX9_lend_18 ⟨Nat.le_of_ble_eq_true rfl, Nat.le_of_ble_eq_true rfl⟩ ⟨rfl, rfl⟩ (fun _ => updR [0, 1, 2, 3, 4, 5] rfl) (fun r u H locs hw hP hD hS => ?_)
      have hw := hw.symm
      subst hw
      have hP : va_P (dC, dI) vwCl (w_X9_lend cy a0 gv) H := hP
      have hD : va_D A (w_X9_lend cy a0 gv) := hD
      refine lv_iload_n hx hb dX9_lend_21 rfl (lv_at hl 3 rfl) ?_
      refine lv_icmp_ge (tgt := 27) hx hb dX9_lend_22 (by decide) (fun c9 => ?_) (fun c9 => ?_)
      · rw [if_pos c9] at h
        refine lv_aload_n hx hb dX9_lend_27 rfl (lv_at hl 0 rfl) ?_
        refine va_get (D := (dC, dI)) (ci := 7) (v := .ref (a0 13)) (C := RX9) (T := TX9) (N := 9) hx hb hts in_X9 hown hK hP 0 rfl rfl 7 (by decide) lk0 (fun _ h9 => h9) rfl dX9_lend_28 ?_
        refine lv_iload_n hx hb dX9_lend_31 rfl (lv_at hl 1 rfl) ?_
        refine lv_dup2_11 hx hb dX9_lend_32 rfl rfl ?_
        obtain ⟨hi10, h⟩ := ok_if h
        refine va_iald hx hb hK hP 4 1 rfl rfl (ix_in hi10) dX9_lend_33 ?_
        refine lv_iload_n hx hb dX9_lend_34 rfl (lv_at hl 3 rfl) ?_
        refine lv_iadd hx hb dX9_lend_35 ?_
        obtain ⟨hi11, h⟩ := ok_if h
        refine va_iast hx hb hK hP hD hS 4 1 rfl rfl (ix_in hi11) dX9_lend_36 (fun H locs hP hD hS => ?_)
        have hP : va_P (dC, dI) vwCl (w_X9_lend cy a0 ((gv.1, gv.2.1, gv.2.2.1, gv.2.2.2.1, gv.2.2.2.2.1, (upd gv.2.2.2.2.2.1 x1.toNatClampNeg ((gv.2.2.2.2.2.1 x1.toNatClampNeg) + x3)), gv.2.2.2.2.2.2))) H := hP
        have hD : va_D A (w_X9_lend cy a0 ((gv.1, gv.2.1, gv.2.2.1, gv.2.2.2.1, gv.2.2.2.2.1, (upd gv.2.2.2.2.2.1 x1.toNatClampNeg ((gv.2.2.2.2.2.1 x1.toNatClampNeg) + x3)), gv.2.2.2.2.2.2))) := hD
        refine lv_aload_n hx hb dX9_lend_37 rfl (lv_at hl 0 rfl) ?_
        refine va_get (D := (dC, dI)) (ci := 7) (v := .ref (a0 14)) (C := RX9) (T := TX9) (N := 9) hx hb hts in_X9 hown hK hP 0 rfl rfl 8 (by decide) lk1 (fun _ h9 => h9) rfl dX9_lend_38 ?_
        refine lv_iload_n hx hb dX9_lend_41 rfl (lv_at hl 2 rfl) ?_
        refine lv_dup2_11 hx hb dX9_lend_42 rfl rfl ?_
        obtain ⟨hi12, h⟩ := ok_if h
        refine va_iald hx hb hK hP 5 1 rfl rfl (ix_in hi12) dX9_lend_43 ?_
        refine lv_iload_n hx hb dX9_lend_44 rfl (lv_at hl 3 rfl) ?_
        refine lv_iadd hx hb dX9_lend_45 ?_
        obtain ⟨hi13, h⟩ := ok_if h
        refine va_iast hx hb hK hP hD hS 5 1 rfl rfl (ix_in hi13) dX9_lend_46 (fun H locs hP hD hS => ?_)
        have hP : va_P (dC, dI) vwCl (w_X9_lend cy a0 ((gv.1, gv.2.1, gv.2.2.1, gv.2.2.2.1, gv.2.2.2.2.1, (upd gv.2.2.2.2.2.1 x1.toNatClampNeg ((gv.2.2.2.2.2.1 x1.toNatClampNeg) + x3)), (upd gv.2.2.2.2.2.2 x2.toNatClampNeg ((gv.2.2.2.2.2.2 x2.toNatClampNeg) + x3))))) H := hP
        have hD : va_D A (w_X9_lend cy a0 ((gv.1, gv.2.1, gv.2.2.1, gv.2.2.2.1, gv.2.2.2.2.1, (upd gv.2.2.2.2.2.1 x1.toNatClampNeg ((gv.2.2.2.2.2.1 x1.toNatClampNeg) + x3)), (upd gv.2.2.2.2.2.2 x2.toNatClampNeg ((gv.2.2.2.2.2.2 x2.toNatClampNeg) + x3))))) := hD
        refine lv_iconst (v := (1 : Int32)) hx hb dX9_lend_47 (by decide) ?_
        exact W.zret (v := (1 : Int32)) (ty := .boolean) hx hb hr rfl (fun t ht hW => by rw [hqq]; have hh := Option.some.inj h; exact ⟨⟨(1 : Int32), ((gv.1, gv.2.1, gv.2.2.1, gv.2.2.2.1, gv.2.2.2.2.1, (upd gv.2.2.2.2.2.1 x1.toNatClampNeg ((gv.2.2.2.2.2.1 x1.toNatClampNeg) + x3)), (upd gv.2.2.2.2.2.2 x2.toNatClampNeg ((gv.2.2.2.2.2.2 x2.toNatClampNeg) + x3)))), rfl, ⟨fst_of hh, snd_of hh⟩, by rw [ht]; exact hP, va_K.moved hW.alike hK⟩, hS.F ht⟩) hS.2.2 dX9_lend_48
      · rw [if_neg c9] at h
        refine lv_iconst (v := (0 : Int32)) hx hb dX9_lend_25 (by decide) ?_
        exact W.zret (v := (0 : Int32)) (ty := .boolean) hx hb hr rfl (fun t ht hW => by rw [hqq]; have hh := Option.some.inj h; exact ⟨⟨(0 : Int32), (gv), rfl, ⟨fst_of hh, snd_of hh⟩, by rw [ht]; exact hP, va_K.moved hW.alike hK⟩, hS.F ht⟩) hS.2.2 dX9_lend_26

abbrev w_X9_eat (cy : Nat → ClassId) (a0 : Nat → Nat) (gv : Int32 × Int32 × (Nat → Int32) × (Nat → Int32) × (Nat → Int32) × (Nat → Int32) × (Nat → Int32)) : va_W := [(a0 0, .inr (7, [.int (gv.1), .int (gv.2.1), .ref (a0 1), .ref (a0 6), .ref (a0 10), .ref (a0 11), .ref (a0 12), .ref (a0 13), .ref (a0 14)])), (a0 10, .inl (cy 1, 5, .inl (gv.2.2.1))), (a0 11, .inl (cy 1, 5, .inl (gv.2.2.2.1))), (a0 12, .inl (cy 1, 5, .inl (gv.2.2.2.2.1))), (a0 13, .inl (cy 1, 5, .inl (gv.2.2.2.2.2.1))), (a0 14, .inl (cy 1, 5, .inl (gv.2.2.2.2.2.2)))]
abbrev rm_X9_eat : Room := { frames := 3, cells := 0, slots := 0, locals := 63 }
set_option maxHeartbeats 1000000 in
set_option maxRecDepth 100000 in
theorem c_X9_eat (l : Launch) (dC : Nat → ClassId) (dI : Nat → Nat → Nat) (cy : Nat → ClassId) (a0 : Nat → Nat) (gv : Int32 × Int32 × (Nat → Int32) × (Nat → Int32) × (Nat → Int32) × (Nat → Int32) × (Nat → Int32)) (x1 : Int32) (x2 : Int32) (sz : Nat) (R0 : Int32 × (Int32 × Int32 × (Nat → Int32) × (Nat → Int32) × (Nat → Int32) × (Nat → Int32) × (Nat → Int32))) (h : p_X9_eat gv x1 x2 = some R0) : Met l yX9_eat wsX9_eat rm_X9_eat (va_Pc [.ref (a0 0), .int x1, .int x2] (prC dC dI cy (w_X9_eat cy a0 gv) sz)) (va_Qi (fun (r : Int32) (u : (Int32 × Int32 × (Nat → Int32) × (Nat → Int32) × (Nat → Int32) × (Nat → Int32) × (Nat → Int32))) => r = R0.1 ∧ u = R0.2) (fun (u : (Int32 × Int32 × (Nat → Int32) × (Nat → Int32) × (Nat → Int32) × (Nat → Int32) × (Nat → Int32))) t => poC dC dI cy (w_X9_eat cy a0 u) t) (va_A (w_X9_eat cy a0 gv) sz)) 0 0 (va_A (w_X9_eat cy a0 gv) sz) := by
  refine Met.ofW (cc := cX9_eat) (maxL := 3) (ret := (some .boolean)) (by decide) rfl ?_
  intro p e s m aa below meth c s₁ B hml hv
  obtain ⟨haa, hsz, hP, hK, hD0⟩ := hv
  have hx := B.exec
  have hb := B.bytes
  have hr := B.returns
  have hts := atoms_spec (ws := wsX9_eat) B.pre
  have hown : s.vm.findClass RX9 = some m.cls := findClass_of_methodNamed B.named
  have hlocks := B.notSynchronized
  subst hsz
  have hD := hD0.self (sz := s.heap.size)
  obtain ⟨qq, hqq⟩ : ∃ qq, qq = (va_Qi (fun (r : Int32) (u : (Int32 × Int32 × (Nat → Int32) × (Nat → Int32) × (Nat → Int32) × (Nat → Int32) × (Nat → Int32))) => r = R0.1 ∧ u = R0.2) (fun (u : (Int32 × Int32 × (Nat → Int32) × (Nat → Int32) × (Nat → Int32) × (Nat → Int32) × (Nat → Int32))) t => poC dC dI cy (w_X9_eat cy a0 u) t) (va_A (w_X9_eat cy a0 gv) s.heap.size)) := ⟨_, rfl⟩
  rw [← hqq]
  generalize hAe : va_A (w_X9_eat cy a0 gv) s.heap.size = A at hD hqq ⊢
  have hA : ∀ q : Nat, s.heap.size ≤ q → A q := fun q h => by rw [← hAe]; exact Or.inr h
  have hS : va_S A s.heap s.heap [] := va_S.rf
  have hl := lv_entry ([.ref (a0 0), .int x1, .int x2]) (n := 3) (Nat.le_of_ble_eq_true rfl)
  have hE : entryFrame m aa 3 = F0 m 0 ((lg_sl ([.ref (a0 0), .int x1, .int x2]) ++ List.replicate (3 - (lg_sl ([.ref (a0 0), .int x1, .int x2])).length) Slot.unset).toArray) [] := by rw [haa]; exact lg_entry_eq m _ 3
  refine W.eq hE ?_
  generalize (lg_sl ([.ref (a0 0), .int x1, .int x2]) ++ List.replicate (3 - (lg_sl ([.ref (a0 0), .int x1, .int x2])).length) Slot.unset).toArray = ls at hl ⊢
  have hl : lv_has ls 3 [(0, .ref (a0 0)), (1, .int x1), (2, .int x2)] := hl
  change W p l e rm_X9_eat s m aa below meth c s.heap [] 0 0 (MQ below qq aa s 0 0 A) (F0 m 0 ls [])
  have hS0 := hS
  have lk0 := hts (.fieldLink RX9 25 "GoatDoors$Village" "goats" "[I") (by decide +kernel)
  have in_X9 : ∀ w ∈ wsX90, w ∈ wsX9_eat := by decide +kernel
  obtain ⟨H, hH⟩ : ∃ H : Heap, H = s.heap := ⟨_, rfl⟩
  obtain ⟨locs, hlocs⟩ : ∃ locs : List Loc, locs = [] := ⟨_, rfl⟩
  have hS : va_S A s.heap H locs := by rw [hH, hlocs]; exact hS
  rw [← hH] at hP
  suffices hg : W p l e rm_X9_eat s m aa below meth c H locs 0 0 (MQ below qq aa s 0 0 A) (F0 m 0 ls []) by subst hH; subst hlocs; exact hg
  unfold p_X9_eat at h
  refine lv_aload_n hx hb dX9_eat_0 rfl (lv_at hl 0 rfl) ?_
  refine lv_iload_n hx hb dX9_eat_1 rfl (lv_at hl 1 rfl) ?_
  obtain ⟨v1, hv2, h⟩ := ok_bind h
  refine cl_vi (w2 := fun (_ : Unit) => w_X9_eat cy a0 gv) (As := [.int x1]) (rest := []) ⟨hx, hb, hml, hown, hts⟩ (c_X9_hasOwner l dC dI cy a0 gv x1 H.size v1 hv2) (cwV 1 hts gX9_eat_X9_hasOwner rfl rfl rfl (by decide +kernel) ⟨Nat.le_of_ble_eq_true rfl, Nat.le_of_ble_eq_true rfl⟩) (va_recv hK hP (ci := 7) (q0 := 0) rfl rfl) cl_blind (cl_pre hK hP hD [0, 1, 2, 3, 4, 5] (by decide) rfl) hP hD hS hA [0, 1, 2, 3, 4, 5] rfl rfl hl.1 rfl (lv_room (Nat.le_of_ble_eq_true rfl)) dX9_eat_2 ⟨Nat.le_of_ble_eq_true rfl, Nat.le_of_ble_eq_true rfl⟩ ⟨rfl, rfl⟩ (fun _ => updR [0, 1, 2, 3, 4, 5] rfl) (fun r u H locs hw hP hD hS => ?_)
  have hw := hw.symm
  subst hw
  have hP : va_P (dC, dI) vwCl (w_X9_eat cy a0 gv) H := hP
  have hD : va_D A (w_X9_eat cy a0 gv) := hD
  refine lv_if_eq (tgt := 17) hx hb dX9_eat_5 (by decide) (fun c3 => ?_) (fun c3 => ?_)
  · rw [if_pos c3] at h
    refine lv_iconst (v := (0 : Int32)) hx hb dX9_eat_17 (by decide) ?_
    exact W.zret (v := (0 : Int32)) (ty := .boolean) hx hb hr rfl (fun t ht hW => by rw [hqq]; have hh := Option.some.inj h; exact ⟨⟨(0 : Int32), (gv), rfl, ⟨fst_of hh, snd_of hh⟩, by rw [ht]; exact hP, va_K.moved hW.alike hK⟩, hS.F ht⟩) hS.2.2 dX9_eat_18
  · rw [if_neg c3] at h
    refine lv_aload_n hx hb dX9_eat_8 rfl (lv_at hl 0 rfl) ?_
    refine lv_iload_n hx hb dX9_eat_9 rfl (lv_at hl 1 rfl) ?_
    obtain ⟨v4, hv5, h⟩ := ok_bind h
    refine cl_vi (w2 := fun (_ : Unit) => w_X9_eat cy a0 gv) (As := [.int x1]) (rest := []) ⟨hx, hb, hml, hown, hts⟩ (c_X9_atHand l dC dI cy a0 gv x1 H.size v4 hv5) (cwV 1 hts gX9_eat_X9_atHand rfl rfl rfl (by decide +kernel) ⟨Nat.le_of_ble_eq_true rfl, Nat.le_of_ble_eq_true rfl⟩) (va_recv hK hP (ci := 7) (q0 := 0) rfl rfl) cl_blind (cl_pre hK hP hD [0, 1, 2, 3, 4, 5] (by decide) rfl) hP hD hS hA [0, 1, 2, 3, 4, 5] rfl rfl hl.1 rfl (lv_room (Nat.le_of_ble_eq_true rfl)) dX9_eat_10 ⟨Nat.le_of_ble_eq_true rfl, Nat.le_of_ble_eq_true rfl⟩ ⟨rfl, rfl⟩ (fun _ => updR [0, 1, 2, 3, 4, 5] rfl) (fun r u H locs hw hP hD hS => ?_)
    have hw := hw.symm
    subst hw
    have hP : va_P (dC, dI) vwCl (w_X9_eat cy a0 gv) H := hP
    have hD : va_D A (w_X9_eat cy a0 gv) := hD
    refine lv_iload_n hx hb dX9_eat_13 rfl (lv_at hl 2 rfl) ?_
    refine lv_icmp_ge (tgt := 19) hx hb dX9_eat_14 (by decide) (fun c6 => ?_) (fun c6 => ?_)
    · rw [if_pos c6] at h
      refine lv_aload_n hx hb dX9_eat_19 rfl (lv_at hl 0 rfl) ?_
      refine va_get (D := (dC, dI)) (ci := 7) (v := .ref (a0 10)) (C := RX9) (T := TX9) (N := 9) hx hb hts in_X9 hown hK hP 0 rfl rfl 4 (by decide) lk0 (fun _ h9 => h9) rfl dX9_eat_20 ?_
      refine lv_iload_n hx hb dX9_eat_23 rfl (lv_at hl 1 rfl) ?_
      refine lv_dup2_11 hx hb dX9_eat_24 rfl rfl ?_
      obtain ⟨hi7, h⟩ := ok_if h
      refine va_iald hx hb hK hP 1 1 rfl rfl (ix_in hi7) dX9_eat_25 ?_
      refine lv_iload_n hx hb dX9_eat_26 rfl (lv_at hl 2 rfl) ?_
      refine lv_isub hx hb dX9_eat_27 ?_
      obtain ⟨hi8, h⟩ := ok_if h
      refine va_iast hx hb hK hP hD hS 1 1 rfl rfl (ix_in hi8) dX9_eat_28 (fun H locs hP hD hS => ?_)
      have hP : va_P (dC, dI) vwCl (w_X9_eat cy a0 ((gv.1, gv.2.1, (upd gv.2.2.1 x1.toNatClampNeg ((gv.2.2.1 x1.toNatClampNeg) - x2)), gv.2.2.2))) H := hP
      have hD : va_D A (w_X9_eat cy a0 ((gv.1, gv.2.1, (upd gv.2.2.1 x1.toNatClampNeg ((gv.2.2.1 x1.toNatClampNeg) - x2)), gv.2.2.2))) := hD
      refine lv_iconst (v := (1 : Int32)) hx hb dX9_eat_29 (by decide) ?_
      exact W.zret (v := (1 : Int32)) (ty := .boolean) hx hb hr rfl (fun t ht hW => by rw [hqq]; have hh := Option.some.inj h; exact ⟨⟨(1 : Int32), ((gv.1, gv.2.1, (upd gv.2.2.1 x1.toNatClampNeg ((gv.2.2.1 x1.toNatClampNeg) - x2)), gv.2.2.2)), rfl, ⟨fst_of hh, snd_of hh⟩, by rw [ht]; exact hP, va_K.moved hW.alike hK⟩, hS.F ht⟩) hS.2.2 dX9_eat_30
    · rw [if_neg c6] at h
      refine lv_iconst (v := (0 : Int32)) hx hb dX9_eat_17 (by decide) ?_
      exact W.zret (v := (0 : Int32)) (ty := .boolean) hx hb hr rfl (fun t ht hW => by rw [hqq]; have hh := Option.some.inj h; exact ⟨⟨(0 : Int32), (gv), rfl, ⟨fst_of hh, snd_of hh⟩, by rw [ht]; exact hP, va_K.moved hW.alike hK⟩, hS.F ht⟩) hS.2.2 dX9_eat_18

abbrev w_X9_bear (cy : Nat → ClassId) (a0 : Nat → Nat) (gv : Int32 × Int32 × (Nat → Int32) × (Nat → Int32) × (Nat → Int32) × (Nat → Int32) × (Nat → Int32)) : va_W := [(a0 0, .inr (7, [.int (gv.1), .int (gv.2.1), .ref (a0 1), .ref (a0 6), .ref (a0 10), .ref (a0 11), .ref (a0 12), .ref (a0 13), .ref (a0 14)])), (a0 10, .inl (cy 1, 5, .inl (gv.2.2.1))), (a0 11, .inl (cy 1, 5, .inl (gv.2.2.2.1))), (a0 12, .inl (cy 1, 5, .inl (gv.2.2.2.2.1))), (a0 13, .inl (cy 1, 5, .inl (gv.2.2.2.2.2.1))), (a0 14, .inl (cy 1, 5, .inl (gv.2.2.2.2.2.2)))]
abbrev rm_X9_bear : Room := { frames := 3, cells := 0, slots := 0, locals := 64 }
set_option maxHeartbeats 1000000 in
set_option maxRecDepth 100000 in
theorem c_X9_bear (l : Launch) (dC : Nat → ClassId) (dI : Nat → Nat → Nat) (cy : Nat → ClassId) (a0 : Nat → Nat) (gv : Int32 × Int32 × (Nat → Int32) × (Nat → Int32) × (Nat → Int32) × (Nat → Int32) × (Nat → Int32)) (x1 : Int32) (x2 : Int32) (sz : Nat) (R0 : Int32 × (Int32 × Int32 × (Nat → Int32) × (Nat → Int32) × (Nat → Int32) × (Nat → Int32) × (Nat → Int32))) (h : p_X9_bear gv x1 x2 = some R0) : Met l yX9_bear wsX9_bear rm_X9_bear (va_Pc [.ref (a0 0), .int x1, .int x2] (prC dC dI cy (w_X9_bear cy a0 gv) sz)) (va_Qi (fun (r : Int32) (u : (Int32 × Int32 × (Nat → Int32) × (Nat → Int32) × (Nat → Int32) × (Nat → Int32) × (Nat → Int32))) => r = R0.1 ∧ u = R0.2) (fun (u : (Int32 × Int32 × (Nat → Int32) × (Nat → Int32) × (Nat → Int32) × (Nat → Int32) × (Nat → Int32))) t => poC dC dI cy (w_X9_bear cy a0 u) t) (va_A (w_X9_bear cy a0 gv) sz)) 0 0 (va_A (w_X9_bear cy a0 gv) sz) := by
  refine Met.ofW (cc := cX9_bear) (maxL := 3) (ret := (some .boolean)) (by decide) rfl ?_
  intro p e s m aa below meth c s₁ B hml hv
  obtain ⟨haa, hsz, hP, hK, hD0⟩ := hv
  have hx := B.exec
  have hb := B.bytes
  have hr := B.returns
  have hts := atoms_spec (ws := wsX9_bear) B.pre
  have hown : s.vm.findClass RX9 = some m.cls := findClass_of_methodNamed B.named
  have hlocks := B.notSynchronized
  subst hsz
  have hD := hD0.self (sz := s.heap.size)
  obtain ⟨qq, hqq⟩ : ∃ qq, qq = (va_Qi (fun (r : Int32) (u : (Int32 × Int32 × (Nat → Int32) × (Nat → Int32) × (Nat → Int32) × (Nat → Int32) × (Nat → Int32))) => r = R0.1 ∧ u = R0.2) (fun (u : (Int32 × Int32 × (Nat → Int32) × (Nat → Int32) × (Nat → Int32) × (Nat → Int32) × (Nat → Int32))) t => poC dC dI cy (w_X9_bear cy a0 u) t) (va_A (w_X9_bear cy a0 gv) s.heap.size)) := ⟨_, rfl⟩
  rw [← hqq]
  generalize hAe : va_A (w_X9_bear cy a0 gv) s.heap.size = A at hD hqq ⊢
  have hA : ∀ q : Nat, s.heap.size ≤ q → A q := fun q h => by rw [← hAe]; exact Or.inr h
  have hS : va_S A s.heap s.heap [] := va_S.rf
  have hl := lv_entry ([.ref (a0 0), .int x1, .int x2]) (n := 3) (Nat.le_of_ble_eq_true rfl)
  have hE : entryFrame m aa 3 = F0 m 0 ((lg_sl ([.ref (a0 0), .int x1, .int x2]) ++ List.replicate (3 - (lg_sl ([.ref (a0 0), .int x1, .int x2])).length) Slot.unset).toArray) [] := by rw [haa]; exact lg_entry_eq m _ 3
  refine W.eq hE ?_
  generalize (lg_sl ([.ref (a0 0), .int x1, .int x2]) ++ List.replicate (3 - (lg_sl ([.ref (a0 0), .int x1, .int x2])).length) Slot.unset).toArray = ls at hl ⊢
  have hl : lv_has ls 3 [(0, .ref (a0 0)), (1, .int x1), (2, .int x2)] := hl
  change W p l e rm_X9_bear s m aa below meth c s.heap [] 0 0 (MQ below qq aa s 0 0 A) (F0 m 0 ls [])
  have hS0 := hS
  have lk0 := hts (.fieldLink RX9 25 "GoatDoors$Village" "goats" "[I") (by decide +kernel)
  have in_X9 : ∀ w ∈ wsX90, w ∈ wsX9_bear := by decide +kernel
  obtain ⟨H, hH⟩ : ∃ H : Heap, H = s.heap := ⟨_, rfl⟩
  obtain ⟨locs, hlocs⟩ : ∃ locs : List Loc, locs = [] := ⟨_, rfl⟩
  have hS : va_S A s.heap H locs := by rw [hH, hlocs]; exact hS
  rw [← hH] at hP
  suffices hg : W p l e rm_X9_bear s m aa below meth c H locs 0 0 (MQ below qq aa s 0 0 A) (F0 m 0 ls []) by subst hH; subst hlocs; exact hg
  unfold p_X9_bear at h
  refine lv_aload_n hx hb dX9_bear_0 rfl (lv_at hl 0 rfl) ?_
  refine lv_iload_n hx hb dX9_bear_1 rfl (lv_at hl 1 rfl) ?_
  obtain ⟨v1, hv2, h⟩ := ok_bind h
  refine cl_vi (w2 := fun (_ : Unit) => w_X9_bear cy a0 gv) (As := [.int x1]) (rest := []) ⟨hx, hb, hml, hown, hts⟩ (c_X9_hasOwner l dC dI cy a0 gv x1 H.size v1 hv2) (cwV 1 hts gX9_bear_X9_hasOwner rfl rfl rfl (by decide +kernel) ⟨Nat.le_of_ble_eq_true rfl, Nat.le_of_ble_eq_true rfl⟩) (va_recv hK hP (ci := 7) (q0 := 0) rfl rfl) cl_blind (cl_pre hK hP hD [0, 1, 2, 3, 4, 5] (by decide) rfl) hP hD hS hA [0, 1, 2, 3, 4, 5] rfl rfl hl.1 rfl (lv_room (Nat.le_of_ble_eq_true rfl)) dX9_bear_2 ⟨Nat.le_of_ble_eq_true rfl, Nat.le_of_ble_eq_true rfl⟩ ⟨rfl, rfl⟩ (fun _ => updR [0, 1, 2, 3, 4, 5] rfl) (fun r u H locs hw hP hD hS => ?_)
  have hw := hw.symm
  subst hw
  have hP : va_P (dC, dI) vwCl (w_X9_bear cy a0 gv) H := hP
  have hD : va_D A (w_X9_bear cy a0 gv) := hD
  refine lv_if_eq (tgt := 19) hx hb dX9_bear_5 (by decide) (fun c3 => ?_) (fun c3 => ?_)
  · rw [if_pos c3] at h
    refine lv_iconst (v := (0 : Int32)) hx hb dX9_bear_19 (by decide) ?_
    exact W.zret (v := (0 : Int32)) (ty := .boolean) hx hb hr rfl (fun t ht hW => by rw [hqq]; have hh := Option.some.inj h; exact ⟨⟨(0 : Int32), (gv), rfl, ⟨fst_of hh, snd_of hh⟩, by rw [ht]; exact hP, va_K.moved hW.alike hK⟩, hS.F ht⟩) hS.2.2 dX9_bear_20
  · rw [if_neg c3] at h
    refine lv_aload_n hx hb dX9_bear_8 rfl (lv_at hl 0 rfl) ?_
    obtain ⟨v4, hv5, h⟩ := ok_bind h
    refine cl_vi (w2 := fun (_ : Unit) => w_X9_bear cy a0 gv) (As := []) (rest := []) ⟨hx, hb, hml, hown, hts⟩ (c_X9_allGoats l dC dI cy a0 gv H.size v4 hv5) (cwV 0 hts gX9_bear_X9_allGoats rfl rfl rfl (by decide +kernel) ⟨Nat.le_of_ble_eq_true rfl, Nat.le_of_ble_eq_true rfl⟩) (va_recv hK hP (ci := 7) (q0 := 0) rfl rfl) cl_blind (cl_pre hK hP hD [0, 1, 2, 3, 4, 5] (by decide) rfl) hP hD hS hA [0, 1, 2, 3, 4, 5] rfl rfl hl.1 rfl (lv_room (Nat.le_of_ble_eq_true rfl)) dX9_bear_9 ⟨Nat.le_of_ble_eq_true rfl, Nat.le_of_ble_eq_true rfl⟩ ⟨rfl, rfl⟩ (fun _ => updR [0, 1, 2, 3, 4, 5] rfl) (fun r u H locs hw hP hD hS => ?_)
    have hw := hw.symm
    subst hw
    have hP : va_P (dC, dI) vwCl (w_X9_bear cy a0 gv) H := hP
    have hD : va_D A (w_X9_bear cy a0 gv) := hD
    refine lv_iload_n hx hb dX9_bear_12 rfl (lv_at hl 2 rfl) ?_
    refine lv_iadd hx hb dX9_bear_13 ?_
    refine lv_bipush (v := (40 : Int32)) hx hb dX9_bear_14 (by decide) ?_
    refine lv_icmp_le (tgt := 21) hx hb dX9_bear_16 (by decide) (fun c6 => ?_) (fun c6 => ?_)
    · rw [if_pos c6] at h
      refine lv_aload_n hx hb dX9_bear_21 rfl (lv_at hl 0 rfl) ?_
      refine va_get (D := (dC, dI)) (ci := 7) (v := .ref (a0 10)) (C := RX9) (T := TX9) (N := 9) hx hb hts in_X9 hown hK hP 0 rfl rfl 4 (by decide) lk0 (fun _ h9 => h9) rfl dX9_bear_22 ?_
      refine lv_iload_n hx hb dX9_bear_25 rfl (lv_at hl 1 rfl) ?_
      refine lv_dup2_11 hx hb dX9_bear_26 rfl rfl ?_
      obtain ⟨hi7, h⟩ := ok_if h
      refine va_iald hx hb hK hP 1 1 rfl rfl (ix_in hi7) dX9_bear_27 ?_
      refine lv_iload_n hx hb dX9_bear_28 rfl (lv_at hl 2 rfl) ?_
      refine lv_iadd hx hb dX9_bear_29 ?_
      obtain ⟨hi8, h⟩ := ok_if h
      refine va_iast hx hb hK hP hD hS 1 1 rfl rfl (ix_in hi8) dX9_bear_30 (fun H locs hP hD hS => ?_)
      have hP : va_P (dC, dI) vwCl (w_X9_bear cy a0 ((gv.1, gv.2.1, (upd gv.2.2.1 x1.toNatClampNeg ((gv.2.2.1 x1.toNatClampNeg) + x2)), gv.2.2.2))) H := hP
      have hD : va_D A (w_X9_bear cy a0 ((gv.1, gv.2.1, (upd gv.2.2.1 x1.toNatClampNeg ((gv.2.2.1 x1.toNatClampNeg) + x2)), gv.2.2.2))) := hD
      refine lv_iconst (v := (1 : Int32)) hx hb dX9_bear_31 (by decide) ?_
      exact W.zret (v := (1 : Int32)) (ty := .boolean) hx hb hr rfl (fun t ht hW => by rw [hqq]; have hh := Option.some.inj h; exact ⟨⟨(1 : Int32), ((gv.1, gv.2.1, (upd gv.2.2.1 x1.toNatClampNeg ((gv.2.2.1 x1.toNatClampNeg) + x2)), gv.2.2.2)), rfl, ⟨fst_of hh, snd_of hh⟩, by rw [ht]; exact hP, va_K.moved hW.alike hK⟩, hS.F ht⟩) hS.2.2 dX9_bear_32
    · rw [if_neg c6] at h
      refine lv_iconst (v := (0 : Int32)) hx hb dX9_bear_19 (by decide) ?_
      exact W.zret (v := (0 : Int32)) (ty := .boolean) hx hb hr rfl (fun t ht hW => by rw [hqq]; have hh := Option.some.inj h; exact ⟨⟨(0 : Int32), (gv), rfl, ⟨fst_of hh, snd_of hh⟩, by rw [ht]; exact hP, va_K.moved hW.alike hK⟩, hS.F ht⟩) hS.2.2 dX9_bear_20

abbrev w_X9_hidesOf (cy : Nat → ClassId) (a0 : Nat → Nat) (gv : Int32 × Int32 × (Nat → Int32) × (Nat → Int32) × (Nat → Int32) × (Nat → Int32) × (Nat → Int32)) : va_W := [(a0 0, .inr (7, [.int (gv.1), .int (gv.2.1), .ref (a0 1), .ref (a0 6), .ref (a0 10), .ref (a0 11), .ref (a0 12), .ref (a0 13), .ref (a0 14)])), (a0 10, .inl (cy 1, 5, .inl (gv.2.2.1))), (a0 11, .inl (cy 1, 5, .inl (gv.2.2.2.1))), (a0 12, .inl (cy 1, 5, .inl (gv.2.2.2.2.1))), (a0 13, .inl (cy 1, 5, .inl (gv.2.2.2.2.2.1))), (a0 14, .inl (cy 1, 5, .inl (gv.2.2.2.2.2.2)))]
abbrev rm_X9_hidesOf : Room := { frames := 1, cells := 0, slots := 0, locals := 21 }
set_option maxHeartbeats 1000000 in
set_option maxRecDepth 100000 in
theorem c_X9_hidesOf (l : Launch) (dC : Nat → ClassId) (dI : Nat → Nat → Nat) (cy : Nat → ClassId) (a0 : Nat → Nat) (gv : Int32 × Int32 × (Nat → Int32) × (Nat → Int32) × (Nat → Int32) × (Nat → Int32) × (Nat → Int32)) (x1 : Int32) (sz : Nat) (R0 : Int32) (h : p_X9_hidesOf gv x1 = some R0) : Met l yX9_hidesOf wsX9_hidesOf rm_X9_hidesOf (va_Pc [.ref (a0 0), .int x1] (prC dC dI cy (w_X9_hidesOf cy a0 gv) sz)) (va_Qi (fun (r : Int32) (_ : Unit) => r = R0) (fun (_ : Unit) t => poC dC dI cy (w_X9_hidesOf cy a0 gv) t) (va_A (w_X9_hidesOf cy a0 gv) sz)) 0 0 (va_A (w_X9_hidesOf cy a0 gv) sz) := by
  refine Met.ofW (cc := cX9_hidesOf) (maxL := 2) (ret := (some .int)) (by decide) rfl ?_
  intro p e s m aa below meth c s₁ B hml hv
  obtain ⟨haa, hsz, hP, hK, hD0⟩ := hv
  have hx := B.exec
  have hb := B.bytes
  have hr := B.returns
  have hts := atoms_spec (ws := wsX9_hidesOf) B.pre
  have hown : s.vm.findClass RX9 = some m.cls := findClass_of_methodNamed B.named
  have hlocks := B.notSynchronized
  subst hsz
  have hD := hD0.self (sz := s.heap.size)
  obtain ⟨qq, hqq⟩ : ∃ qq, qq = (va_Qi (fun (r : Int32) (_ : Unit) => r = R0) (fun (_ : Unit) t => poC dC dI cy (w_X9_hidesOf cy a0 gv) t) (va_A (w_X9_hidesOf cy a0 gv) s.heap.size)) := ⟨_, rfl⟩
  rw [← hqq]
  generalize hAe : va_A (w_X9_hidesOf cy a0 gv) s.heap.size = A at hD hqq ⊢
  have hA : ∀ q : Nat, s.heap.size ≤ q → A q := fun q h => by rw [← hAe]; exact Or.inr h
  have hS : va_S A s.heap s.heap [] := va_S.rf
  have hl := lv_entry ([.ref (a0 0), .int x1]) (n := 2) (Nat.le_of_ble_eq_true rfl)
  have hE : entryFrame m aa 2 = F0 m 0 ((lg_sl ([.ref (a0 0), .int x1]) ++ List.replicate (2 - (lg_sl ([.ref (a0 0), .int x1])).length) Slot.unset).toArray) [] := by rw [haa]; exact lg_entry_eq m _ 2
  refine W.eq hE ?_
  generalize (lg_sl ([.ref (a0 0), .int x1]) ++ List.replicate (2 - (lg_sl ([.ref (a0 0), .int x1])).length) Slot.unset).toArray = ls at hl ⊢
  have hl : lv_has ls 2 [(0, .ref (a0 0)), (1, .int x1)] := hl
  change W p l e rm_X9_hidesOf s m aa below meth c s.heap [] 0 0 (MQ below qq aa s 0 0 A) (F0 m 0 ls [])
  have hS0 := hS
  have lk0 := hts (.fieldLink RX9 29 "GoatDoors$Village" "hides" "[I") (by decide +kernel)
  have in_X9 : ∀ w ∈ wsX90, w ∈ wsX9_hidesOf := by decide +kernel
  obtain ⟨H, hH⟩ : ∃ H : Heap, H = s.heap := ⟨_, rfl⟩
  obtain ⟨locs, hlocs⟩ : ∃ locs : List Loc, locs = [] := ⟨_, rfl⟩
  have hS : va_S A s.heap H locs := by rw [hH, hlocs]; exact hS
  rw [← hH] at hP
  suffices hg : W p l e rm_X9_hidesOf s m aa below meth c H locs 0 0 (MQ below qq aa s 0 0 A) (F0 m 0 ls []) by subst hH; subst hlocs; exact hg
  unfold p_X9_hidesOf at h
  refine lv_aload_n hx hb dX9_hidesOf_0 rfl (lv_at hl 0 rfl) ?_
  refine lv_iload_n hx hb dX9_hidesOf_1 rfl (lv_at hl 1 rfl) ?_
  obtain ⟨v1, hv2, h⟩ := ok_bind h
  refine cl_vi (w2 := fun (_ : Unit) => w_X9_hidesOf cy a0 gv) (As := [.int x1]) (rest := []) ⟨hx, hb, hml, hown, hts⟩ (c_X9_hasOwner l dC dI cy a0 gv x1 H.size v1 hv2) (cwV 1 hts gX9_hidesOf_X9_hasOwner rfl rfl rfl (by decide +kernel) ⟨Nat.le_of_ble_eq_true rfl, Nat.le_of_ble_eq_true rfl⟩) (va_recv hK hP (ci := 7) (q0 := 0) rfl rfl) cl_blind (cl_pre hK hP hD [0, 1, 2, 3, 4, 5] (by decide) rfl) hP hD hS hA [0, 1, 2, 3, 4, 5] rfl rfl hl.1 rfl (lv_room (Nat.le_of_ble_eq_true rfl)) dX9_hidesOf_2 ⟨Nat.le_of_ble_eq_true rfl, Nat.le_of_ble_eq_true rfl⟩ ⟨rfl, rfl⟩ (fun _ => updR [0, 1, 2, 3, 4, 5] rfl) (fun r u H locs hw hP hD hS => ?_)
  have hw := hw.symm
  subst hw
  have hP : va_P (dC, dI) vwCl (w_X9_hidesOf cy a0 gv) H := hP
  have hD : va_D A (w_X9_hidesOf cy a0 gv) := hD
  refine lv_if_eq (tgt := 17) hx hb dX9_hidesOf_5 (by decide) (fun c3 => ?_) (fun c3 => ?_)
  · rw [if_pos c3] at h
    refine lv_iconst (v := (0 : Int32)) hx hb dX9_hidesOf_17 (by decide) ?_
    exact W.iret (v := (0 : Int32)) hx hb hr (fun t ht hW => by rw [hqq]; have hh := Option.some.inj h; exact ⟨⟨(0 : Int32), (()), rfl, Option.some.inj h, by rw [ht]; exact hP, va_K.moved hW.alike hK⟩, hS.F ht⟩) hS.2.2 dX9_hidesOf_18
  · rw [if_neg c3] at h
    refine lv_aload_n hx hb dX9_hidesOf_8 rfl (lv_at hl 0 rfl) ?_
    refine va_get (D := (dC, dI)) (ci := 7) (v := .ref (a0 11)) (C := RX9) (T := TX9) (N := 9) hx hb hts in_X9 hown hK hP 0 rfl rfl 5 (by decide) lk0 (fun _ h9 => h9) rfl dX9_hidesOf_9 ?_
    refine lv_iload_n hx hb dX9_hidesOf_12 rfl (lv_at hl 1 rfl) ?_
    obtain ⟨hi4, h⟩ := ok_if h
    refine va_iald hx hb hK hP 2 1 rfl rfl (ix_in hi4) dX9_hidesOf_13 ?_
    refine lv_goto (tgt := 18) hx hb dX9_hidesOf_14 (by decide) ?_
    exact W.iret (v := (gv.2.2.2.1 x1.toNatClampNeg)) hx hb hr (fun t ht hW => by rw [hqq]; have hh := Option.some.inj h; exact ⟨⟨(gv.2.2.2.1 x1.toNatClampNeg), (()), rfl, Option.some.inj h, by rw [ht]; exact hP, va_K.moved hW.alike hK⟩, hS.F ht⟩) hS.2.2 dX9_hidesOf_18

abbrev w_X8_copyFrom (cy : Nat → ClassId) (a0 : Nat → Nat) (a1 : Nat → Nat) (gc_0 : Int32 × (Nat → Int32) × (Nat → Int32) × (Nat → Int32)) (gc_1 : Int32 × (Nat → Int32) × (Nat → Int32) × (Nat → Int32)) : va_W := [(a0 0, .inr (6, [.int (gc_0.1), .ref (a0 1), .ref (a0 2), .ref (a0 3)])), (a0 1, .inl (cy 1, 12, .inl (gc_0.2.1))), (a0 2, .inl (cy 1, 12, .inl (gc_0.2.2.1))), (a0 3, .inl (cy 1, 12, .inl (gc_0.2.2.2))), (a1 0, .inr (6, [.int (gc_1.1), .ref (a1 1), .ref (a1 2), .ref (a1 3)])), (a1 1, .inl (cy 1, 12, .inl (gc_1.2.1))), (a1 2, .inl (cy 1, 12, .inl (gc_1.2.2.1))), (a1 3, .inl (cy 1, 12, .inl (gc_1.2.2.2)))]
abbrev rm_X8_copyFrom : Room := { frames := 1, cells := 0, slots := 0, locals := 100 }
set_option maxHeartbeats 1000000 in
set_option maxRecDepth 100000 in
theorem c_X8_copyFrom (l : Launch) (dC : Nat → ClassId) (dI : Nat → Nat → Nat) (cy : Nat → ClassId) (a0 : Nat → Nat) (a1 : Nat → Nat) (gc_0 : Int32 × (Nat → Int32) × (Nat → Int32) × (Nat → Int32)) (gc_1 : Int32 × (Nat → Int32) × (Nat → Int32) × (Nat → Int32)) (sz : Nat) (R0 : (Int32 × (Nat → Int32) × (Nat → Int32) × (Nat → Int32))) (h : p_X8_copyFrom gc_0 gc_1 = some R0) : Met l yX8_copyFrom wsX8_copyFrom rm_X8_copyFrom (va_Pc [.ref (a0 0), .ref (a1 0)] (prC dC dI cy (w_X8_copyFrom cy a0 a1 gc_0 gc_1) sz)) (va_Qv (fun (u : (Int32 × (Nat → Int32) × (Nat → Int32) × (Nat → Int32))) => u = R0) (fun (u : (Int32 × (Nat → Int32) × (Nat → Int32) × (Nat → Int32))) t => poC dC dI cy (w_X8_copyFrom cy a0 a1 u gc_1) t) (va_A (w_X8_copyFrom cy a0 a1 gc_0 gc_1) sz)) 0 0 (va_A (w_X8_copyFrom cy a0 a1 gc_0 gc_1) sz) := by
  refine Met.ofW (cc := cX8_copyFrom) (maxL := 2) (ret := none) (by decide) rfl ?_
  intro p e s m aa below meth c s₁ B hml hv
  obtain ⟨haa, hsz, hP, hK, hD0⟩ := hv
  have hx := B.exec
  have hb := B.bytes
  have hr := B.returns
  have hts := atoms_spec (ws := wsX8_copyFrom) B.pre
  have hown : s.vm.findClass RX8 = some m.cls := findClass_of_methodNamed B.named
  have hlocks := B.notSynchronized
  subst hsz
  have hD := hD0.self (sz := s.heap.size)
  obtain ⟨qq, hqq⟩ : ∃ qq, qq = (va_Qv (fun (u : (Int32 × (Nat → Int32) × (Nat → Int32) × (Nat → Int32))) => u = R0) (fun (u : (Int32 × (Nat → Int32) × (Nat → Int32) × (Nat → Int32))) t => poC dC dI cy (w_X8_copyFrom cy a0 a1 u gc_1) t) (va_A (w_X8_copyFrom cy a0 a1 gc_0 gc_1) s.heap.size)) := ⟨_, rfl⟩
  rw [← hqq]
  generalize hAe : va_A (w_X8_copyFrom cy a0 a1 gc_0 gc_1) s.heap.size = A at hD hqq ⊢
  have hA : ∀ q : Nat, s.heap.size ≤ q → A q := fun q h => by rw [← hAe]; exact Or.inr h
  have hS : va_S A s.heap s.heap [] := va_S.rf
  have hl := lv_entry ([.ref (a0 0), .ref (a1 0)]) (n := 2) (Nat.le_of_ble_eq_true rfl)
  have hE : entryFrame m aa 2 = F0 m 0 ((lg_sl ([.ref (a0 0), .ref (a1 0)]) ++ List.replicate (2 - (lg_sl ([.ref (a0 0), .ref (a1 0)])).length) Slot.unset).toArray) [] := by rw [haa]; exact lg_entry_eq m _ 2
  refine W.eq hE ?_
  generalize (lg_sl ([.ref (a0 0), .ref (a1 0)]) ++ List.replicate (2 - (lg_sl ([.ref (a0 0), .ref (a1 0)])).length) Slot.unset).toArray = ls at hl ⊢
  have hl : lv_has ls 2 [(0, .ref (a0 0)), (1, .ref (a1 0))] := hl
  change W p l e rm_X8_copyFrom s m aa below meth c s.heap [] 0 0 (MQ below qq aa s 0 0 A) (F0 m 0 ls [])
  have hS0 := hS
  have lk0 := hts (.fieldLink RX8 21 "GoatDoors$Receipts" "size" "I") (by decide +kernel)
  have lk1 := hts (.fieldLink RX8 9 "GoatDoors$Receipts" "doorBits" "[I") (by decide +kernel)
  have lk2 := hts (.methodLink RX8 25 arraycopyName) (by decide +kernel)
  have lk3 := hts (.native arraycopyName) (by decide +kernel)
  have lk4 := hts (.static arraycopyName) (by decide +kernel)
  have lk5 := hts (.initialized "java/lang/System") (by decide +kernel)
  have lk6 := hts (.fieldLink RX8 15 "GoatDoors$Receipts" "sums" "[I") (by decide +kernel)
  have lk7 := hts (.fieldLink RX8 18 "GoatDoors$Receipts" "shifts" "[I") (by decide +kernel)
  have in_X8 : ∀ w ∈ wsX80, w ∈ wsX8_copyFrom := by decide +kernel
  obtain ⟨H, hH⟩ : ∃ H : Heap, H = s.heap := ⟨_, rfl⟩
  obtain ⟨locs, hlocs⟩ : ∃ locs : List Loc, locs = [] := ⟨_, rfl⟩
  have hS : va_S A s.heap H locs := by rw [hH, hlocs]; exact hS
  rw [← hH] at hP
  suffices hg : W p l e rm_X8_copyFrom s m aa below meth c H locs 0 0 (MQ below qq aa s 0 0 A) (F0 m 0 ls []) by subst hH; subst hlocs; exact hg
  unfold p_X8_copyFrom at h
  refine lv_aload_n hx hb dX8_copyFrom_0 rfl (lv_at hl 0 rfl) ?_
  refine lv_aload_n hx hb dX8_copyFrom_1 rfl (lv_at hl 1 rfl) ?_
  refine va_get (D := (dC, dI)) (ci := 6) (v := .int gc_1.1) (C := RX8) (T := TX8) (N := 4) hx hb hts in_X8 hown hK hP 4 rfl rfl 0 (by decide) lk0 (fun _ h9 => h9) rfl dX8_copyFrom_2 ?_
  refine va_put (D := (dC, dI)) (ci := 6) (v := .int gc_1.1) (ty := .int) (C := RX8) (T := TX8) (N := 4) hx hb hts in_X8 tyX8 tyX8_ok nmX8 hown hK hP hD hS 0 rfl rfl 0 (by decide) lk0 (fun _ h9 => h9) rfl (by decide +kernel) rfl rfl (Nat.le_of_ble_eq_true rfl) dX8_copyFrom_5 (fun H locs hP hD hS => ?_)
  have hP : va_P (dC, dI) vwCl (w_X8_copyFrom cy a0 a1 ((gc_1.1, gc_0.2)) gc_1) H := hP
  have hD : va_D A (w_X8_copyFrom cy a0 a1 ((gc_1.1, gc_0.2)) gc_1) := hD
  refine lv_aload_n hx hb dX8_copyFrom_8 rfl (lv_at hl 1 rfl) ?_
  refine va_get (D := (dC, dI)) (ci := 6) (v := .ref (a1 1)) (C := RX8) (T := TX8) (N := 4) hx hb hts in_X8 hown hK hP 4 rfl rfl 1 (by decide) lk1 (fun _ h9 => h9) rfl dX8_copyFrom_9 ?_
  refine lv_iconst (v := (0 : Int32)) hx hb dX8_copyFrom_12 (by decide) ?_
  refine lv_aload_n hx hb dX8_copyFrom_13 rfl (lv_at hl 0 rfl) ?_
  refine va_get (D := (dC, dI)) (ci := 6) (v := .ref (a0 1)) (C := RX8) (T := TX8) (N := 4) hx hb hts in_X8 hown hK hP 0 rfl rfl 1 (by decide) lk1 (fun _ h9 => h9) rfl dX8_copyFrom_14 ?_
  refine lv_iconst (v := (0 : Int32)) hx hb dX8_copyFrom_17 (by decide) ?_
  refine lv_bipush (v := (12 : Int32)) hx hb dX8_copyFrom_18 (by decide) ?_
  refine va_copyi hx hb (by rw [hml]; exact hl.1.symm) hown lk2 lk3 lk4 lk5 hK hP hD hS 5 1 1 1 rfl rfl rfl rfl rfl (sp := (0 : Int32)) (dp := (0 : Int32)) (n := (12 : Int32)) (by decide) (by decide) (by decide) (by decide) (by decide) (fun _ _ => rfl) (Nat.le_of_ble_eq_true rfl) (by decide) dX8_copyFrom_20 (fun H locs hP hD hS => ?_)
  have hP : va_P (dC, dI) vwCl (w_X8_copyFrom cy a0 a1 ((gc_1.1, (va_cpy gc_1.2.1 gc_0.2.1 (0 : Int32).toNatClampNeg (0 : Int32).toNatClampNeg (12 : Int32).toNatClampNeg), gc_0.2.2)) gc_1) H := hP
  have hD : va_D A (w_X8_copyFrom cy a0 a1 ((gc_1.1, (va_cpy gc_1.2.1 gc_0.2.1 (0 : Int32).toNatClampNeg (0 : Int32).toNatClampNeg (12 : Int32).toNatClampNeg), gc_0.2.2)) gc_1) := hD
  refine lv_aload_n hx hb dX8_copyFrom_23 rfl (lv_at hl 1 rfl) ?_
  refine va_get (D := (dC, dI)) (ci := 6) (v := .ref (a1 2)) (C := RX8) (T := TX8) (N := 4) hx hb hts in_X8 hown hK hP 4 rfl rfl 2 (by decide) lk6 (fun _ h9 => h9) rfl dX8_copyFrom_24 ?_
  refine lv_iconst (v := (0 : Int32)) hx hb dX8_copyFrom_27 (by decide) ?_
  refine lv_aload_n hx hb dX8_copyFrom_28 rfl (lv_at hl 0 rfl) ?_
  refine va_get (D := (dC, dI)) (ci := 6) (v := .ref (a0 2)) (C := RX8) (T := TX8) (N := 4) hx hb hts in_X8 hown hK hP 0 rfl rfl 2 (by decide) lk6 (fun _ h9 => h9) rfl dX8_copyFrom_29 ?_
  refine lv_iconst (v := (0 : Int32)) hx hb dX8_copyFrom_32 (by decide) ?_
  refine lv_bipush (v := (12 : Int32)) hx hb dX8_copyFrom_33 (by decide) ?_
  refine va_copyi hx hb (by rw [hml]; exact hl.1.symm) hown lk2 lk3 lk4 lk5 hK hP hD hS 6 2 1 1 rfl rfl rfl rfl rfl (sp := (0 : Int32)) (dp := (0 : Int32)) (n := (12 : Int32)) (by decide) (by decide) (by decide) (by decide) (by decide) (fun _ _ => rfl) (Nat.le_of_ble_eq_true rfl) (by decide) dX8_copyFrom_35 (fun H locs hP hD hS => ?_)
  have hP : va_P (dC, dI) vwCl (w_X8_copyFrom cy a0 a1 ((gc_1.1, (va_cpy gc_1.2.1 gc_0.2.1 (0 : Int32).toNatClampNeg (0 : Int32).toNatClampNeg (12 : Int32).toNatClampNeg), (va_cpy gc_1.2.2.1 gc_0.2.2.1 (0 : Int32).toNatClampNeg (0 : Int32).toNatClampNeg (12 : Int32).toNatClampNeg), gc_0.2.2.2)) gc_1) H := hP
  have hD : va_D A (w_X8_copyFrom cy a0 a1 ((gc_1.1, (va_cpy gc_1.2.1 gc_0.2.1 (0 : Int32).toNatClampNeg (0 : Int32).toNatClampNeg (12 : Int32).toNatClampNeg), (va_cpy gc_1.2.2.1 gc_0.2.2.1 (0 : Int32).toNatClampNeg (0 : Int32).toNatClampNeg (12 : Int32).toNatClampNeg), gc_0.2.2.2)) gc_1) := hD
  refine lv_aload_n hx hb dX8_copyFrom_38 rfl (lv_at hl 1 rfl) ?_
  refine va_get (D := (dC, dI)) (ci := 6) (v := .ref (a1 3)) (C := RX8) (T := TX8) (N := 4) hx hb hts in_X8 hown hK hP 4 rfl rfl 3 (by decide) lk7 (fun _ h9 => h9) rfl dX8_copyFrom_39 ?_
  refine lv_iconst (v := (0 : Int32)) hx hb dX8_copyFrom_42 (by decide) ?_
  refine lv_aload_n hx hb dX8_copyFrom_43 rfl (lv_at hl 0 rfl) ?_
  refine va_get (D := (dC, dI)) (ci := 6) (v := .ref (a0 3)) (C := RX8) (T := TX8) (N := 4) hx hb hts in_X8 hown hK hP 0 rfl rfl 3 (by decide) lk7 (fun _ h9 => h9) rfl dX8_copyFrom_44 ?_
  refine lv_iconst (v := (0 : Int32)) hx hb dX8_copyFrom_47 (by decide) ?_
  refine lv_bipush (v := (12 : Int32)) hx hb dX8_copyFrom_48 (by decide) ?_
  refine va_copyi hx hb (by rw [hml]; exact hl.1.symm) hown lk2 lk3 lk4 lk5 hK hP hD hS 7 3 1 1 rfl rfl rfl rfl rfl (sp := (0 : Int32)) (dp := (0 : Int32)) (n := (12 : Int32)) (by decide) (by decide) (by decide) (by decide) (by decide) (fun _ _ => rfl) (Nat.le_of_ble_eq_true rfl) (by decide) dX8_copyFrom_50 (fun H locs hP hD hS => ?_)
  have hP : va_P (dC, dI) vwCl (w_X8_copyFrom cy a0 a1 ((gc_1.1, (va_cpy gc_1.2.1 gc_0.2.1 (0 : Int32).toNatClampNeg (0 : Int32).toNatClampNeg (12 : Int32).toNatClampNeg), (va_cpy gc_1.2.2.1 gc_0.2.2.1 (0 : Int32).toNatClampNeg (0 : Int32).toNatClampNeg (12 : Int32).toNatClampNeg), (va_cpy gc_1.2.2.2 gc_0.2.2.2 (0 : Int32).toNatClampNeg (0 : Int32).toNatClampNeg (12 : Int32).toNatClampNeg))) gc_1) H := hP
  have hD : va_D A (w_X8_copyFrom cy a0 a1 ((gc_1.1, (va_cpy gc_1.2.1 gc_0.2.1 (0 : Int32).toNatClampNeg (0 : Int32).toNatClampNeg (12 : Int32).toNatClampNeg), (va_cpy gc_1.2.2.1 gc_0.2.2.1 (0 : Int32).toNatClampNeg (0 : Int32).toNatClampNeg (12 : Int32).toNatClampNeg), (va_cpy gc_1.2.2.2 gc_0.2.2.2 (0 : Int32).toNatClampNeg (0 : Int32).toNatClampNeg (12 : Int32).toNatClampNeg))) gc_1) := hD
  exact W.vret hx hb hr (fun t ht hW => by rw [hqq]; have hh := Option.some.inj h; exact ⟨⟨((gc_1.1, (va_cpy gc_1.2.1 gc_0.2.1 (0 : Int32).toNatClampNeg (0 : Int32).toNatClampNeg (12 : Int32).toNatClampNeg), (va_cpy gc_1.2.2.1 gc_0.2.2.1 (0 : Int32).toNatClampNeg (0 : Int32).toNatClampNeg (12 : Int32).toNatClampNeg), (va_cpy gc_1.2.2.2 gc_0.2.2.2 (0 : Int32).toNatClampNeg (0 : Int32).toNatClampNeg (12 : Int32).toNatClampNeg))), rfl, Option.some.inj h, by rw [ht]; exact hP, va_K.moved hW.alike hK⟩, hS.F ht⟩) hS.2.2 dX8_copyFrom_53

abbrev w_X8_add (cy : Nat → ClassId) (a0 : Nat → Nat) (gc : Int32 × (Nat → Int32) × (Nat → Int32) × (Nat → Int32)) : va_W := [(a0 0, .inr (6, [.int (gc.1), .ref (a0 1), .ref (a0 2), .ref (a0 3)])), (a0 1, .inl (cy 1, 12, .inl (gc.2.1))), (a0 2, .inl (cy 1, 12, .inl (gc.2.2.1))), (a0 3, .inl (cy 1, 12, .inl (gc.2.2.2)))]
abbrev rm_X8_add : Room := { frames := 0, cells := 0, slots := 0, locals := 0 }
set_option maxHeartbeats 1000000 in
set_option maxRecDepth 100000 in
theorem c_X8_add (l : Launch) (dC : Nat → ClassId) (dI : Nat → Nat → Nat) (cy : Nat → ClassId) (a0 : Nat → Nat) (gc : Int32 × (Nat → Int32) × (Nat → Int32) × (Nat → Int32)) (x1 : Int32) (x2 : Int32) (x3 : Int32) (sz : Nat) (R0 : Int32 × (Int32 × (Nat → Int32) × (Nat → Int32) × (Nat → Int32))) (h : p_X8_add gc x1 x2 x3 = some R0) : Met l yX8_add wsX8_add rm_X8_add (va_Pc [.ref (a0 0), .int x1, .int x2, .int x3] (prC dC dI cy (w_X8_add cy a0 gc) sz)) (va_Qi (fun (r : Int32) (u : (Int32 × (Nat → Int32) × (Nat → Int32) × (Nat → Int32))) => r = R0.1 ∧ u = R0.2) (fun (u : (Int32 × (Nat → Int32) × (Nat → Int32) × (Nat → Int32))) t => poC dC dI cy (w_X8_add cy a0 u) t) (va_A (w_X8_add cy a0 gc) sz)) 0 0 (va_A (w_X8_add cy a0 gc) sz) := by
  refine Met.ofW (cc := cX8_add) (maxL := 4) (ret := (some .boolean)) (by decide) rfl ?_
  intro p e s m aa below meth c s₁ B hml hv
  obtain ⟨haa, hsz, hP, hK, hD0⟩ := hv
  have hx := B.exec
  have hb := B.bytes
  have hr := B.returns
  have hts := atoms_spec (ws := wsX8_add) B.pre
  have hown : s.vm.findClass RX8 = some m.cls := findClass_of_methodNamed B.named
  have hlocks := B.notSynchronized
  subst hsz
  have hD := hD0.self (sz := s.heap.size)
  obtain ⟨qq, hqq⟩ : ∃ qq, qq = (va_Qi (fun (r : Int32) (u : (Int32 × (Nat → Int32) × (Nat → Int32) × (Nat → Int32))) => r = R0.1 ∧ u = R0.2) (fun (u : (Int32 × (Nat → Int32) × (Nat → Int32) × (Nat → Int32))) t => poC dC dI cy (w_X8_add cy a0 u) t) (va_A (w_X8_add cy a0 gc) s.heap.size)) := ⟨_, rfl⟩
  rw [← hqq]
  generalize hAe : va_A (w_X8_add cy a0 gc) s.heap.size = A at hD hqq ⊢
  have hA : ∀ q : Nat, s.heap.size ≤ q → A q := fun q h => by rw [← hAe]; exact Or.inr h
  have hS : va_S A s.heap s.heap [] := va_S.rf
  have hl := lv_entry ([.ref (a0 0), .int x1, .int x2, .int x3]) (n := 4) (Nat.le_of_ble_eq_true rfl)
  have hE : entryFrame m aa 4 = F0 m 0 ((lg_sl ([.ref (a0 0), .int x1, .int x2, .int x3]) ++ List.replicate (4 - (lg_sl ([.ref (a0 0), .int x1, .int x2, .int x3])).length) Slot.unset).toArray) [] := by rw [haa]; exact lg_entry_eq m _ 4
  refine W.eq hE ?_
  generalize (lg_sl ([.ref (a0 0), .int x1, .int x2, .int x3]) ++ List.replicate (4 - (lg_sl ([.ref (a0 0), .int x1, .int x2, .int x3])).length) Slot.unset).toArray = ls at hl ⊢
  have hl : lv_has ls 4 [(0, .ref (a0 0)), (1, .int x1), (2, .int x2), (3, .int x3)] := hl
  change W p l e rm_X8_add s m aa below meth c s.heap [] 0 0 (MQ below qq aa s 0 0 A) (F0 m 0 ls [])
  have hS0 := hS
  have lk0 := hts (.fieldLink RX8 21 "GoatDoors$Receipts" "size" "I") (by decide +kernel)
  have lk1 := hts (.fieldLink RX8 9 "GoatDoors$Receipts" "doorBits" "[I") (by decide +kernel)
  have lk2 := hts (.fieldLink RX8 15 "GoatDoors$Receipts" "sums" "[I") (by decide +kernel)
  have lk3 := hts (.fieldLink RX8 18 "GoatDoors$Receipts" "shifts" "[I") (by decide +kernel)
  have in_X8 : ∀ w ∈ wsX80, w ∈ wsX8_add := by decide +kernel
  obtain ⟨H, hH⟩ : ∃ H : Heap, H = s.heap := ⟨_, rfl⟩
  obtain ⟨locs, hlocs⟩ : ∃ locs : List Loc, locs = [] := ⟨_, rfl⟩
  have hS : va_S A s.heap H locs := by rw [hH, hlocs]; exact hS
  rw [← hH] at hP
  suffices hg : W p l e rm_X8_add s m aa below meth c H locs 0 0 (MQ below qq aa s 0 0 A) (F0 m 0 ls []) by subst hH; subst hlocs; exact hg
  unfold p_X8_add at h
  refine lv_aload_n hx hb dX8_add_0 rfl (lv_at hl 0 rfl) ?_
  refine va_get (D := (dC, dI)) (ci := 6) (v := .int gc.1) (C := RX8) (T := TX8) (N := 4) hx hb hts in_X8 hown hK hP 0 rfl rfl 0 (by decide) lk0 (fun _ h9 => h9) rfl dX8_add_1 ?_
  refine lv_if_lt (tgt := 16) hx hb dX8_add_4 (by decide) (fun c1 => ?_) (fun c1 => ?_)
  · rw [if_pos c1] at h
    refine lv_iconst (v := (0 : Int32)) hx hb dX8_add_16 (by decide) ?_
    exact W.zret (v := (0 : Int32)) (ty := .boolean) hx hb hr rfl (fun t ht hW => by rw [hqq]; have hh := Option.some.inj h; exact ⟨⟨(0 : Int32), (gc), rfl, ⟨fst_of hh, snd_of hh⟩, by rw [ht]; exact hP, va_K.moved hW.alike hK⟩, hS.F ht⟩) hS.2.2 dX8_add_17
  · rw [if_neg c1] at h
    refine lv_aload_n hx hb dX8_add_7 rfl (lv_at hl 0 rfl) ?_
    refine va_get (D := (dC, dI)) (ci := 6) (v := .int gc.1) (C := RX8) (T := TX8) (N := 4) hx hb hts in_X8 hown hK hP 0 rfl rfl 0 (by decide) lk0 (fun _ h9 => h9) rfl dX8_add_8 ?_
    refine lv_bipush (v := (12 : Int32)) hx hb dX8_add_11 (by decide) ?_
    refine lv_icmp_lt (tgt := 18) hx hb dX8_add_13 (by decide) (fun c2 => ?_) (fun c2 => ?_)
    · rw [if_pos c2] at h
      refine lv_aload_n hx hb dX8_add_18 rfl (lv_at hl 0 rfl) ?_
      refine va_get (D := (dC, dI)) (ci := 6) (v := .ref (a0 1)) (C := RX8) (T := TX8) (N := 4) hx hb hts in_X8 hown hK hP 0 rfl rfl 1 (by decide) lk1 (fun _ h9 => h9) rfl dX8_add_19 ?_
      refine lv_aload_n hx hb dX8_add_22 rfl (lv_at hl 0 rfl) ?_
      refine va_get (D := (dC, dI)) (ci := 6) (v := .int gc.1) (C := RX8) (T := TX8) (N := 4) hx hb hts in_X8 hown hK hP 0 rfl rfl 0 (by decide) lk0 (fun _ h9 => h9) rfl dX8_add_23 ?_
      refine lv_iload_n hx hb dX8_add_26 rfl (lv_at hl 1 rfl) ?_
      obtain ⟨hi3, h⟩ := ok_if h
      refine va_iast hx hb hK hP hD hS 1 1 rfl rfl (ix_in hi3) dX8_add_27 (fun H locs hP hD hS => ?_)
      have hP : va_P (dC, dI) vwCl (w_X8_add cy a0 ((gc.1, (upd gc.2.1 gc.1.toNatClampNeg x1), gc.2.2))) H := hP
      have hD : va_D A (w_X8_add cy a0 ((gc.1, (upd gc.2.1 gc.1.toNatClampNeg x1), gc.2.2))) := hD
      refine lv_aload_n hx hb dX8_add_28 rfl (lv_at hl 0 rfl) ?_
      refine va_get (D := (dC, dI)) (ci := 6) (v := .ref (a0 2)) (C := RX8) (T := TX8) (N := 4) hx hb hts in_X8 hown hK hP 0 rfl rfl 2 (by decide) lk2 (fun _ h9 => h9) rfl dX8_add_29 ?_
      refine lv_aload_n hx hb dX8_add_32 rfl (lv_at hl 0 rfl) ?_
      refine va_get (D := (dC, dI)) (ci := 6) (v := .int gc.1) (C := RX8) (T := TX8) (N := 4) hx hb hts in_X8 hown hK hP 0 rfl rfl 0 (by decide) lk0 (fun _ h9 => h9) rfl dX8_add_33 ?_
      refine lv_iload_n hx hb dX8_add_36 rfl (lv_at hl 2 rfl) ?_
      obtain ⟨hi4, h⟩ := ok_if h
      refine va_iast hx hb hK hP hD hS 2 1 rfl rfl (ix_in hi4) dX8_add_37 (fun H locs hP hD hS => ?_)
      have hP : va_P (dC, dI) vwCl (w_X8_add cy a0 ((gc.1, (upd gc.2.1 gc.1.toNatClampNeg x1), (upd gc.2.2.1 gc.1.toNatClampNeg x2), gc.2.2.2))) H := hP
      have hD : va_D A (w_X8_add cy a0 ((gc.1, (upd gc.2.1 gc.1.toNatClampNeg x1), (upd gc.2.2.1 gc.1.toNatClampNeg x2), gc.2.2.2))) := hD
      refine lv_aload_n hx hb dX8_add_38 rfl (lv_at hl 0 rfl) ?_
      refine va_get (D := (dC, dI)) (ci := 6) (v := .ref (a0 3)) (C := RX8) (T := TX8) (N := 4) hx hb hts in_X8 hown hK hP 0 rfl rfl 3 (by decide) lk3 (fun _ h9 => h9) rfl dX8_add_39 ?_
      refine lv_aload_n hx hb dX8_add_42 rfl (lv_at hl 0 rfl) ?_
      refine va_get (D := (dC, dI)) (ci := 6) (v := .int gc.1) (C := RX8) (T := TX8) (N := 4) hx hb hts in_X8 hown hK hP 0 rfl rfl 0 (by decide) lk0 (fun _ h9 => h9) rfl dX8_add_43 ?_
      refine lv_iload_n hx hb dX8_add_46 rfl (lv_at hl 3 rfl) ?_
      obtain ⟨hi5, h⟩ := ok_if h
      refine va_iast hx hb hK hP hD hS 3 1 rfl rfl (ix_in hi5) dX8_add_47 (fun H locs hP hD hS => ?_)
      have hP : va_P (dC, dI) vwCl (w_X8_add cy a0 ((gc.1, (upd gc.2.1 gc.1.toNatClampNeg x1), (upd gc.2.2.1 gc.1.toNatClampNeg x2), (upd gc.2.2.2 gc.1.toNatClampNeg x3)))) H := hP
      have hD : va_D A (w_X8_add cy a0 ((gc.1, (upd gc.2.1 gc.1.toNatClampNeg x1), (upd gc.2.2.1 gc.1.toNatClampNeg x2), (upd gc.2.2.2 gc.1.toNatClampNeg x3)))) := hD
      refine lv_aload_n hx hb dX8_add_48 rfl (lv_at hl 0 rfl) ?_
      refine lv_dup hx hb dX8_add_49 rfl ?_
      refine va_get (D := (dC, dI)) (ci := 6) (v := .int gc.1) (C := RX8) (T := TX8) (N := 4) hx hb hts in_X8 hown hK hP 0 rfl rfl 0 (by decide) lk0 (fun _ h9 => h9) rfl dX8_add_50 ?_
      refine lv_iconst (v := (1 : Int32)) hx hb dX8_add_53 (by decide) ?_
      refine lv_iadd hx hb dX8_add_54 ?_
      refine va_put (D := (dC, dI)) (ci := 6) (v := .int (gc.1 + (1 : Int32))) (ty := .int) (C := RX8) (T := TX8) (N := 4) hx hb hts in_X8 tyX8 tyX8_ok nmX8 hown hK hP hD hS 0 rfl rfl 0 (by decide) lk0 (fun _ h9 => h9) rfl (by decide +kernel) rfl rfl (Nat.le_of_ble_eq_true rfl) dX8_add_55 (fun H locs hP hD hS => ?_)
      have hP : va_P (dC, dI) vwCl (w_X8_add cy a0 (((gc.1 + (1 : Int32)), (upd gc.2.1 gc.1.toNatClampNeg x1), (upd gc.2.2.1 gc.1.toNatClampNeg x2), (upd gc.2.2.2 gc.1.toNatClampNeg x3)))) H := hP
      have hD : va_D A (w_X8_add cy a0 (((gc.1 + (1 : Int32)), (upd gc.2.1 gc.1.toNatClampNeg x1), (upd gc.2.2.1 gc.1.toNatClampNeg x2), (upd gc.2.2.2 gc.1.toNatClampNeg x3)))) := hD
      refine lv_iconst (v := (1 : Int32)) hx hb dX8_add_58 (by decide) ?_
      exact W.zret (v := (1 : Int32)) (ty := .boolean) hx hb hr rfl (fun t ht hW => by rw [hqq]; have hh := Option.some.inj h; exact ⟨⟨(1 : Int32), (((gc.1 + (1 : Int32)), (upd gc.2.1 gc.1.toNatClampNeg x1), (upd gc.2.2.1 gc.1.toNatClampNeg x2), (upd gc.2.2.2 gc.1.toNatClampNeg x3))), rfl, ⟨fst_of hh, snd_of hh⟩, by rw [ht]; exact hP, va_K.moved hW.alike hK⟩, hS.F ht⟩) hS.2.2 dX8_add_59
    · rw [if_neg c2] at h
      refine lv_iconst (v := (0 : Int32)) hx hb dX8_add_16 (by decide) ?_
      exact W.zret (v := (0 : Int32)) (ty := .boolean) hx hb hr rfl (fun t ht hW => by rw [hqq]; have hh := Option.some.inj h; exact ⟨⟨(0 : Int32), (gc), rfl, ⟨fst_of hh, snd_of hh⟩, by rw [ht]; exact hP, va_K.moved hW.alike hK⟩, hS.F ht⟩) hS.2.2 dX8_add_17

abbrev w_X8_worthTogether (cy : Nat → ClassId) (a0 : Nat → Nat) (gd : Int32 × Int32 × (Nat → Int32) × (Nat → Int32) × (Nat → Int32) × (Nat → Int32)) : va_W := [(a0 0, .inr (2, [.int (gd.1), .int (gd.2.1), .ref (a0 1), .ref (a0 2), .ref (a0 3), .ref (a0 4)])), (a0 1, .inl (cy 1, 10, .inl (gd.2.2.1))), (a0 2, .inl (cy 1, 10, .inl (gd.2.2.2.1))), (a0 3, .inl (cy 1, 10, .inl (gd.2.2.2.2.1))), (a0 4, .inl (cy 1, 50, .inl (gd.2.2.2.2.2)))]
abbrev rm_X8_worthTogether : Room := { frames := 4, cells := 0, slots := 0, locals := 93 }
set_option maxHeartbeats 1000000 in
set_option maxRecDepth 100000 in
theorem c_X8_worthTogether (l : Launch) (dC : Nat → ClassId) (dI : Nat → Nat → Nat) (cy : Nat → ClassId) (a0 : Nat → Nat) (gd : Int32 × Int32 × (Nat → Int32) × (Nat → Int32) × (Nat → Int32) × (Nat → Int32)) (x1 : Int32) (x2 : Int32) (sz : Nat) (R0 : Int64) (h : p_X8_worthTogether gd x1 x2 = some R0) : Met l yX8_worthTogether wsX8_worthTogether rm_X8_worthTogether (va_Pc [.ref (a0 0), .int x1, .int x2] (prC dC dI cy (w_X8_worthTogether cy a0 gd) sz)) (va_Ql (fun (r : Int64) (_ : Unit) => r = R0) (fun (_ : Unit) t => poC dC dI cy (w_X8_worthTogether cy a0 gd) t) (va_A (w_X8_worthTogether cy a0 gd) sz)) 0 0 (va_A (w_X8_worthTogether cy a0 gd) sz) := by
  refine Met.ofW (cc := cX8_worthTogether) (maxL := 6) (ret := (some .long)) (by decide) rfl ?_
  intro p e s m aa below meth c s₁ B hml hv
  obtain ⟨haa, hsz, hP, hK, hD0⟩ := hv
  have hx := B.exec
  have hb := B.bytes
  have hr := B.returns
  have hts := atoms_spec (ws := wsX8_worthTogether) B.pre
  have hown : s.vm.findClass RX8 = some m.cls := findClass_of_methodNamed B.named
  have hlocks := B.notSynchronized
  subst hsz
  have hD := hD0.self (sz := s.heap.size)
  obtain ⟨qq, hqq⟩ : ∃ qq, qq = (va_Ql (fun (r : Int64) (_ : Unit) => r = R0) (fun (_ : Unit) t => poC dC dI cy (w_X8_worthTogether cy a0 gd) t) (va_A (w_X8_worthTogether cy a0 gd) s.heap.size)) := ⟨_, rfl⟩
  rw [← hqq]
  generalize hAe : va_A (w_X8_worthTogether cy a0 gd) s.heap.size = A at hD hqq ⊢
  have hA : ∀ q : Nat, s.heap.size ≤ q → A q := fun q h => by rw [← hAe]; exact Or.inr h
  have hS : va_S A s.heap s.heap [] := va_S.rf
  have hl := lv_entry ([.ref (a0 0), .int x1, .int x2]) (n := 6) (Nat.le_of_ble_eq_true rfl)
  have hE : entryFrame m aa 6 = F0 m 0 ((lg_sl ([.ref (a0 0), .int x1, .int x2]) ++ List.replicate (6 - (lg_sl ([.ref (a0 0), .int x1, .int x2])).length) Slot.unset).toArray) [] := by rw [haa]; exact lg_entry_eq m _ 6
  refine W.eq hE ?_
  generalize (lg_sl ([.ref (a0 0), .int x1, .int x2]) ++ List.replicate (6 - (lg_sl ([.ref (a0 0), .int x1, .int x2])).length) Slot.unset).toArray = ls at hl ⊢
  have hl : lv_has ls 6 [(0, .ref (a0 0)), (1, .int x1), (2, .int x2)] := hl
  change W p l e rm_X8_worthTogether s m aa below meth c s.heap [] 0 0 (MQ below qq aa s 0 0 A) (F0 m 0 ls [])
  have hS0 := hS
  have c32 : ∀ (k5 : Int32 → Int32 → Int64 → Int32 → Option (Int64)) (hk5 : ∀ (x1 : Int32) (x2 : Int32) (x3 : Int64) (x5 : Int32) (H : Heap) (locs : List Loc) (ls : Array Slot), k5 x1 x2 x3 x5 = some R0 → va_P (dC, dI) vwCl (w_X8_worthTogether cy a0 gd) H → va_D A (w_X8_worthTogether cy a0 gd) → va_S A s.heap H locs → lv_has ls 6 [(0, .ref (a0 0)), (1, .int x1), (2, .int x2), (3, .long x3), (5, .int x5)] → W p l e rm_X8_worthTogether s m aa below meth c H locs 0 0 (MQ below qq aa s 0 0 A) (F0 m 5 ls [])), ∀ (x1 : Int32) (x2 : Int32) (x3 : Int64) (x5 : Int32) (H : Heap) (locs : List Loc) (ls : Array Slot), p_X8_worthTogether_32 k5 gd x1 x2 x3 x5 = some R0 → va_P (dC, dI) vwCl (w_X8_worthTogether cy a0 gd) H → va_D A (w_X8_worthTogether cy a0 gd) → va_S A s.heap H locs → lv_has ls 6 [(0, .ref (a0 0)), (1, .int x1), (2, .int x2), (3, .long x3), (5, .int x5)] → W p l e rm_X8_worthTogether s m aa below meth c H locs 0 0 (MQ below qq aa s 0 0 A) (F0 m 32 ls []) := by
    intro k5 hk5 x1 x2 x3 x5 H locs ls h hP hD hS hl
    unfold p_X8_worthTogether_32 at h
    refine lv_iinc (v := (x5 + (1 : Int32))) (lv' := [(5, .int (x5 + (1 : Int32))), (0, .ref (a0 0)), (1, .int x1), (2, .int x2), (3, .long x3)]) hx hb dX8_worthTogether_32 hl (k := 4) rfl rfl (by decide) rfl (fun ls hl => ?_)
    refine lv_goto (tgt := 5) hx hb dX8_worthTogether_35 (by decide) ?_
    exact hk5 x1 x2 x3 (x5 + (1 : Int32)) H locs ls h hP hD hS (lv_sub hl [1, 2, 3, 4, 0] rfl)
  have c5 : ∀ (n : Nat), ∀ (x1 : Int32) (x2 : Int32) (x3 : Int64) (x5 : Int32) (H : Heap) (locs : List Loc) (ls : Array Slot), p_X8_worthTogether_5 gd n x1 x2 x3 x5 = some R0 → va_P (dC, dI) vwCl (w_X8_worthTogether cy a0 gd) H → va_D A (w_X8_worthTogether cy a0 gd) → va_S A s.heap H locs → lv_has ls 6 [(0, .ref (a0 0)), (1, .int x1), (2, .int x2), (3, .long x3), (5, .int x5)] → W p l e rm_X8_worthTogether s m aa below meth c H locs 0 0 (MQ below qq aa s 0 0 A) (F0 m 5 ls []) := by
    intro  n
    induction n with
    | zero => intro x1 x2 x3 x5 H locs ls h; exact no_some h
    | succ n ih =>
      intro x1 x2 x3 x5 H locs ls h hP hD hS hl
      rw [p_X8_worthTogether_5.eq_2] at h
      refine lv_iload hx hb dX8_worthTogether_5 (lv_at hl 4 rfl) ?_
      refine lv_bipush (v := (10 : Int32)) hx hb dX8_worthTogether_7 (by decide) ?_
      refine lv_icmp_ge (tgt := 38) hx hb dX8_worthTogether_9 (by decide) (fun c1 => ?_) (fun c1 => ?_)
      · rw [if_pos c1] at h
        refine lv_lload_n hx hb dX8_worthTogether_38 rfl (lv_at hl 3 rfl) ?_
        exact W.lret (v := x3) hx hb hr (fun t ht hW => by rw [hqq]; have hh := Option.some.inj h; exact ⟨⟨x3, (()), rfl, Option.some.inj h, by rw [ht]; exact hP, va_K.moved hW.alike hK⟩, hS.F ht⟩) hS.2.2 dX8_worthTogether_39
      · rw [if_neg c1] at h
        refine lv_iload_n hx hb dX8_worthTogether_12 rfl (lv_at hl 1 rfl) ?_
        refine lv_iload hx hb dX8_worthTogether_13 (lv_at hl 4 rfl) ?_
        refine lv_ishr hx hb dX8_worthTogether_15 ?_
        refine lv_iconst (v := (1 : Int32)) hx hb dX8_worthTogether_16 (by decide) ?_
        refine lv_iand hx hb dX8_worthTogether_17 ?_
        refine lv_if_eq (tgt := 32) hx hb dX8_worthTogether_18 (by decide) (fun c2 => ?_) (fun c2 => ?_)
        · rw [if_pos c2] at h
          exact c32 (p_X8_worthTogether_5 gd n) ih x1 x2 x3 x5 H locs ls h hP hD hS (lv_sub hl [0, 1, 2, 3, 4] rfl)
        · rw [if_neg c2] at h
          refine lv_lload_n hx hb dX8_worthTogether_21 rfl (lv_at hl 3 rfl) ?_
          refine lv_aload_n hx hb dX8_worthTogether_22 rfl (lv_at hl 0 rfl) ?_
          refine lv_iload hx hb dX8_worthTogether_23 (lv_at hl 4 rfl) ?_
          refine lv_iload_n hx hb dX8_worthTogether_25 rfl (lv_at hl 2 rfl) ?_
          obtain ⟨v3, hv4, h⟩ := ok_bind h
          refine cl_vi (w2 := fun (_ : Unit) => w_X8_worthTogether cy a0 gd) (As := [.int x5, .int x2]) (rest := [.long x3]) ⟨hx, hb, hml, hown, hts⟩ (c_X4_worthIn l dC dI cy a0 gd x5 x2 H.size v3 hv4) (cwV 2 hts gX8_worthTogether_X4_worthIn rfl rfl rfl (by decide +kernel) ⟨Nat.le_of_ble_eq_true rfl, Nat.le_of_ble_eq_true rfl⟩) (va_recv hK hP (ci := 2) (q0 := 0) rfl rfl) cl_blind (cl_pre hK hP hD [0, 1, 2, 3, 4] (by decide) rfl) hP hD hS hA [0, 1, 2, 3, 4] rfl rfl hl.1 rfl (lv_room (Nat.le_of_ble_eq_true rfl)) dX8_worthTogether_26 ⟨Nat.le_of_ble_eq_true rfl, Nat.le_of_ble_eq_true rfl⟩ ⟨rfl, rfl⟩ (fun _ => updR [0, 1, 2, 3, 4] rfl) (fun r u H locs hw hP hD hS => ?_)
          have hw := hw.symm
          subst hw
          have hP : va_P (dC, dI) vwCl (w_X8_worthTogether cy a0 gd) H := hP
          have hD : va_D A (w_X8_worthTogether cy a0 gd) := hD
          refine lv_i2l hx hb dX8_worthTogether_29 rfl ?_
          refine lv_ladd hx hb dX8_worthTogether_30 ?_
          refine lv_lstore_n (lv' := [(3, .long (x3 + v3.toInt64)), (0, .ref (a0 0)), (1, .int x1), (2, .int x2), (5, .int x5)]) hx hb dX8_worthTogether_31 rfl hl (by decide) rfl (fun ls hl => ?_)
          exact c32 (p_X8_worthTogether_5 gd n) ih x1 x2 (x3 + v3.toInt64) x5 H locs ls h hP hD hS (lv_sub hl [1, 2, 3, 0, 4] rfl)
  obtain ⟨H, hH⟩ : ∃ H : Heap, H = s.heap := ⟨_, rfl⟩
  obtain ⟨locs, hlocs⟩ : ∃ locs : List Loc, locs = [] := ⟨_, rfl⟩
  have hS : va_S A s.heap H locs := by rw [hH, hlocs]; exact hS
  rw [← hH] at hP
  suffices hg : W p l e rm_X8_worthTogether s m aa below meth c H locs 0 0 (MQ below qq aa s 0 0 A) (F0 m 0 ls []) by subst hH; subst hlocs; exact hg
  unfold p_X8_worthTogether at h
  refine lv_lconst (v := (0 : Int64)) hx hb dX8_worthTogether_0 (by decide) ?_
  refine lv_lstore_n (lv' := [(3, .long (0 : Int64)), (0, .ref (a0 0)), (1, .int x1), (2, .int x2)]) hx hb dX8_worthTogether_1 rfl hl (by decide) rfl (fun ls hl => ?_)
  refine lv_iconst (v := (0 : Int32)) hx hb dX8_worthTogether_2 (by decide) ?_
  refine lv_istore (lv' := [(5, .int (0 : Int32)), (3, .long (0 : Int64)), (0, .ref (a0 0)), (1, .int x1), (2, .int x2)]) hx hb dX8_worthTogether_3 hl (by decide) rfl (fun ls hl => ?_)
  exact c5 fu x1 x2 (0 : Int64) (0 : Int32) H locs ls h hP hD hS (lv_sub hl [2, 3, 4, 1, 0] rfl)

abbrev w_X8_fit (cy : Nat → ClassId) (a0 : Nat → Nat) (a1 : Nat → Nat) (gc_0 : Int32 × (Nat → Int32) × (Nat → Int32) × (Nat → Int32)) (gd_1 : Int32 × Int32 × (Nat → Int32) × (Nat → Int32) × (Nat → Int32) × (Nat → Int32)) : va_W := [(a0 0, .inr (6, [.int (gc_0.1), .ref (a0 1), .ref (a0 2), .ref (a0 3)])), (a0 1, .inl (cy 1, 12, .inl (gc_0.2.1))), (a0 2, .inl (cy 1, 12, .inl (gc_0.2.2.1))), (a0 3, .inl (cy 1, 12, .inl (gc_0.2.2.2))), (a1 0, .inr (2, [.int (gd_1.1), .int (gd_1.2.1), .ref (a1 1), .ref (a1 2), .ref (a1 3), .ref (a1 4)])), (a1 1, .inl (cy 1, 10, .inl (gd_1.2.2.1))), (a1 2, .inl (cy 1, 10, .inl (gd_1.2.2.2.1))), (a1 3, .inl (cy 1, 10, .inl (gd_1.2.2.2.2.1))), (a1 4, .inl (cy 1, 50, .inl (gd_1.2.2.2.2.2)))]
abbrev rm_X8_fit : Room := { frames := 5, cells := 0, slots := 0, locals := 118 }
set_option maxHeartbeats 1000000 in
set_option maxRecDepth 100000 in
theorem c_X8_fit (l : Launch) (dC : Nat → ClassId) (dI : Nat → Nat → Nat) (cy : Nat → ClassId) (a0 : Nat → Nat) (a1 : Nat → Nat) (gc_0 : Int32 × (Nat → Int32) × (Nat → Int32) × (Nat → Int32)) (gd_1 : Int32 × Int32 × (Nat → Int32) × (Nat → Int32) × (Nat → Int32) × (Nat → Int32)) (x2 : Int32) (sz : Nat) (R0 : Int32) (h : p_X8_fit gc_0 gd_1 x2 = some R0) : Met l yX8_fit wsX8_fit rm_X8_fit (va_Pc [.ref (a0 0), .ref (a1 0), .int x2] (prC dC dI cy (w_X8_fit cy a0 a1 gc_0 gd_1) sz)) (va_Qi (fun (r : Int32) (_ : Unit) => r = R0) (fun (_ : Unit) t => poC dC dI cy (w_X8_fit cy a0 a1 gc_0 gd_1) t) (va_A (w_X8_fit cy a0 a1 gc_0 gd_1) sz)) 0 0 (va_A (w_X8_fit cy a0 a1 gc_0 gd_1) sz) := by
  refine Met.ofW (cc := cX8_fit) (maxL := 4) (ret := (some .boolean)) (by decide) rfl ?_
  intro p e s m aa below meth c s₁ B hml hv
  obtain ⟨haa, hsz, hP, hK, hD0⟩ := hv
  have hx := B.exec
  have hb := B.bytes
  have hr := B.returns
  have hts := atoms_spec (ws := wsX8_fit) B.pre
  have hown : s.vm.findClass RX8 = some m.cls := findClass_of_methodNamed B.named
  have hlocks := B.notSynchronized
  subst hsz
  have hD := hD0.self (sz := s.heap.size)
  obtain ⟨qq, hqq⟩ : ∃ qq, qq = (va_Qi (fun (r : Int32) (_ : Unit) => r = R0) (fun (_ : Unit) t => poC dC dI cy (w_X8_fit cy a0 a1 gc_0 gd_1) t) (va_A (w_X8_fit cy a0 a1 gc_0 gd_1) s.heap.size)) := ⟨_, rfl⟩
  rw [← hqq]
  generalize hAe : va_A (w_X8_fit cy a0 a1 gc_0 gd_1) s.heap.size = A at hD hqq ⊢
  have hA : ∀ q : Nat, s.heap.size ≤ q → A q := fun q h => by rw [← hAe]; exact Or.inr h
  have hS : va_S A s.heap s.heap [] := va_S.rf
  have hl := lv_entry ([.ref (a0 0), .ref (a1 0), .int x2]) (n := 4) (Nat.le_of_ble_eq_true rfl)
  have hE : entryFrame m aa 4 = F0 m 0 ((lg_sl ([.ref (a0 0), .ref (a1 0), .int x2]) ++ List.replicate (4 - (lg_sl ([.ref (a0 0), .ref (a1 0), .int x2])).length) Slot.unset).toArray) [] := by rw [haa]; exact lg_entry_eq m _ 4
  refine W.eq hE ?_
  generalize (lg_sl ([.ref (a0 0), .ref (a1 0), .int x2]) ++ List.replicate (4 - (lg_sl ([.ref (a0 0), .ref (a1 0), .int x2])).length) Slot.unset).toArray = ls at hl ⊢
  have hl : lv_has ls 4 [(0, .ref (a0 0)), (1, .ref (a1 0)), (2, .int x2)] := hl
  change W p l e rm_X8_fit s m aa below meth c s.heap [] 0 0 (MQ below qq aa s 0 0 A) (F0 m 0 ls [])
  have hS0 := hS
  have lk0 := hts (.fieldLink RX8 21 "GoatDoors$Receipts" "size" "I") (by decide +kernel)
  have lk1 := hts (.fieldLink RX8 9 "GoatDoors$Receipts" "doorBits" "[I") (by decide +kernel)
  have lk2 := hts (.fieldLink RX8 18 "GoatDoors$Receipts" "shifts" "[I") (by decide +kernel)
  have lk3 := hts (.fieldLink RX8 15 "GoatDoors$Receipts" "sums" "[I") (by decide +kernel)
  have in_X8 : ∀ w ∈ wsX80, w ∈ wsX8_fit := by decide +kernel
  have c2 : ∀ (n : Nat), ∀ (x2 : Int32) (x3 : Int32) (H : Heap) (locs : List Loc) (ls : Array Slot), p_X8_fit_2 gc_0 gd_1 n x2 x3 = some R0 → va_P (dC, dI) vwCl (w_X8_fit cy a0 a1 gc_0 gd_1) H → va_D A (w_X8_fit cy a0 a1 gc_0 gd_1) → va_S A s.heap H locs → lv_has ls 4 [(0, .ref (a0 0)), (1, .ref (a1 0)), (2, .int x2), (3, .int x3)] → W p l e rm_X8_fit s m aa below meth c H locs 0 0 (MQ below qq aa s 0 0 A) (F0 m 2 ls []) := by
    intro  n
    induction n with
    | zero => intro x2 x3 H locs ls h; exact no_some h
    | succ n ih =>
      intro x2 x3 H locs ls h hP hD hS hl
      rw [p_X8_fit_2.eq_2] at h
      refine lv_iload_n hx hb dX8_fit_2 rfl (lv_at hl 3 rfl) ?_
      refine lv_bipush (v := (12 : Int32)) hx hb dX8_fit_3 (by decide) ?_
      refine lv_icmp_ge (tgt := 53) hx hb dX8_fit_5 (by decide) (fun c1 => ?_) (fun c1 => ?_)
      · rw [if_pos c1] at h
        refine lv_iconst (v := (1 : Int32)) hx hb dX8_fit_53 (by decide) ?_
        exact W.zret (v := (1 : Int32)) (ty := .boolean) hx hb hr rfl (fun t ht hW => by rw [hqq]; have hh := Option.some.inj h; exact ⟨⟨(1 : Int32), (()), rfl, Option.some.inj h, by rw [ht]; exact hP, va_K.moved hW.alike hK⟩, hS.F ht⟩) hS.2.2 dX8_fit_54
      · rw [if_neg c1] at h
        refine lv_iload_n hx hb dX8_fit_8 rfl (lv_at hl 3 rfl) ?_
        refine lv_aload_n hx hb dX8_fit_9 rfl (lv_at hl 0 rfl) ?_
        refine va_get (D := (dC, dI)) (ci := 6) (v := .int gc_0.1) (C := RX8) (T := TX8) (N := 4) hx hb hts in_X8 hown hK hP 0 rfl rfl 0 (by decide) lk0 (fun _ h9 => h9) rfl dX8_fit_10 ?_
        refine lv_icmp_ge (tgt := 53) hx hb dX8_fit_13 (by decide) (fun c2 => ?_) (fun c2 => ?_)
        · rw [if_pos c2] at h
          refine lv_iconst (v := (1 : Int32)) hx hb dX8_fit_53 (by decide) ?_
          exact W.zret (v := (1 : Int32)) (ty := .boolean) hx hb hr rfl (fun t ht hW => by rw [hqq]; have hh := Option.some.inj h; exact ⟨⟨(1 : Int32), (()), rfl, Option.some.inj h, by rw [ht]; exact hP, va_K.moved hW.alike hK⟩, hS.F ht⟩) hS.2.2 dX8_fit_54
        · rw [if_neg c2] at h
          refine lv_aload_n hx hb dX8_fit_16 rfl (lv_at hl 1 rfl) ?_
          refine lv_aload_n hx hb dX8_fit_17 rfl (lv_at hl 0 rfl) ?_
          refine va_get (D := (dC, dI)) (ci := 6) (v := .ref (a0 1)) (C := RX8) (T := TX8) (N := 4) hx hb hts in_X8 hown hK hP 0 rfl rfl 1 (by decide) lk1 (fun _ h9 => h9) rfl dX8_fit_18 ?_
          refine lv_iload_n hx hb dX8_fit_21 rfl (lv_at hl 3 rfl) ?_
          obtain ⟨hi3, h⟩ := ok_if h
          refine va_iald hx hb hK hP 1 1 rfl rfl (ix_in hi3) dX8_fit_22 ?_
          refine lv_iload_n hx hb dX8_fit_23 rfl (lv_at hl 2 rfl) ?_
          refine lv_aload_n hx hb dX8_fit_24 rfl (lv_at hl 0 rfl) ?_
          refine va_get (D := (dC, dI)) (ci := 6) (v := .ref (a0 3)) (C := RX8) (T := TX8) (N := 4) hx hb hts in_X8 hown hK hP 0 rfl rfl 3 (by decide) lk2 (fun _ h9 => h9) rfl dX8_fit_25 ?_
          refine lv_iload_n hx hb dX8_fit_28 rfl (lv_at hl 3 rfl) ?_
          obtain ⟨hi4, h⟩ := ok_if h
          refine va_iald hx hb hK hP 3 1 rfl rfl (ix_in hi4) dX8_fit_29 ?_
          refine lv_iadd hx hb dX8_fit_30 ?_
          obtain ⟨v5, hv6, h⟩ := ok_bind h
          refine cl_sl (w2 := fun (_ : Unit) => w_X8_fit cy a0 a1 gc_0 gd_1) (As := [.ref (a1 0), .int (gc_0.2.1 x3.toNatClampNeg), .int (x2 + (gc_0.2.2.2 x3.toNatClampNeg))]) (rest := []) ⟨hx, hb, hml, hown, hts⟩ (c_X8_worthTogether l dC dI cy a1 gd_1 (gc_0.2.1 x3.toNatClampNeg) (x2 + (gc_0.2.2.2 x3.toNatClampNeg)) H.size v5 hv6) (va_cwS 3 hts gX8_fit_X8_worthTogether rfl rfl rfl (by decide +kernel) ⟨Nat.le_of_ble_eq_true rfl, Nat.le_of_ble_eq_true rfl⟩) cl_blind (cl_pre hK hP hD [4, 5, 6, 7, 8] (by decide) rfl) hP hD hS hA [4, 5, 6, 7, 8] rfl rfl hl.1 rfl (lv_room (Nat.le_of_ble_eq_true rfl)) dX8_fit_31 ⟨Nat.le_of_ble_eq_true rfl, Nat.le_of_ble_eq_true rfl⟩ ⟨rfl, rfl⟩ (fun _ => updR [4, 5, 6, 7, 8] rfl) (fun r u H locs hw hP hD hS => ?_)
          have hw := hw.symm
          subst hw
          have hP : va_P (dC, dI) vwCl (w_X8_fit cy a0 a1 gc_0 gd_1) H := hP
          have hD : va_D A (w_X8_fit cy a0 a1 gc_0 gd_1) := hD
          refine lv_aload_n hx hb dX8_fit_34 rfl (lv_at hl 0 rfl) ?_
          refine va_get (D := (dC, dI)) (ci := 6) (v := .ref (a0 2)) (C := RX8) (T := TX8) (N := 4) hx hb hts in_X8 hown hK hP 0 rfl rfl 2 (by decide) lk3 (fun _ h9 => h9) rfl dX8_fit_35 ?_
          refine lv_iload_n hx hb dX8_fit_38 rfl (lv_at hl 3 rfl) ?_
          obtain ⟨hi7, h⟩ := ok_if h
          refine va_iald hx hb hK hP 2 1 rfl rfl (ix_in hi7) dX8_fit_39 ?_
          refine lv_i2l hx hb dX8_fit_40 rfl ?_
          refine W.lcmp hx hb dX8_fit_41 ?_
          refine lv_if_eq (tgt := 47) hx hb dX8_fit_42 (by decide) (fun c8 => ?_) (fun c8 => ?_)
          · rw [if_pos c8] at h
            refine lv_iinc (v := (x3 + (1 : Int32))) (lv' := [(3, .int (x3 + (1 : Int32))), (0, .ref (a0 0)), (1, .ref (a1 0)), (2, .int x2)]) hx hb dX8_fit_47 hl (k := 3) rfl rfl (by decide) rfl (fun ls hl => ?_)
            refine lv_goto (tgt := 2) hx hb dX8_fit_50 (by decide) ?_
            exact ih x2 (x3 + (1 : Int32)) H locs ls h hP hD hS (lv_sub hl [1, 2, 3, 0] rfl)
          · rw [if_neg c8] at h
            refine lv_iconst (v := (0 : Int32)) hx hb dX8_fit_45 (by decide) ?_
            exact W.zret (v := (0 : Int32)) (ty := .boolean) hx hb hr rfl (fun t ht hW => by rw [hqq]; have hh := Option.some.inj h; exact ⟨⟨(0 : Int32), (()), rfl, Option.some.inj h, by rw [ht]; exact hP, va_K.moved hW.alike hK⟩, hS.F ht⟩) hS.2.2 dX8_fit_46
  obtain ⟨H, hH⟩ : ∃ H : Heap, H = s.heap := ⟨_, rfl⟩
  obtain ⟨locs, hlocs⟩ : ∃ locs : List Loc, locs = [] := ⟨_, rfl⟩
  have hS : va_S A s.heap H locs := by rw [hH, hlocs]; exact hS
  rw [← hH] at hP
  suffices hg : W p l e rm_X8_fit s m aa below meth c H locs 0 0 (MQ below qq aa s 0 0 A) (F0 m 0 ls []) by subst hH; subst hlocs; exact hg
  unfold p_X8_fit at h
  refine lv_iconst (v := (0 : Int32)) hx hb dX8_fit_0 (by decide) ?_
  refine lv_istore_n (lv' := [(3, .int (0 : Int32)), (0, .ref (a0 0)), (1, .ref (a1 0)), (2, .int x2)]) hx hb dX8_fit_1 rfl hl (by decide) rfl (fun ls hl => ?_)
  exact c2 fu x2 (0 : Int32) H locs ls h hP hD hS (lv_sub hl [1, 2, 3, 0] rfl)

abbrev w_X9_empty (cy : Nat → ClassId) (a0 : Nat → Nat) (gv : Int32 × Int32 × (Nat → Int32) × (Nat → Int32) × (Nat → Int32) × (Nat → Int32) × (Nat → Int32)) (gd : Int32 × Int32 × (Nat → Int32) × (Nat → Int32) × (Nat → Int32) × (Nat → Int32)) (gc : Int32 × (Nat → Int32) × (Nat → Int32) × (Nat → Int32)) : va_W := [(a0 0, .inr (7, [.int (gv.1), .int (gv.2.1), .ref (a0 1), .ref (a0 6), .ref (a0 10), .ref (a0 11), .ref (a0 12), .ref (a0 13), .ref (a0 14)])), (a0 1, .inr (2, [.int (gd.1), .int (gd.2.1), .ref (a0 2), .ref (a0 3), .ref (a0 4), .ref (a0 5)])), (a0 2, .inl (cy 1, 10, .inl (gd.2.2.1))), (a0 3, .inl (cy 1, 10, .inl (gd.2.2.2.1))), (a0 4, .inl (cy 1, 10, .inl (gd.2.2.2.2.1))), (a0 5, .inl (cy 1, 50, .inl (gd.2.2.2.2.2))), (a0 6, .inr (6, [.int (gc.1), .ref (a0 7), .ref (a0 8), .ref (a0 9)])), (a0 7, .inl (cy 1, 12, .inl (gc.2.1))), (a0 8, .inl (cy 1, 12, .inl (gc.2.2.1))), (a0 9, .inl (cy 1, 12, .inl (gc.2.2.2))), (a0 10, .inl (cy 1, 5, .inl (gv.2.2.1))), (a0 11, .inl (cy 1, 5, .inl (gv.2.2.2.1))), (a0 12, .inl (cy 1, 5, .inl (gv.2.2.2.2.1))), (a0 13, .inl (cy 1, 5, .inl (gv.2.2.2.2.2.1))), (a0 14, .inl (cy 1, 5, .inl (gv.2.2.2.2.2.2)))]
abbrev rm_X9_empty : Room := { frames := 1, cells := 0, slots := 0, locals := 20 }
set_option maxHeartbeats 1000000 in
set_option maxRecDepth 100000 in
theorem c_X9_empty (l : Launch) (dC : Nat → ClassId) (dI : Nat → Nat → Nat) (cy : Nat → ClassId) (a0 : Nat → Nat) (gv : Int32 × Int32 × (Nat → Int32) × (Nat → Int32) × (Nat → Int32) × (Nat → Int32) × (Nat → Int32)) (gd : Int32 × Int32 × (Nat → Int32) × (Nat → Int32) × (Nat → Int32) × (Nat → Int32)) (gc : Int32 × (Nat → Int32) × (Nat → Int32) × (Nat → Int32)) (sz : Nat) (R0 : (Int32 × Int32 × (Nat → Int32) × (Nat → Int32) × (Nat → Int32) × (Nat → Int32) × (Nat → Int32)) × (Int32 × Int32 × (Nat → Int32) × (Nat → Int32) × (Nat → Int32) × (Nat → Int32)) × (Int32 × (Nat → Int32) × (Nat → Int32) × (Nat → Int32))) (h : p_X9_empty gv gd gc = some R0) : Met l yX9_empty wsX9_empty rm_X9_empty (va_Pc [.ref (a0 0)] (prC dC dI cy (w_X9_empty cy a0 gv gd gc) sz)) (va_Qv (fun (u : (Int32 × Int32 × (Nat → Int32) × (Nat → Int32) × (Nat → Int32) × (Nat → Int32) × (Nat → Int32)) × (Int32 × Int32 × (Nat → Int32) × (Nat → Int32) × (Nat → Int32) × (Nat → Int32)) × (Int32 × (Nat → Int32) × (Nat → Int32) × (Nat → Int32))) => u = R0) (fun (u : (Int32 × Int32 × (Nat → Int32) × (Nat → Int32) × (Nat → Int32) × (Nat → Int32) × (Nat → Int32)) × (Int32 × Int32 × (Nat → Int32) × (Nat → Int32) × (Nat → Int32) × (Nat → Int32)) × (Int32 × (Nat → Int32) × (Nat → Int32) × (Nat → Int32))) t => poC dC dI cy (w_X9_empty cy a0 u.1 u.2.1 u.2.2) t) (va_A (w_X9_empty cy a0 gv gd gc) sz)) 0 0 (va_A (w_X9_empty cy a0 gv gd gc) sz) := by
  refine Met.ofW (cc := cX9_empty) (maxL := 1) (ret := none) (by decide) rfl ?_
  intro p e s m aa below meth c s₁ B hml hv
  obtain ⟨haa, hsz, hP, hK, hD0⟩ := hv
  have hx := B.exec
  have hb := B.bytes
  have hr := B.returns
  have hts := atoms_spec (ws := wsX9_empty) B.pre
  have hown : s.vm.findClass RX9 = some m.cls := findClass_of_methodNamed B.named
  have hlocks := B.notSynchronized
  subst hsz
  have hD := hD0.self (sz := s.heap.size)
  obtain ⟨qq, hqq⟩ : ∃ qq, qq = (va_Qv (fun (u : (Int32 × Int32 × (Nat → Int32) × (Nat → Int32) × (Nat → Int32) × (Nat → Int32) × (Nat → Int32)) × (Int32 × Int32 × (Nat → Int32) × (Nat → Int32) × (Nat → Int32) × (Nat → Int32)) × (Int32 × (Nat → Int32) × (Nat → Int32) × (Nat → Int32))) => u = R0) (fun (u : (Int32 × Int32 × (Nat → Int32) × (Nat → Int32) × (Nat → Int32) × (Nat → Int32) × (Nat → Int32)) × (Int32 × Int32 × (Nat → Int32) × (Nat → Int32) × (Nat → Int32) × (Nat → Int32)) × (Int32 × (Nat → Int32) × (Nat → Int32) × (Nat → Int32))) t => poC dC dI cy (w_X9_empty cy a0 u.1 u.2.1 u.2.2) t) (va_A (w_X9_empty cy a0 gv gd gc) s.heap.size)) := ⟨_, rfl⟩
  rw [← hqq]
  generalize hAe : va_A (w_X9_empty cy a0 gv gd gc) s.heap.size = A at hD hqq ⊢
  have hA : ∀ q : Nat, s.heap.size ≤ q → A q := fun q h => by rw [← hAe]; exact Or.inr h
  have hS : va_S A s.heap s.heap [] := va_S.rf
  have hl := lv_entry ([.ref (a0 0)]) (n := 1) (Nat.le_of_ble_eq_true rfl)
  have hE : entryFrame m aa 1 = F0 m 0 ((lg_sl ([.ref (a0 0)]) ++ List.replicate (1 - (lg_sl ([.ref (a0 0)])).length) Slot.unset).toArray) [] := by rw [haa]; exact lg_entry_eq m _ 1
  refine W.eq hE ?_
  generalize (lg_sl ([.ref (a0 0)]) ++ List.replicate (1 - (lg_sl ([.ref (a0 0)])).length) Slot.unset).toArray = ls at hl ⊢
  have hl : lv_has ls 1 [(0, .ref (a0 0))] := hl
  change W p l e rm_X9_empty s m aa below meth c s.heap [] 0 0 (MQ below qq aa s 0 0 A) (F0 m 0 ls [])
  have hS0 := hS
  have lk0 := hts (.fieldLink RX9 41 "GoatDoors$Village" "owners" "I") (by decide +kernel)
  have lk1 := hts (.fieldLink RX9 45 "GoatDoors$Village" "base" "I") (by decide +kernel)
  have lk2 := hts (.fieldLink RX9 12 "GoatDoors$Village" "doors" "LGoatDoors$Doors;") (by decide +kernel)
  have lk3 := hts (.fieldLink RX9 21 "GoatDoors$Village" "receipts" "LGoatDoors$Receipts;") (by decide +kernel)
  have lk4 := hts (.fieldLink RX9 51 "GoatDoors$Receipts" "size" "I") (by decide +kernel)
  have in_X9 : ∀ w ∈ wsX90, w ∈ wsX9_empty := by decide +kernel
  have in_X8 : ∀ w ∈ wsX80, w ∈ wsX9_empty := by decide +kernel
  obtain ⟨H, hH⟩ : ∃ H : Heap, H = s.heap := ⟨_, rfl⟩
  obtain ⟨locs, hlocs⟩ : ∃ locs : List Loc, locs = [] := ⟨_, rfl⟩
  have hS : va_S A s.heap H locs := by rw [hH, hlocs]; exact hS
  rw [← hH] at hP
  suffices hg : W p l e rm_X9_empty s m aa below meth c H locs 0 0 (MQ below qq aa s 0 0 A) (F0 m 0 ls []) by subst hH; subst hlocs; exact hg
  unfold p_X9_empty at h
  refine lv_aload_n hx hb dX9_empty_0 rfl (lv_at hl 0 rfl) ?_
  refine lv_iconst (v := (0 : Int32)) hx hb dX9_empty_1 (by decide) ?_
  refine va_put (D := (dC, dI)) (ci := 7) (v := .int (0 : Int32)) (ty := .int) (C := RX9) (T := TX9) (N := 9) hx hb hts in_X9 tyX9 tyX9_ok nmX9 hown hK hP hD hS 0 rfl rfl 0 (by decide) lk0 (fun _ h9 => h9) rfl (by decide +kernel) rfl rfl (Nat.le_of_ble_eq_true rfl) dX9_empty_2 (fun H locs hP hD hS => ?_)
  have hP : va_P (dC, dI) vwCl (w_X9_empty cy a0 (((0 : Int32), gv.2)) gd gc) H := hP
  have hD : va_D A (w_X9_empty cy a0 (((0 : Int32), gv.2)) gd gc) := hD
  refine lv_aload_n hx hb dX9_empty_5 rfl (lv_at hl 0 rfl) ?_
  refine lv_iconst (v := (0 : Int32)) hx hb dX9_empty_6 (by decide) ?_
  refine va_put (D := (dC, dI)) (ci := 7) (v := .int (0 : Int32)) (ty := .int) (C := RX9) (T := TX9) (N := 9) hx hb hts in_X9 tyX9 tyX9_ok nmX9 hown hK hP hD hS 0 rfl rfl 1 (by decide) lk1 (fun _ h9 => h9) rfl (by decide +kernel) rfl rfl (Nat.le_of_ble_eq_true rfl) dX9_empty_7 (fun H locs hP hD hS => ?_)
  have hP : va_P (dC, dI) vwCl (w_X9_empty cy a0 (((0 : Int32), (0 : Int32), gv.2.2)) gd gc) H := hP
  have hD : va_D A (w_X9_empty cy a0 (((0 : Int32), (0 : Int32), gv.2.2)) gd gc) := hD
  refine lv_aload_n hx hb dX9_empty_10 rfl (lv_at hl 0 rfl) ?_
  refine va_get (D := (dC, dI)) (ci := 7) (v := .ref (a0 1)) (C := RX9) (T := TX9) (N := 9) hx hb hts in_X9 hown hK hP 0 rfl rfl 2 (by decide) lk2 (fun _ h9 => h9) rfl dX9_empty_11 ?_
  obtain ⟨v1, hv2, h⟩ := ok_bind h
  refine cl_vv (w2 := fun (u : (Int32 × Int32 × (Nat → Int32) × (Nat → Int32) × (Nat → Int32) × (Nat → Int32))) => w_X9_empty cy a0 (((0 : Int32), (0 : Int32), gv.2.2)) u gc) (As := []) (rest := []) ⟨hx, hb, hml, hown, hts⟩ (c_X4_empty l dC dI cy (fun k => a0 (k + 1)) gd H.size v1 hv2) (cwV 0 hts gX9_empty_X4_empty rfl rfl rfl (by decide +kernel) ⟨Nat.le_of_ble_eq_true rfl, Nat.le_of_ble_eq_true rfl⟩) (va_recv hK hP (ci := 2) (q0 := 1) rfl rfl) cl_blind (cl_pre hK hP hD [1, 2, 3, 4, 5] (by decide) rfl) hP hD hS hA [1, 2, 3, 4, 5] rfl rfl hl.1 rfl (lv_room (Nat.le_of_ble_eq_true rfl)) dX9_empty_14 ⟨Nat.le_of_ble_eq_true rfl, Nat.le_of_ble_eq_true rfl⟩ ⟨rfl, rfl⟩ (fun _ => updM [1, 2, 3, 4, 5] [0, 6, 7, 8, 9, 10, 11, 12, 13, 14] [(a0 0, .inr (7, [.int ((0 : Int32)), .int ((0 : Int32)), .ref (a0 1), .ref (a0 6), .ref (a0 10), .ref (a0 11), .ref (a0 12), .ref (a0 13), .ref (a0 14)])), (a0 6, .inr (6, [.int (gc.1), .ref (a0 7), .ref (a0 8), .ref (a0 9)])), (a0 7, .inl (cy 1, 12, .inl (gc.2.1))), (a0 8, .inl (cy 1, 12, .inl (gc.2.2.1))), (a0 9, .inl (cy 1, 12, .inl (gc.2.2.2))), (a0 10, .inl (cy 1, 5, .inl (gv.2.2.1))), (a0 11, .inl (cy 1, 5, .inl (gv.2.2.2.1))), (a0 12, .inl (cy 1, 5, .inl (gv.2.2.2.2.1))), (a0 13, .inl (cy 1, 5, .inl (gv.2.2.2.2.2.1))), (a0 14, .inl (cy 1, 5, .inl (gv.2.2.2.2.2.2)))] 15 rfl rfl rfl rfl rfl (by decide +kernel) (by decide +kernel) rfl) (fun u H locs hw hP hD hS => ?_)
  have hw := hw.symm
  subst hw
  have hP : va_P (dC, dI) vwCl (w_X9_empty cy a0 (((0 : Int32), (0 : Int32), gv.2.2)) v1 gc) H := hP
  have hD : va_D A (w_X9_empty cy a0 (((0 : Int32), (0 : Int32), gv.2.2)) v1 gc) := hD
  refine lv_aload_n hx hb dX9_empty_17 rfl (lv_at hl 0 rfl) ?_
  refine va_get (D := (dC, dI)) (ci := 7) (v := .ref (a0 6)) (C := RX9) (T := TX9) (N := 9) hx hb hts in_X9 hown hK hP 0 rfl rfl 3 (by decide) lk3 (fun _ h9 => h9) rfl dX9_empty_18 ?_
  refine lv_iconst (v := (0 : Int32)) hx hb dX9_empty_21 (by decide) ?_
  refine va_put (D := (dC, dI)) (ci := 6) (v := .int (0 : Int32)) (ty := .int) (C := RX8) (T := TX8) (N := 4) hx hb hts in_X8 tyX8 tyX8_ok nmX8 hown hK hP hD hS 6 rfl rfl 0 (by decide) lk4 (fun _ h9 => h9) rfl (by decide +kernel) rfl rfl (Nat.le_of_ble_eq_true rfl) dX9_empty_22 (fun H locs hP hD hS => ?_)
  have hP : va_P (dC, dI) vwCl (w_X9_empty cy a0 (((0 : Int32), (0 : Int32), gv.2.2)) v1 (((0 : Int32), gc.2))) H := hP
  have hD : va_D A (w_X9_empty cy a0 (((0 : Int32), (0 : Int32), gv.2.2)) v1 (((0 : Int32), gc.2))) := hD
  exact W.vret hx hb hr (fun t ht hW => by rw [hqq]; have hh := Option.some.inj h; exact ⟨⟨((((0 : Int32), (0 : Int32), gv.2.2), v1, ((0 : Int32), gc.2))), rfl, Option.some.inj h, by rw [ht]; exact hP, va_K.moved hW.alike hK⟩, hS.F ht⟩) hS.2.2 dX9_empty_25

abbrev w_X9_copyFrom (cy : Nat → ClassId) (a0 : Nat → Nat) (a1 : Nat → Nat) (gv_0 : Int32 × Int32 × (Nat → Int32) × (Nat → Int32) × (Nat → Int32) × (Nat → Int32) × (Nat → Int32)) (gd_0 : Int32 × Int32 × (Nat → Int32) × (Nat → Int32) × (Nat → Int32) × (Nat → Int32)) (gc_0 : Int32 × (Nat → Int32) × (Nat → Int32) × (Nat → Int32)) (gv_1 : Int32 × Int32 × (Nat → Int32) × (Nat → Int32) × (Nat → Int32) × (Nat → Int32) × (Nat → Int32)) (gd_1 : Int32 × Int32 × (Nat → Int32) × (Nat → Int32) × (Nat → Int32) × (Nat → Int32)) (gc_1 : Int32 × (Nat → Int32) × (Nat → Int32) × (Nat → Int32)) : va_W := [(a0 0, .inr (7, [.int (gv_0.1), .int (gv_0.2.1), .ref (a0 1), .ref (a0 6), .ref (a0 10), .ref (a0 11), .ref (a0 12), .ref (a0 13), .ref (a0 14)])), (a0 1, .inr (2, [.int (gd_0.1), .int (gd_0.2.1), .ref (a0 2), .ref (a0 3), .ref (a0 4), .ref (a0 5)])), (a0 2, .inl (cy 1, 10, .inl (gd_0.2.2.1))), (a0 3, .inl (cy 1, 10, .inl (gd_0.2.2.2.1))), (a0 4, .inl (cy 1, 10, .inl (gd_0.2.2.2.2.1))), (a0 5, .inl (cy 1, 50, .inl (gd_0.2.2.2.2.2))), (a0 6, .inr (6, [.int (gc_0.1), .ref (a0 7), .ref (a0 8), .ref (a0 9)])), (a0 7, .inl (cy 1, 12, .inl (gc_0.2.1))), (a0 8, .inl (cy 1, 12, .inl (gc_0.2.2.1))), (a0 9, .inl (cy 1, 12, .inl (gc_0.2.2.2))), (a0 10, .inl (cy 1, 5, .inl (gv_0.2.2.1))), (a0 11, .inl (cy 1, 5, .inl (gv_0.2.2.2.1))), (a0 12, .inl (cy 1, 5, .inl (gv_0.2.2.2.2.1))), (a0 13, .inl (cy 1, 5, .inl (gv_0.2.2.2.2.2.1))), (a0 14, .inl (cy 1, 5, .inl (gv_0.2.2.2.2.2.2))), (a1 0, .inr (7, [.int (gv_1.1), .int (gv_1.2.1), .ref (a1 1), .ref (a1 6), .ref (a1 10), .ref (a1 11), .ref (a1 12), .ref (a1 13), .ref (a1 14)])), (a1 1, .inr (2, [.int (gd_1.1), .int (gd_1.2.1), .ref (a1 2), .ref (a1 3), .ref (a1 4), .ref (a1 5)])), (a1 2, .inl (cy 1, 10, .inl (gd_1.2.2.1))), (a1 3, .inl (cy 1, 10, .inl (gd_1.2.2.2.1))), (a1 4, .inl (cy 1, 10, .inl (gd_1.2.2.2.2.1))), (a1 5, .inl (cy 1, 50, .inl (gd_1.2.2.2.2.2))), (a1 6, .inr (6, [.int (gc_1.1), .ref (a1 7), .ref (a1 8), .ref (a1 9)])), (a1 7, .inl (cy 1, 12, .inl (gc_1.2.1))), (a1 8, .inl (cy 1, 12, .inl (gc_1.2.2.1))), (a1 9, .inl (cy 1, 12, .inl (gc_1.2.2.2))), (a1 10, .inl (cy 1, 5, .inl (gv_1.2.2.1))), (a1 11, .inl (cy 1, 5, .inl (gv_1.2.2.2.1))), (a1 12, .inl (cy 1, 5, .inl (gv_1.2.2.2.2.1))), (a1 13, .inl (cy 1, 5, .inl (gv_1.2.2.2.2.2.1))), (a1 14, .inl (cy 1, 5, .inl (gv_1.2.2.2.2.2.2)))]
abbrev rm_X9_copyFrom : Room := { frames := 2, cells := 0, slots := 0, locals := 121 }
set_option maxHeartbeats 1000000 in
set_option maxRecDepth 100000 in
theorem c_X9_copyFrom (l : Launch) (dC : Nat → ClassId) (dI : Nat → Nat → Nat) (cy : Nat → ClassId) (a0 : Nat → Nat) (a1 : Nat → Nat) (gv_0 : Int32 × Int32 × (Nat → Int32) × (Nat → Int32) × (Nat → Int32) × (Nat → Int32) × (Nat → Int32)) (gd_0 : Int32 × Int32 × (Nat → Int32) × (Nat → Int32) × (Nat → Int32) × (Nat → Int32)) (gc_0 : Int32 × (Nat → Int32) × (Nat → Int32) × (Nat → Int32)) (gv_1 : Int32 × Int32 × (Nat → Int32) × (Nat → Int32) × (Nat → Int32) × (Nat → Int32) × (Nat → Int32)) (gd_1 : Int32 × Int32 × (Nat → Int32) × (Nat → Int32) × (Nat → Int32) × (Nat → Int32)) (gc_1 : Int32 × (Nat → Int32) × (Nat → Int32) × (Nat → Int32)) (sz : Nat) (R0 : (Int32 × Int32 × (Nat → Int32) × (Nat → Int32) × (Nat → Int32) × (Nat → Int32) × (Nat → Int32)) × (Int32 × Int32 × (Nat → Int32) × (Nat → Int32) × (Nat → Int32) × (Nat → Int32)) × (Int32 × (Nat → Int32) × (Nat → Int32) × (Nat → Int32))) (h : p_X9_copyFrom gv_0 gd_0 gc_0 gv_1 gd_1 gc_1 = some R0) : Met l yX9_copyFrom wsX9_copyFrom rm_X9_copyFrom (va_Pc [.ref (a0 0), .ref (a1 0)] (prC dC dI cy (w_X9_copyFrom cy a0 a1 gv_0 gd_0 gc_0 gv_1 gd_1 gc_1) sz)) (va_Qv (fun (u : (Int32 × Int32 × (Nat → Int32) × (Nat → Int32) × (Nat → Int32) × (Nat → Int32) × (Nat → Int32)) × (Int32 × Int32 × (Nat → Int32) × (Nat → Int32) × (Nat → Int32) × (Nat → Int32)) × (Int32 × (Nat → Int32) × (Nat → Int32) × (Nat → Int32))) => u = R0) (fun (u : (Int32 × Int32 × (Nat → Int32) × (Nat → Int32) × (Nat → Int32) × (Nat → Int32) × (Nat → Int32)) × (Int32 × Int32 × (Nat → Int32) × (Nat → Int32) × (Nat → Int32) × (Nat → Int32)) × (Int32 × (Nat → Int32) × (Nat → Int32) × (Nat → Int32))) t => poC dC dI cy (w_X9_copyFrom cy a0 a1 u.1 u.2.1 u.2.2 gv_1 gd_1 gc_1) t) (va_A (w_X9_copyFrom cy a0 a1 gv_0 gd_0 gc_0 gv_1 gd_1 gc_1) sz)) 0 0 (va_A (w_X9_copyFrom cy a0 a1 gv_0 gd_0 gc_0 gv_1 gd_1 gc_1) sz) := by
  refine Met.ofW (cc := cX9_copyFrom) (maxL := 2) (ret := none) (by decide) rfl ?_
  intro p e s m aa below meth c s₁ B hml hv
  obtain ⟨haa, hsz, hP, hK, hD0⟩ := hv
  have hx := B.exec
  have hb := B.bytes
  have hr := B.returns
  have hts := atoms_spec (ws := wsX9_copyFrom) B.pre
  have hown : s.vm.findClass RX9 = some m.cls := findClass_of_methodNamed B.named
  have hlocks := B.notSynchronized
  subst hsz
  have hD := hD0.self (sz := s.heap.size)
  obtain ⟨qq, hqq⟩ : ∃ qq, qq = (va_Qv (fun (u : (Int32 × Int32 × (Nat → Int32) × (Nat → Int32) × (Nat → Int32) × (Nat → Int32) × (Nat → Int32)) × (Int32 × Int32 × (Nat → Int32) × (Nat → Int32) × (Nat → Int32) × (Nat → Int32)) × (Int32 × (Nat → Int32) × (Nat → Int32) × (Nat → Int32))) => u = R0) (fun (u : (Int32 × Int32 × (Nat → Int32) × (Nat → Int32) × (Nat → Int32) × (Nat → Int32) × (Nat → Int32)) × (Int32 × Int32 × (Nat → Int32) × (Nat → Int32) × (Nat → Int32) × (Nat → Int32)) × (Int32 × (Nat → Int32) × (Nat → Int32) × (Nat → Int32))) t => poC dC dI cy (w_X9_copyFrom cy a0 a1 u.1 u.2.1 u.2.2 gv_1 gd_1 gc_1) t) (va_A (w_X9_copyFrom cy a0 a1 gv_0 gd_0 gc_0 gv_1 gd_1 gc_1) s.heap.size)) := ⟨_, rfl⟩
  rw [← hqq]
  generalize hAe : va_A (w_X9_copyFrom cy a0 a1 gv_0 gd_0 gc_0 gv_1 gd_1 gc_1) s.heap.size = A at hD hqq ⊢
  have hA : ∀ q : Nat, s.heap.size ≤ q → A q := fun q h => by rw [← hAe]; exact Or.inr h
  have hS : va_S A s.heap s.heap [] := va_S.rf
  have hl := lv_entry ([.ref (a0 0), .ref (a1 0)]) (n := 2) (Nat.le_of_ble_eq_true rfl)
  have hE : entryFrame m aa 2 = F0 m 0 ((lg_sl ([.ref (a0 0), .ref (a1 0)]) ++ List.replicate (2 - (lg_sl ([.ref (a0 0), .ref (a1 0)])).length) Slot.unset).toArray) [] := by rw [haa]; exact lg_entry_eq m _ 2
  refine W.eq hE ?_
  generalize (lg_sl ([.ref (a0 0), .ref (a1 0)]) ++ List.replicate (2 - (lg_sl ([.ref (a0 0), .ref (a1 0)])).length) Slot.unset).toArray = ls at hl ⊢
  have hl : lv_has ls 2 [(0, .ref (a0 0)), (1, .ref (a1 0))] := hl
  change W p l e rm_X9_copyFrom s m aa below meth c s.heap [] 0 0 (MQ below qq aa s 0 0 A) (F0 m 0 ls [])
  have hS0 := hS
  have lk0 := hts (.fieldLink RX9 41 "GoatDoors$Village" "owners" "I") (by decide +kernel)
  have lk1 := hts (.fieldLink RX9 45 "GoatDoors$Village" "base" "I") (by decide +kernel)
  have lk2 := hts (.fieldLink RX9 12 "GoatDoors$Village" "doors" "LGoatDoors$Doors;") (by decide +kernel)
  have lk3 := hts (.fieldLink RX9 21 "GoatDoors$Village" "receipts" "LGoatDoors$Receipts;") (by decide +kernel)
  have lk4 := hts (.fieldLink RX9 25 "GoatDoors$Village" "goats" "[I") (by decide +kernel)
  have lk5 := hts (.methodLink RX9 61 arraycopyName) (by decide +kernel)
  have lk6 := hts (.native arraycopyName) (by decide +kernel)
  have lk7 := hts (.static arraycopyName) (by decide +kernel)
  have lk8 := hts (.initialized "java/lang/System") (by decide +kernel)
  have lk9 := hts (.fieldLink RX9 29 "GoatDoors$Village" "hides" "[I") (by decide +kernel)
  have lk10 := hts (.fieldLink RX9 32 "GoatDoors$Village" "hidden" "[I") (by decide +kernel)
  have lk11 := hts (.fieldLink RX9 35 "GoatDoors$Village" "lent" "[I") (by decide +kernel)
  have lk12 := hts (.fieldLink RX9 38 "GoatDoors$Village" "borrowed" "[I") (by decide +kernel)
  have in_X9 : ∀ w ∈ wsX90, w ∈ wsX9_copyFrom := by decide +kernel
  obtain ⟨H, hH⟩ : ∃ H : Heap, H = s.heap := ⟨_, rfl⟩
  obtain ⟨locs, hlocs⟩ : ∃ locs : List Loc, locs = [] := ⟨_, rfl⟩
  have hS : va_S A s.heap H locs := by rw [hH, hlocs]; exact hS
  rw [← hH] at hP
  suffices hg : W p l e rm_X9_copyFrom s m aa below meth c H locs 0 0 (MQ below qq aa s 0 0 A) (F0 m 0 ls []) by subst hH; subst hlocs; exact hg
  unfold p_X9_copyFrom at h
  refine lv_aload_n hx hb dX9_copyFrom_0 rfl (lv_at hl 0 rfl) ?_
  refine lv_aload_n hx hb dX9_copyFrom_1 rfl (lv_at hl 1 rfl) ?_
  refine va_get (D := (dC, dI)) (ci := 7) (v := .int gv_1.1) (C := RX9) (T := TX9) (N := 9) hx hb hts in_X9 hown hK hP 15 rfl rfl 0 (by decide) lk0 (fun _ h9 => h9) rfl dX9_copyFrom_2 ?_
  refine va_put (D := (dC, dI)) (ci := 7) (v := .int gv_1.1) (ty := .int) (C := RX9) (T := TX9) (N := 9) hx hb hts in_X9 tyX9 tyX9_ok nmX9 hown hK hP hD hS 0 rfl rfl 0 (by decide) lk0 (fun _ h9 => h9) rfl (by decide +kernel) rfl rfl (Nat.le_of_ble_eq_true rfl) dX9_copyFrom_5 (fun H locs hP hD hS => ?_)
  have hP : va_P (dC, dI) vwCl (w_X9_copyFrom cy a0 a1 ((gv_1.1, gv_0.2)) gd_0 gc_0 gv_1 gd_1 gc_1) H := hP
  have hD : va_D A (w_X9_copyFrom cy a0 a1 ((gv_1.1, gv_0.2)) gd_0 gc_0 gv_1 gd_1 gc_1) := hD
  refine lv_aload_n hx hb dX9_copyFrom_8 rfl (lv_at hl 0 rfl) ?_
  refine lv_aload_n hx hb dX9_copyFrom_9 rfl (lv_at hl 1 rfl) ?_
  refine va_get (D := (dC, dI)) (ci := 7) (v := .int gv_1.2.1) (C := RX9) (T := TX9) (N := 9) hx hb hts in_X9 hown hK hP 15 rfl rfl 1 (by decide) lk1 (fun _ h9 => h9) rfl dX9_copyFrom_10 ?_
  refine va_put (D := (dC, dI)) (ci := 7) (v := .int gv_1.2.1) (ty := .int) (C := RX9) (T := TX9) (N := 9) hx hb hts in_X9 tyX9 tyX9_ok nmX9 hown hK hP hD hS 0 rfl rfl 1 (by decide) lk1 (fun _ h9 => h9) rfl (by decide +kernel) rfl rfl (Nat.le_of_ble_eq_true rfl) dX9_copyFrom_13 (fun H locs hP hD hS => ?_)
  have hP : va_P (dC, dI) vwCl (w_X9_copyFrom cy a0 a1 ((gv_1.1, gv_1.2.1, gv_0.2.2)) gd_0 gc_0 gv_1 gd_1 gc_1) H := hP
  have hD : va_D A (w_X9_copyFrom cy a0 a1 ((gv_1.1, gv_1.2.1, gv_0.2.2)) gd_0 gc_0 gv_1 gd_1 gc_1) := hD
  refine lv_aload_n hx hb dX9_copyFrom_16 rfl (lv_at hl 0 rfl) ?_
  refine va_get (D := (dC, dI)) (ci := 7) (v := .ref (a0 1)) (C := RX9) (T := TX9) (N := 9) hx hb hts in_X9 hown hK hP 0 rfl rfl 2 (by decide) lk2 (fun _ h9 => h9) rfl dX9_copyFrom_17 ?_
  refine lv_aload_n hx hb dX9_copyFrom_20 rfl (lv_at hl 1 rfl) ?_
  refine va_get (D := (dC, dI)) (ci := 7) (v := .ref (a1 1)) (C := RX9) (T := TX9) (N := 9) hx hb hts in_X9 hown hK hP 15 rfl rfl 2 (by decide) lk2 (fun _ h9 => h9) rfl dX9_copyFrom_21 ?_
  obtain ⟨v1, hv2, h⟩ := ok_bind h
  refine cl_vv (w2 := fun (u : (Int32 × Int32 × (Nat → Int32) × (Nat → Int32) × (Nat → Int32) × (Nat → Int32))) => w_X9_copyFrom cy a0 a1 ((gv_1.1, gv_1.2.1, gv_0.2.2)) u gc_0 gv_1 gd_1 gc_1) (As := [.ref (a1 1)]) (rest := []) ⟨hx, hb, hml, hown, hts⟩ (c_X4_copyFrom l dC dI cy (fun k => a0 (k + 1)) (fun k => a1 (k + 1)) gd_0 gd_1 H.size v1 hv2) (cwV 1 hts gX9_copyFrom_X4_copyFrom rfl rfl rfl (by decide +kernel) ⟨Nat.le_of_ble_eq_true rfl, Nat.le_of_ble_eq_true rfl⟩) (va_recv hK hP (ci := 2) (q0 := 1) rfl rfl) cl_blind (cl_pre hK hP hD [1, 2, 3, 4, 5, 16, 17, 18, 19, 20] (by decide) rfl) hP hD hS hA [1, 2, 3, 4, 5, 16, 17, 18, 19, 20] rfl rfl hl.1 rfl (lv_room (Nat.le_of_ble_eq_true rfl)) dX9_copyFrom_24 ⟨Nat.le_of_ble_eq_true rfl, Nat.le_of_ble_eq_true rfl⟩ ⟨rfl, rfl⟩ (fun _ => updM [1, 2, 3, 4, 5, 16, 17, 18, 19, 20] [0, 6, 7, 8, 9, 10, 11, 12, 13, 14, 15, 21, 22, 23, 24, 25, 26, 27, 28, 29] [(a0 0, .inr (7, [.int (gv_1.1), .int (gv_1.2.1), .ref (a0 1), .ref (a0 6), .ref (a0 10), .ref (a0 11), .ref (a0 12), .ref (a0 13), .ref (a0 14)])), (a0 6, .inr (6, [.int (gc_0.1), .ref (a0 7), .ref (a0 8), .ref (a0 9)])), (a0 7, .inl (cy 1, 12, .inl (gc_0.2.1))), (a0 8, .inl (cy 1, 12, .inl (gc_0.2.2.1))), (a0 9, .inl (cy 1, 12, .inl (gc_0.2.2.2))), (a0 10, .inl (cy 1, 5, .inl (gv_0.2.2.1))), (a0 11, .inl (cy 1, 5, .inl (gv_0.2.2.2.1))), (a0 12, .inl (cy 1, 5, .inl (gv_0.2.2.2.2.1))), (a0 13, .inl (cy 1, 5, .inl (gv_0.2.2.2.2.2.1))), (a0 14, .inl (cy 1, 5, .inl (gv_0.2.2.2.2.2.2))), (a1 0, .inr (7, [.int (gv_1.1), .int (gv_1.2.1), .ref (a1 1), .ref (a1 6), .ref (a1 10), .ref (a1 11), .ref (a1 12), .ref (a1 13), .ref (a1 14)])), (a1 6, .inr (6, [.int (gc_1.1), .ref (a1 7), .ref (a1 8), .ref (a1 9)])), (a1 7, .inl (cy 1, 12, .inl (gc_1.2.1))), (a1 8, .inl (cy 1, 12, .inl (gc_1.2.2.1))), (a1 9, .inl (cy 1, 12, .inl (gc_1.2.2.2))), (a1 10, .inl (cy 1, 5, .inl (gv_1.2.2.1))), (a1 11, .inl (cy 1, 5, .inl (gv_1.2.2.2.1))), (a1 12, .inl (cy 1, 5, .inl (gv_1.2.2.2.2.1))), (a1 13, .inl (cy 1, 5, .inl (gv_1.2.2.2.2.2.1))), (a1 14, .inl (cy 1, 5, .inl (gv_1.2.2.2.2.2.2)))] 30 rfl rfl rfl rfl rfl (by decide +kernel) (by decide +kernel) rfl) (fun u H locs hw hP hD hS => ?_)
  have hw := hw.symm
  subst hw
  have hP : va_P (dC, dI) vwCl (w_X9_copyFrom cy a0 a1 ((gv_1.1, gv_1.2.1, gv_0.2.2)) v1 gc_0 gv_1 gd_1 gc_1) H := hP
  have hD : va_D A (w_X9_copyFrom cy a0 a1 ((gv_1.1, gv_1.2.1, gv_0.2.2)) v1 gc_0 gv_1 gd_1 gc_1) := hD
  refine lv_aload_n hx hb dX9_copyFrom_27 rfl (lv_at hl 0 rfl) ?_
  refine va_get (D := (dC, dI)) (ci := 7) (v := .ref (a0 6)) (C := RX9) (T := TX9) (N := 9) hx hb hts in_X9 hown hK hP 0 rfl rfl 3 (by decide) lk3 (fun _ h9 => h9) rfl dX9_copyFrom_28 ?_
  refine lv_aload_n hx hb dX9_copyFrom_31 rfl (lv_at hl 1 rfl) ?_
  refine va_get (D := (dC, dI)) (ci := 7) (v := .ref (a1 6)) (C := RX9) (T := TX9) (N := 9) hx hb hts in_X9 hown hK hP 15 rfl rfl 3 (by decide) lk3 (fun _ h9 => h9) rfl dX9_copyFrom_32 ?_
  obtain ⟨v3, hv4, h⟩ := ok_bind h
  refine cl_vv (w2 := fun (u : (Int32 × (Nat → Int32) × (Nat → Int32) × (Nat → Int32))) => w_X9_copyFrom cy a0 a1 ((gv_1.1, gv_1.2.1, gv_0.2.2)) v1 u gv_1 gd_1 gc_1) (As := [.ref (a1 6)]) (rest := []) ⟨hx, hb, hml, hown, hts⟩ (c_X8_copyFrom l dC dI cy (fun k => a0 (k + 6)) (fun k => a1 (k + 6)) gc_0 gc_1 H.size v3 hv4) (cwV 1 hts gX9_copyFrom_X8_copyFrom rfl rfl rfl (by decide +kernel) ⟨Nat.le_of_ble_eq_true rfl, Nat.le_of_ble_eq_true rfl⟩) (va_recv hK hP (ci := 6) (q0 := 6) rfl rfl) cl_blind (cl_pre hK hP hD [6, 7, 8, 9, 21, 22, 23, 24] (by decide) rfl) hP hD hS hA [6, 7, 8, 9, 21, 22, 23, 24] rfl rfl hl.1 rfl (lv_room (Nat.le_of_ble_eq_true rfl)) dX9_copyFrom_35 ⟨Nat.le_of_ble_eq_true rfl, Nat.le_of_ble_eq_true rfl⟩ ⟨rfl, rfl⟩ (fun _ => updM [6, 7, 8, 9, 21, 22, 23, 24] [0, 1, 2, 3, 4, 5, 10, 11, 12, 13, 14, 15, 16, 17, 18, 19, 20, 25, 26, 27, 28, 29] [(a0 0, .inr (7, [.int (gv_1.1), .int (gv_1.2.1), .ref (a0 1), .ref (a0 6), .ref (a0 10), .ref (a0 11), .ref (a0 12), .ref (a0 13), .ref (a0 14)])), (a0 1, .inr (2, [.int (v1.1), .int (v1.2.1), .ref (a0 2), .ref (a0 3), .ref (a0 4), .ref (a0 5)])), (a0 2, .inl (cy 1, 10, .inl (v1.2.2.1))), (a0 3, .inl (cy 1, 10, .inl (v1.2.2.2.1))), (a0 4, .inl (cy 1, 10, .inl (v1.2.2.2.2.1))), (a0 5, .inl (cy 1, 50, .inl (v1.2.2.2.2.2))), (a0 10, .inl (cy 1, 5, .inl (gv_0.2.2.1))), (a0 11, .inl (cy 1, 5, .inl (gv_0.2.2.2.1))), (a0 12, .inl (cy 1, 5, .inl (gv_0.2.2.2.2.1))), (a0 13, .inl (cy 1, 5, .inl (gv_0.2.2.2.2.2.1))), (a0 14, .inl (cy 1, 5, .inl (gv_0.2.2.2.2.2.2))), (a1 0, .inr (7, [.int (gv_1.1), .int (gv_1.2.1), .ref (a1 1), .ref (a1 6), .ref (a1 10), .ref (a1 11), .ref (a1 12), .ref (a1 13), .ref (a1 14)])), (a1 1, .inr (2, [.int (gd_1.1), .int (gd_1.2.1), .ref (a1 2), .ref (a1 3), .ref (a1 4), .ref (a1 5)])), (a1 2, .inl (cy 1, 10, .inl (gd_1.2.2.1))), (a1 3, .inl (cy 1, 10, .inl (gd_1.2.2.2.1))), (a1 4, .inl (cy 1, 10, .inl (gd_1.2.2.2.2.1))), (a1 5, .inl (cy 1, 50, .inl (gd_1.2.2.2.2.2))), (a1 10, .inl (cy 1, 5, .inl (gv_1.2.2.1))), (a1 11, .inl (cy 1, 5, .inl (gv_1.2.2.2.1))), (a1 12, .inl (cy 1, 5, .inl (gv_1.2.2.2.2.1))), (a1 13, .inl (cy 1, 5, .inl (gv_1.2.2.2.2.2.1))), (a1 14, .inl (cy 1, 5, .inl (gv_1.2.2.2.2.2.2)))] 30 rfl rfl rfl rfl rfl (by decide +kernel) (by decide +kernel) rfl) (fun u H locs hw hP hD hS => ?_)
  have hw := hw.symm
  subst hw
  have hP : va_P (dC, dI) vwCl (w_X9_copyFrom cy a0 a1 ((gv_1.1, gv_1.2.1, gv_0.2.2)) v1 v3 gv_1 gd_1 gc_1) H := hP
  have hD : va_D A (w_X9_copyFrom cy a0 a1 ((gv_1.1, gv_1.2.1, gv_0.2.2)) v1 v3 gv_1 gd_1 gc_1) := hD
  refine lv_aload_n hx hb dX9_copyFrom_38 rfl (lv_at hl 1 rfl) ?_
  refine va_get (D := (dC, dI)) (ci := 7) (v := .ref (a1 10)) (C := RX9) (T := TX9) (N := 9) hx hb hts in_X9 hown hK hP 15 rfl rfl 4 (by decide) lk4 (fun _ h9 => h9) rfl dX9_copyFrom_39 ?_
  refine lv_iconst (v := (0 : Int32)) hx hb dX9_copyFrom_42 (by decide) ?_
  refine lv_aload_n hx hb dX9_copyFrom_43 rfl (lv_at hl 0 rfl) ?_
  refine va_get (D := (dC, dI)) (ci := 7) (v := .ref (a0 10)) (C := RX9) (T := TX9) (N := 9) hx hb hts in_X9 hown hK hP 0 rfl rfl 4 (by decide) lk4 (fun _ h9 => h9) rfl dX9_copyFrom_44 ?_
  refine lv_iconst (v := (0 : Int32)) hx hb dX9_copyFrom_47 (by decide) ?_
  refine lv_iconst (v := (5 : Int32)) hx hb dX9_copyFrom_48 (by decide) ?_
  refine va_copyi hx hb (by rw [hml]; exact hl.1.symm) hown lk5 lk6 lk7 lk8 hK hP hD hS 25 10 1 1 rfl rfl rfl rfl rfl (sp := (0 : Int32)) (dp := (0 : Int32)) (n := (5 : Int32)) (by decide) (by decide) (by decide) (by decide) (by decide) (fun _ _ => rfl) (Nat.le_of_ble_eq_true rfl) (by decide) dX9_copyFrom_49 (fun H locs hP hD hS => ?_)
  have hP : va_P (dC, dI) vwCl (w_X9_copyFrom cy a0 a1 ((gv_1.1, gv_1.2.1, (va_cpy gv_1.2.2.1 gv_0.2.2.1 (0 : Int32).toNatClampNeg (0 : Int32).toNatClampNeg (5 : Int32).toNatClampNeg), gv_0.2.2.2)) v1 v3 gv_1 gd_1 gc_1) H := hP
  have hD : va_D A (w_X9_copyFrom cy a0 a1 ((gv_1.1, gv_1.2.1, (va_cpy gv_1.2.2.1 gv_0.2.2.1 (0 : Int32).toNatClampNeg (0 : Int32).toNatClampNeg (5 : Int32).toNatClampNeg), gv_0.2.2.2)) v1 v3 gv_1 gd_1 gc_1) := hD
  refine lv_aload_n hx hb dX9_copyFrom_52 rfl (lv_at hl 1 rfl) ?_
  refine va_get (D := (dC, dI)) (ci := 7) (v := .ref (a1 11)) (C := RX9) (T := TX9) (N := 9) hx hb hts in_X9 hown hK hP 15 rfl rfl 5 (by decide) lk9 (fun _ h9 => h9) rfl dX9_copyFrom_53 ?_
  refine lv_iconst (v := (0 : Int32)) hx hb dX9_copyFrom_56 (by decide) ?_
  refine lv_aload_n hx hb dX9_copyFrom_57 rfl (lv_at hl 0 rfl) ?_
  refine va_get (D := (dC, dI)) (ci := 7) (v := .ref (a0 11)) (C := RX9) (T := TX9) (N := 9) hx hb hts in_X9 hown hK hP 0 rfl rfl 5 (by decide) lk9 (fun _ h9 => h9) rfl dX9_copyFrom_58 ?_
  refine lv_iconst (v := (0 : Int32)) hx hb dX9_copyFrom_61 (by decide) ?_
  refine lv_iconst (v := (5 : Int32)) hx hb dX9_copyFrom_62 (by decide) ?_
  refine va_copyi hx hb (by rw [hml]; exact hl.1.symm) hown lk5 lk6 lk7 lk8 hK hP hD hS 26 11 1 1 rfl rfl rfl rfl rfl (sp := (0 : Int32)) (dp := (0 : Int32)) (n := (5 : Int32)) (by decide) (by decide) (by decide) (by decide) (by decide) (fun _ _ => rfl) (Nat.le_of_ble_eq_true rfl) (by decide) dX9_copyFrom_63 (fun H locs hP hD hS => ?_)
  have hP : va_P (dC, dI) vwCl (w_X9_copyFrom cy a0 a1 ((gv_1.1, gv_1.2.1, (va_cpy gv_1.2.2.1 gv_0.2.2.1 (0 : Int32).toNatClampNeg (0 : Int32).toNatClampNeg (5 : Int32).toNatClampNeg), (va_cpy gv_1.2.2.2.1 gv_0.2.2.2.1 (0 : Int32).toNatClampNeg (0 : Int32).toNatClampNeg (5 : Int32).toNatClampNeg), gv_0.2.2.2.2)) v1 v3 gv_1 gd_1 gc_1) H := hP
  have hD : va_D A (w_X9_copyFrom cy a0 a1 ((gv_1.1, gv_1.2.1, (va_cpy gv_1.2.2.1 gv_0.2.2.1 (0 : Int32).toNatClampNeg (0 : Int32).toNatClampNeg (5 : Int32).toNatClampNeg), (va_cpy gv_1.2.2.2.1 gv_0.2.2.2.1 (0 : Int32).toNatClampNeg (0 : Int32).toNatClampNeg (5 : Int32).toNatClampNeg), gv_0.2.2.2.2)) v1 v3 gv_1 gd_1 gc_1) := hD
  refine lv_aload_n hx hb dX9_copyFrom_66 rfl (lv_at hl 1 rfl) ?_
  refine va_get (D := (dC, dI)) (ci := 7) (v := .ref (a1 12)) (C := RX9) (T := TX9) (N := 9) hx hb hts in_X9 hown hK hP 15 rfl rfl 6 (by decide) lk10 (fun _ h9 => h9) rfl dX9_copyFrom_67 ?_
  refine lv_iconst (v := (0 : Int32)) hx hb dX9_copyFrom_70 (by decide) ?_
  refine lv_aload_n hx hb dX9_copyFrom_71 rfl (lv_at hl 0 rfl) ?_
  refine va_get (D := (dC, dI)) (ci := 7) (v := .ref (a0 12)) (C := RX9) (T := TX9) (N := 9) hx hb hts in_X9 hown hK hP 0 rfl rfl 6 (by decide) lk10 (fun _ h9 => h9) rfl dX9_copyFrom_72 ?_
  refine lv_iconst (v := (0 : Int32)) hx hb dX9_copyFrom_75 (by decide) ?_
  refine lv_iconst (v := (5 : Int32)) hx hb dX9_copyFrom_76 (by decide) ?_
  refine va_copyi hx hb (by rw [hml]; exact hl.1.symm) hown lk5 lk6 lk7 lk8 hK hP hD hS 27 12 1 1 rfl rfl rfl rfl rfl (sp := (0 : Int32)) (dp := (0 : Int32)) (n := (5 : Int32)) (by decide) (by decide) (by decide) (by decide) (by decide) (fun _ _ => rfl) (Nat.le_of_ble_eq_true rfl) (by decide) dX9_copyFrom_77 (fun H locs hP hD hS => ?_)
  have hP : va_P (dC, dI) vwCl (w_X9_copyFrom cy a0 a1 ((gv_1.1, gv_1.2.1, (va_cpy gv_1.2.2.1 gv_0.2.2.1 (0 : Int32).toNatClampNeg (0 : Int32).toNatClampNeg (5 : Int32).toNatClampNeg), (va_cpy gv_1.2.2.2.1 gv_0.2.2.2.1 (0 : Int32).toNatClampNeg (0 : Int32).toNatClampNeg (5 : Int32).toNatClampNeg), (va_cpy gv_1.2.2.2.2.1 gv_0.2.2.2.2.1 (0 : Int32).toNatClampNeg (0 : Int32).toNatClampNeg (5 : Int32).toNatClampNeg), gv_0.2.2.2.2.2)) v1 v3 gv_1 gd_1 gc_1) H := hP
  have hD : va_D A (w_X9_copyFrom cy a0 a1 ((gv_1.1, gv_1.2.1, (va_cpy gv_1.2.2.1 gv_0.2.2.1 (0 : Int32).toNatClampNeg (0 : Int32).toNatClampNeg (5 : Int32).toNatClampNeg), (va_cpy gv_1.2.2.2.1 gv_0.2.2.2.1 (0 : Int32).toNatClampNeg (0 : Int32).toNatClampNeg (5 : Int32).toNatClampNeg), (va_cpy gv_1.2.2.2.2.1 gv_0.2.2.2.2.1 (0 : Int32).toNatClampNeg (0 : Int32).toNatClampNeg (5 : Int32).toNatClampNeg), gv_0.2.2.2.2.2)) v1 v3 gv_1 gd_1 gc_1) := hD
  refine lv_aload_n hx hb dX9_copyFrom_80 rfl (lv_at hl 1 rfl) ?_
  refine va_get (D := (dC, dI)) (ci := 7) (v := .ref (a1 13)) (C := RX9) (T := TX9) (N := 9) hx hb hts in_X9 hown hK hP 15 rfl rfl 7 (by decide) lk11 (fun _ h9 => h9) rfl dX9_copyFrom_81 ?_
  refine lv_iconst (v := (0 : Int32)) hx hb dX9_copyFrom_84 (by decide) ?_
  refine lv_aload_n hx hb dX9_copyFrom_85 rfl (lv_at hl 0 rfl) ?_
  refine va_get (D := (dC, dI)) (ci := 7) (v := .ref (a0 13)) (C := RX9) (T := TX9) (N := 9) hx hb hts in_X9 hown hK hP 0 rfl rfl 7 (by decide) lk11 (fun _ h9 => h9) rfl dX9_copyFrom_86 ?_
  refine lv_iconst (v := (0 : Int32)) hx hb dX9_copyFrom_89 (by decide) ?_
  refine lv_iconst (v := (5 : Int32)) hx hb dX9_copyFrom_90 (by decide) ?_
  refine va_copyi hx hb (by rw [hml]; exact hl.1.symm) hown lk5 lk6 lk7 lk8 hK hP hD hS 28 13 1 1 rfl rfl rfl rfl rfl (sp := (0 : Int32)) (dp := (0 : Int32)) (n := (5 : Int32)) (by decide) (by decide) (by decide) (by decide) (by decide) (fun _ _ => rfl) (Nat.le_of_ble_eq_true rfl) (by decide) dX9_copyFrom_91 (fun H locs hP hD hS => ?_)
  have hP : va_P (dC, dI) vwCl (w_X9_copyFrom cy a0 a1 ((gv_1.1, gv_1.2.1, (va_cpy gv_1.2.2.1 gv_0.2.2.1 (0 : Int32).toNatClampNeg (0 : Int32).toNatClampNeg (5 : Int32).toNatClampNeg), (va_cpy gv_1.2.2.2.1 gv_0.2.2.2.1 (0 : Int32).toNatClampNeg (0 : Int32).toNatClampNeg (5 : Int32).toNatClampNeg), (va_cpy gv_1.2.2.2.2.1 gv_0.2.2.2.2.1 (0 : Int32).toNatClampNeg (0 : Int32).toNatClampNeg (5 : Int32).toNatClampNeg), (va_cpy gv_1.2.2.2.2.2.1 gv_0.2.2.2.2.2.1 (0 : Int32).toNatClampNeg (0 : Int32).toNatClampNeg (5 : Int32).toNatClampNeg), gv_0.2.2.2.2.2.2)) v1 v3 gv_1 gd_1 gc_1) H := hP
  have hD : va_D A (w_X9_copyFrom cy a0 a1 ((gv_1.1, gv_1.2.1, (va_cpy gv_1.2.2.1 gv_0.2.2.1 (0 : Int32).toNatClampNeg (0 : Int32).toNatClampNeg (5 : Int32).toNatClampNeg), (va_cpy gv_1.2.2.2.1 gv_0.2.2.2.1 (0 : Int32).toNatClampNeg (0 : Int32).toNatClampNeg (5 : Int32).toNatClampNeg), (va_cpy gv_1.2.2.2.2.1 gv_0.2.2.2.2.1 (0 : Int32).toNatClampNeg (0 : Int32).toNatClampNeg (5 : Int32).toNatClampNeg), (va_cpy gv_1.2.2.2.2.2.1 gv_0.2.2.2.2.2.1 (0 : Int32).toNatClampNeg (0 : Int32).toNatClampNeg (5 : Int32).toNatClampNeg), gv_0.2.2.2.2.2.2)) v1 v3 gv_1 gd_1 gc_1) := hD
  refine lv_aload_n hx hb dX9_copyFrom_94 rfl (lv_at hl 1 rfl) ?_
  refine va_get (D := (dC, dI)) (ci := 7) (v := .ref (a1 14)) (C := RX9) (T := TX9) (N := 9) hx hb hts in_X9 hown hK hP 15 rfl rfl 8 (by decide) lk12 (fun _ h9 => h9) rfl dX9_copyFrom_95 ?_
  refine lv_iconst (v := (0 : Int32)) hx hb dX9_copyFrom_98 (by decide) ?_
  refine lv_aload_n hx hb dX9_copyFrom_99 rfl (lv_at hl 0 rfl) ?_
  refine va_get (D := (dC, dI)) (ci := 7) (v := .ref (a0 14)) (C := RX9) (T := TX9) (N := 9) hx hb hts in_X9 hown hK hP 0 rfl rfl 8 (by decide) lk12 (fun _ h9 => h9) rfl dX9_copyFrom_100 ?_
  refine lv_iconst (v := (0 : Int32)) hx hb dX9_copyFrom_103 (by decide) ?_
  refine lv_iconst (v := (5 : Int32)) hx hb dX9_copyFrom_104 (by decide) ?_
  refine va_copyi hx hb (by rw [hml]; exact hl.1.symm) hown lk5 lk6 lk7 lk8 hK hP hD hS 29 14 1 1 rfl rfl rfl rfl rfl (sp := (0 : Int32)) (dp := (0 : Int32)) (n := (5 : Int32)) (by decide) (by decide) (by decide) (by decide) (by decide) (fun _ _ => rfl) (Nat.le_of_ble_eq_true rfl) (by decide) dX9_copyFrom_105 (fun H locs hP hD hS => ?_)
  have hP : va_P (dC, dI) vwCl (w_X9_copyFrom cy a0 a1 ((gv_1.1, gv_1.2.1, (va_cpy gv_1.2.2.1 gv_0.2.2.1 (0 : Int32).toNatClampNeg (0 : Int32).toNatClampNeg (5 : Int32).toNatClampNeg), (va_cpy gv_1.2.2.2.1 gv_0.2.2.2.1 (0 : Int32).toNatClampNeg (0 : Int32).toNatClampNeg (5 : Int32).toNatClampNeg), (va_cpy gv_1.2.2.2.2.1 gv_0.2.2.2.2.1 (0 : Int32).toNatClampNeg (0 : Int32).toNatClampNeg (5 : Int32).toNatClampNeg), (va_cpy gv_1.2.2.2.2.2.1 gv_0.2.2.2.2.2.1 (0 : Int32).toNatClampNeg (0 : Int32).toNatClampNeg (5 : Int32).toNatClampNeg), (va_cpy gv_1.2.2.2.2.2.2 gv_0.2.2.2.2.2.2 (0 : Int32).toNatClampNeg (0 : Int32).toNatClampNeg (5 : Int32).toNatClampNeg))) v1 v3 gv_1 gd_1 gc_1) H := hP
  have hD : va_D A (w_X9_copyFrom cy a0 a1 ((gv_1.1, gv_1.2.1, (va_cpy gv_1.2.2.1 gv_0.2.2.1 (0 : Int32).toNatClampNeg (0 : Int32).toNatClampNeg (5 : Int32).toNatClampNeg), (va_cpy gv_1.2.2.2.1 gv_0.2.2.2.1 (0 : Int32).toNatClampNeg (0 : Int32).toNatClampNeg (5 : Int32).toNatClampNeg), (va_cpy gv_1.2.2.2.2.1 gv_0.2.2.2.2.1 (0 : Int32).toNatClampNeg (0 : Int32).toNatClampNeg (5 : Int32).toNatClampNeg), (va_cpy gv_1.2.2.2.2.2.1 gv_0.2.2.2.2.2.1 (0 : Int32).toNatClampNeg (0 : Int32).toNatClampNeg (5 : Int32).toNatClampNeg), (va_cpy gv_1.2.2.2.2.2.2 gv_0.2.2.2.2.2.2 (0 : Int32).toNatClampNeg (0 : Int32).toNatClampNeg (5 : Int32).toNatClampNeg))) v1 v3 gv_1 gd_1 gc_1) := hD
  exact W.vret hx hb hr (fun t ht hW => by rw [hqq]; have hh := Option.some.inj h; exact ⟨⟨(((gv_1.1, gv_1.2.1, (va_cpy gv_1.2.2.1 gv_0.2.2.1 (0 : Int32).toNatClampNeg (0 : Int32).toNatClampNeg (5 : Int32).toNatClampNeg), (va_cpy gv_1.2.2.2.1 gv_0.2.2.2.1 (0 : Int32).toNatClampNeg (0 : Int32).toNatClampNeg (5 : Int32).toNatClampNeg), (va_cpy gv_1.2.2.2.2.1 gv_0.2.2.2.2.1 (0 : Int32).toNatClampNeg (0 : Int32).toNatClampNeg (5 : Int32).toNatClampNeg), (va_cpy gv_1.2.2.2.2.2.1 gv_0.2.2.2.2.2.1 (0 : Int32).toNatClampNeg (0 : Int32).toNatClampNeg (5 : Int32).toNatClampNeg), (va_cpy gv_1.2.2.2.2.2.2 gv_0.2.2.2.2.2.2 (0 : Int32).toNatClampNeg (0 : Int32).toNatClampNeg (5 : Int32).toNatClampNeg)), v1, v3)), rfl, Option.some.inj h, by rw [ht]; exact hP, va_K.moved hW.alike hK⟩, hS.F ht⟩) hS.2.2 dX9_copyFrom_108

abbrev w_X9_borrowedBy (cy : Nat → ClassId) (a0 : Nat → Nat) (gv : Int32 × Int32 × (Nat → Int32) × (Nat → Int32) × (Nat → Int32) × (Nat → Int32) × (Nat → Int32)) : va_W := [(a0 0, .inr (7, [.int (gv.1), .int (gv.2.1), .ref (a0 1), .ref (a0 6), .ref (a0 10), .ref (a0 11), .ref (a0 12), .ref (a0 13), .ref (a0 14)])), (a0 10, .inl (cy 1, 5, .inl (gv.2.2.1))), (a0 11, .inl (cy 1, 5, .inl (gv.2.2.2.1))), (a0 12, .inl (cy 1, 5, .inl (gv.2.2.2.2.1))), (a0 13, .inl (cy 1, 5, .inl (gv.2.2.2.2.2.1))), (a0 14, .inl (cy 1, 5, .inl (gv.2.2.2.2.2.2)))]
abbrev rm_X9_borrowedBy : Room := { frames := 1, cells := 0, slots := 0, locals := 21 }
set_option maxHeartbeats 1000000 in
set_option maxRecDepth 100000 in
theorem c_X9_borrowedBy (l : Launch) (dC : Nat → ClassId) (dI : Nat → Nat → Nat) (cy : Nat → ClassId) (a0 : Nat → Nat) (gv : Int32 × Int32 × (Nat → Int32) × (Nat → Int32) × (Nat → Int32) × (Nat → Int32) × (Nat → Int32)) (x1 : Int32) (sz : Nat) (R0 : Int32) (h : p_X9_borrowedBy gv x1 = some R0) : Met l yX9_borrowedBy wsX9_borrowedBy rm_X9_borrowedBy (va_Pc [.ref (a0 0), .int x1] (prC dC dI cy (w_X9_borrowedBy cy a0 gv) sz)) (va_Qi (fun (r : Int32) (_ : Unit) => r = R0) (fun (_ : Unit) t => poC dC dI cy (w_X9_borrowedBy cy a0 gv) t) (va_A (w_X9_borrowedBy cy a0 gv) sz)) 0 0 (va_A (w_X9_borrowedBy cy a0 gv) sz) := by
  refine Met.ofW (cc := cX9_borrowedBy) (maxL := 2) (ret := (some .int)) (by decide) rfl ?_
  intro p e s m aa below meth c s₁ B hml hv
  obtain ⟨haa, hsz, hP, hK, hD0⟩ := hv
  have hx := B.exec
  have hb := B.bytes
  have hr := B.returns
  have hts := atoms_spec (ws := wsX9_borrowedBy) B.pre
  have hown : s.vm.findClass RX9 = some m.cls := findClass_of_methodNamed B.named
  have hlocks := B.notSynchronized
  subst hsz
  have hD := hD0.self (sz := s.heap.size)
  obtain ⟨qq, hqq⟩ : ∃ qq, qq = (va_Qi (fun (r : Int32) (_ : Unit) => r = R0) (fun (_ : Unit) t => poC dC dI cy (w_X9_borrowedBy cy a0 gv) t) (va_A (w_X9_borrowedBy cy a0 gv) s.heap.size)) := ⟨_, rfl⟩
  rw [← hqq]
  generalize hAe : va_A (w_X9_borrowedBy cy a0 gv) s.heap.size = A at hD hqq ⊢
  have hA : ∀ q : Nat, s.heap.size ≤ q → A q := fun q h => by rw [← hAe]; exact Or.inr h
  have hS : va_S A s.heap s.heap [] := va_S.rf
  have hl := lv_entry ([.ref (a0 0), .int x1]) (n := 2) (Nat.le_of_ble_eq_true rfl)
  have hE : entryFrame m aa 2 = F0 m 0 ((lg_sl ([.ref (a0 0), .int x1]) ++ List.replicate (2 - (lg_sl ([.ref (a0 0), .int x1])).length) Slot.unset).toArray) [] := by rw [haa]; exact lg_entry_eq m _ 2
  refine W.eq hE ?_
  generalize (lg_sl ([.ref (a0 0), .int x1]) ++ List.replicate (2 - (lg_sl ([.ref (a0 0), .int x1])).length) Slot.unset).toArray = ls at hl ⊢
  have hl : lv_has ls 2 [(0, .ref (a0 0)), (1, .int x1)] := hl
  change W p l e rm_X9_borrowedBy s m aa below meth c s.heap [] 0 0 (MQ below qq aa s 0 0 A) (F0 m 0 ls [])
  have hS0 := hS
  have lk0 := hts (.fieldLink RX9 38 "GoatDoors$Village" "borrowed" "[I") (by decide +kernel)
  have in_X9 : ∀ w ∈ wsX90, w ∈ wsX9_borrowedBy := by decide +kernel
  obtain ⟨H, hH⟩ : ∃ H : Heap, H = s.heap := ⟨_, rfl⟩
  obtain ⟨locs, hlocs⟩ : ∃ locs : List Loc, locs = [] := ⟨_, rfl⟩
  have hS : va_S A s.heap H locs := by rw [hH, hlocs]; exact hS
  rw [← hH] at hP
  suffices hg : W p l e rm_X9_borrowedBy s m aa below meth c H locs 0 0 (MQ below qq aa s 0 0 A) (F0 m 0 ls []) by subst hH; subst hlocs; exact hg
  unfold p_X9_borrowedBy at h
  refine lv_aload_n hx hb dX9_borrowedBy_0 rfl (lv_at hl 0 rfl) ?_
  refine lv_iload_n hx hb dX9_borrowedBy_1 rfl (lv_at hl 1 rfl) ?_
  obtain ⟨v1, hv2, h⟩ := ok_bind h
  refine cl_vi (w2 := fun (_ : Unit) => w_X9_borrowedBy cy a0 gv) (As := [.int x1]) (rest := []) ⟨hx, hb, hml, hown, hts⟩ (c_X9_hasOwner l dC dI cy a0 gv x1 H.size v1 hv2) (cwV 1 hts gX9_borrowedBy_X9_hasOwner rfl rfl rfl (by decide +kernel) ⟨Nat.le_of_ble_eq_true rfl, Nat.le_of_ble_eq_true rfl⟩) (va_recv hK hP (ci := 7) (q0 := 0) rfl rfl) cl_blind (cl_pre hK hP hD [0, 1, 2, 3, 4, 5] (by decide) rfl) hP hD hS hA [0, 1, 2, 3, 4, 5] rfl rfl hl.1 rfl (lv_room (Nat.le_of_ble_eq_true rfl)) dX9_borrowedBy_2 ⟨Nat.le_of_ble_eq_true rfl, Nat.le_of_ble_eq_true rfl⟩ ⟨rfl, rfl⟩ (fun _ => updR [0, 1, 2, 3, 4, 5] rfl) (fun r u H locs hw hP hD hS => ?_)
  have hw := hw.symm
  subst hw
  have hP : va_P (dC, dI) vwCl (w_X9_borrowedBy cy a0 gv) H := hP
  have hD : va_D A (w_X9_borrowedBy cy a0 gv) := hD
  refine lv_if_eq (tgt := 17) hx hb dX9_borrowedBy_5 (by decide) (fun c3 => ?_) (fun c3 => ?_)
  · rw [if_pos c3] at h
    refine lv_iconst (v := (0 : Int32)) hx hb dX9_borrowedBy_17 (by decide) ?_
    exact W.iret (v := (0 : Int32)) hx hb hr (fun t ht hW => by rw [hqq]; have hh := Option.some.inj h; exact ⟨⟨(0 : Int32), (()), rfl, Option.some.inj h, by rw [ht]; exact hP, va_K.moved hW.alike hK⟩, hS.F ht⟩) hS.2.2 dX9_borrowedBy_18
  · rw [if_neg c3] at h
    refine lv_aload_n hx hb dX9_borrowedBy_8 rfl (lv_at hl 0 rfl) ?_
    refine va_get (D := (dC, dI)) (ci := 7) (v := .ref (a0 14)) (C := RX9) (T := TX9) (N := 9) hx hb hts in_X9 hown hK hP 0 rfl rfl 8 (by decide) lk0 (fun _ h9 => h9) rfl dX9_borrowedBy_9 ?_
    refine lv_iload_n hx hb dX9_borrowedBy_12 rfl (lv_at hl 1 rfl) ?_
    obtain ⟨hi4, h⟩ := ok_if h
    refine va_iald hx hb hK hP 5 1 rfl rfl (ix_in hi4) dX9_borrowedBy_13 ?_
    refine lv_goto (tgt := 18) hx hb dX9_borrowedBy_14 (by decide) ?_
    exact W.iret (v := (gv.2.2.2.2.2.2 x1.toNatClampNeg)) hx hb hr (fun t ht hW => by rw [hqq]; have hh := Option.some.inj h; exact ⟨⟨(gv.2.2.2.2.2.2 x1.toNatClampNeg), (()), rfl, Option.some.inj h, by rw [ht]; exact hP, va_K.moved hW.alike hK⟩, hS.F ht⟩) hS.2.2 dX9_borrowedBy_18

abbrev w_X9_ownersWith (cy : Nat → ClassId) (a0 : Nat → Nat) (gv : Int32 × Int32 × (Nat → Int32) × (Nat → Int32) × (Nat → Int32) × (Nat → Int32) × (Nat → Int32)) : va_W := [(a0 0, .inr (7, [.int (gv.1), .int (gv.2.1), .ref (a0 1), .ref (a0 6), .ref (a0 10), .ref (a0 11), .ref (a0 12), .ref (a0 13), .ref (a0 14)])), (a0 10, .inl (cy 1, 5, .inl (gv.2.2.1))), (a0 11, .inl (cy 1, 5, .inl (gv.2.2.2.1))), (a0 12, .inl (cy 1, 5, .inl (gv.2.2.2.2.1))), (a0 13, .inl (cy 1, 5, .inl (gv.2.2.2.2.2.1))), (a0 14, .inl (cy 1, 5, .inl (gv.2.2.2.2.2.2)))]
abbrev rm_X9_ownersWith : Room := { frames := 1, cells := 0, slots := 0, locals := 21 }
set_option maxHeartbeats 1000000 in
set_option maxRecDepth 100000 in
theorem c_X9_ownersWith (l : Launch) (dC : Nat → ClassId) (dI : Nat → Nat → Nat) (cy : Nat → ClassId) (a0 : Nat → Nat) (gv : Int32 × Int32 × (Nat → Int32) × (Nat → Int32) × (Nat → Int32) × (Nat → Int32) × (Nat → Int32)) (x1 : Int32) (sz : Nat) (R0 : Int32) (h : p_X9_ownersWith gv x1 = some R0) : Met l yX9_ownersWith wsX9_ownersWith rm_X9_ownersWith (va_Pc [.ref (a0 0), .int x1] (prC dC dI cy (w_X9_ownersWith cy a0 gv) sz)) (va_Qi (fun (r : Int32) (_ : Unit) => r = R0) (fun (_ : Unit) t => poC dC dI cy (w_X9_ownersWith cy a0 gv) t) (va_A (w_X9_ownersWith cy a0 gv) sz)) 0 0 (va_A (w_X9_ownersWith cy a0 gv) sz) := by
  refine Met.ofW (cc := cX9_ownersWith) (maxL := 4) (ret := (some .int)) (by decide) rfl ?_
  intro p e s m aa below meth c s₁ B hml hv
  obtain ⟨haa, hsz, hP, hK, hD0⟩ := hv
  have hx := B.exec
  have hb := B.bytes
  have hr := B.returns
  have hts := atoms_spec (ws := wsX9_ownersWith) B.pre
  have hown : s.vm.findClass RX9 = some m.cls := findClass_of_methodNamed B.named
  have hlocks := B.notSynchronized
  subst hsz
  have hD := hD0.self (sz := s.heap.size)
  obtain ⟨qq, hqq⟩ : ∃ qq, qq = (va_Qi (fun (r : Int32) (_ : Unit) => r = R0) (fun (_ : Unit) t => poC dC dI cy (w_X9_ownersWith cy a0 gv) t) (va_A (w_X9_ownersWith cy a0 gv) s.heap.size)) := ⟨_, rfl⟩
  rw [← hqq]
  generalize hAe : va_A (w_X9_ownersWith cy a0 gv) s.heap.size = A at hD hqq ⊢
  have hA : ∀ q : Nat, s.heap.size ≤ q → A q := fun q h => by rw [← hAe]; exact Or.inr h
  have hS : va_S A s.heap s.heap [] := va_S.rf
  have hl := lv_entry ([.ref (a0 0), .int x1]) (n := 4) (Nat.le_of_ble_eq_true rfl)
  have hE : entryFrame m aa 4 = F0 m 0 ((lg_sl ([.ref (a0 0), .int x1]) ++ List.replicate (4 - (lg_sl ([.ref (a0 0), .int x1])).length) Slot.unset).toArray) [] := by rw [haa]; exact lg_entry_eq m _ 4
  refine W.eq hE ?_
  generalize (lg_sl ([.ref (a0 0), .int x1]) ++ List.replicate (4 - (lg_sl ([.ref (a0 0), .int x1])).length) Slot.unset).toArray = ls at hl ⊢
  have hl : lv_has ls 4 [(0, .ref (a0 0)), (1, .int x1)] := hl
  change W p l e rm_X9_ownersWith s m aa below meth c s.heap [] 0 0 (MQ below qq aa s 0 0 A) (F0 m 0 ls [])
  have hS0 := hS
  have lk0 := hts (.fieldLink RX9 25 "GoatDoors$Village" "goats" "[I") (by decide +kernel)
  have in_X9 : ∀ w ∈ wsX90, w ∈ wsX9_ownersWith := by decide +kernel
  have c33 : ∀ (k4 : Int32 → Int32 → Int32 → Option (Int32)) (hk4 : ∀ (x1 : Int32) (x2 : Int32) (x3 : Int32) (H : Heap) (locs : List Loc) (ls : Array Slot), k4 x1 x2 x3 = some R0 → va_P (dC, dI) vwCl (w_X9_ownersWith cy a0 gv) H → va_D A (w_X9_ownersWith cy a0 gv) → va_S A s.heap H locs → lv_has ls 4 [(0, .ref (a0 0)), (1, .int x1), (2, .int x2), (3, .int x3)] → W p l e rm_X9_ownersWith s m aa below meth c H locs 0 0 (MQ below qq aa s 0 0 A) (F0 m 4 ls [])), ∀ (x1 : Int32) (x2 : Int32) (x3 : Int32) (H : Heap) (locs : List Loc) (ls : Array Slot), p_X9_ownersWith_33 k4 gv x1 x2 x3 = some R0 → va_P (dC, dI) vwCl (w_X9_ownersWith cy a0 gv) H → va_D A (w_X9_ownersWith cy a0 gv) → va_S A s.heap H locs → lv_has ls 4 [(0, .ref (a0 0)), (1, .int x1), (2, .int x2), (3, .int x3)] → W p l e rm_X9_ownersWith s m aa below meth c H locs 0 0 (MQ below qq aa s 0 0 A) (F0 m 33 ls []) := by
    intro k4 hk4 x1 x2 x3 H locs ls h hP hD hS hl
    unfold p_X9_ownersWith_33 at h
    refine lv_iinc (v := (x3 + (1 : Int32))) (lv' := [(3, .int (x3 + (1 : Int32))), (0, .ref (a0 0)), (1, .int x1), (2, .int x2)]) hx hb dX9_ownersWith_33 hl (k := 3) rfl rfl (by decide) rfl (fun ls hl => ?_)
    refine lv_goto (tgt := 4) hx hb dX9_ownersWith_36 (by decide) ?_
    exact hk4 x1 x2 (x3 + (1 : Int32)) H locs ls h hP hD hS (lv_sub hl [1, 2, 3, 0] rfl)
  have c4 : ∀ (n : Nat), ∀ (x1 : Int32) (x2 : Int32) (x3 : Int32) (H : Heap) (locs : List Loc) (ls : Array Slot), p_X9_ownersWith_4 gv n x1 x2 x3 = some R0 → va_P (dC, dI) vwCl (w_X9_ownersWith cy a0 gv) H → va_D A (w_X9_ownersWith cy a0 gv) → va_S A s.heap H locs → lv_has ls 4 [(0, .ref (a0 0)), (1, .int x1), (2, .int x2), (3, .int x3)] → W p l e rm_X9_ownersWith s m aa below meth c H locs 0 0 (MQ below qq aa s 0 0 A) (F0 m 4 ls []) := by
    intro  n
    induction n with
    | zero => intro x1 x2 x3 H locs ls h; exact no_some h
    | succ n ih =>
      intro x1 x2 x3 H locs ls h hP hD hS hl
      rw [p_X9_ownersWith_4.eq_2] at h
      refine lv_iload_n hx hb dX9_ownersWith_4 rfl (lv_at hl 3 rfl) ?_
      refine lv_iconst (v := (5 : Int32)) hx hb dX9_ownersWith_5 (by decide) ?_
      refine lv_icmp_ge (tgt := 39) hx hb dX9_ownersWith_6 (by decide) (fun c1 => ?_) (fun c1 => ?_)
      · rw [if_pos c1] at h
        refine lv_iload_n hx hb dX9_ownersWith_39 rfl (lv_at hl 2 rfl) ?_
        exact W.iret (v := x2) hx hb hr (fun t ht hW => by rw [hqq]; have hh := Option.some.inj h; exact ⟨⟨x2, (()), rfl, Option.some.inj h, by rw [ht]; exact hP, va_K.moved hW.alike hK⟩, hS.F ht⟩) hS.2.2 dX9_ownersWith_40
      · rw [if_neg c1] at h
        refine lv_aload_n hx hb dX9_ownersWith_9 rfl (lv_at hl 0 rfl) ?_
        refine lv_iload_n hx hb dX9_ownersWith_10 rfl (lv_at hl 3 rfl) ?_
        obtain ⟨v2, hv3, h⟩ := ok_bind h
        refine cl_vi (w2 := fun (_ : Unit) => w_X9_ownersWith cy a0 gv) (As := [.int x3]) (rest := []) ⟨hx, hb, hml, hown, hts⟩ (c_X9_hasOwner l dC dI cy a0 gv x3 H.size v2 hv3) (cwV 1 hts gX9_ownersWith_X9_hasOwner rfl rfl rfl (by decide +kernel) ⟨Nat.le_of_ble_eq_true rfl, Nat.le_of_ble_eq_true rfl⟩) (va_recv hK hP (ci := 7) (q0 := 0) rfl rfl) cl_blind (cl_pre hK hP hD [0, 1, 2, 3, 4, 5] (by decide) rfl) hP hD hS hA [0, 1, 2, 3, 4, 5] rfl rfl hl.1 rfl (lv_room (Nat.le_of_ble_eq_true rfl)) dX9_ownersWith_11 ⟨Nat.le_of_ble_eq_true rfl, Nat.le_of_ble_eq_true rfl⟩ ⟨rfl, rfl⟩ (fun _ => updR [0, 1, 2, 3, 4, 5] rfl) (fun r u H locs hw hP hD hS => ?_)
        have hw := hw.symm
        subst hw
        have hP : va_P (dC, dI) vwCl (w_X9_ownersWith cy a0 gv) H := hP
        have hD : va_D A (w_X9_ownersWith cy a0 gv) := hD
        refine lv_if_eq (tgt := 33) hx hb dX9_ownersWith_14 (by decide) (fun c4 => ?_) (fun c4 => ?_)
        · rw [if_pos c4] at h
          exact c33 (p_X9_ownersWith_4 gv n) ih x1 x2 x3 H locs ls h hP hD hS (lv_sub hl [0, 1, 2, 3] rfl)
        · rw [if_neg c4] at h
          refine lv_aload_n hx hb dX9_ownersWith_17 rfl (lv_at hl 0 rfl) ?_
          refine va_get (D := (dC, dI)) (ci := 7) (v := .ref (a0 10)) (C := RX9) (T := TX9) (N := 9) hx hb hts in_X9 hown hK hP 0 rfl rfl 4 (by decide) lk0 (fun _ h9 => h9) rfl dX9_ownersWith_18 ?_
          refine lv_iload_n hx hb dX9_ownersWith_21 rfl (lv_at hl 3 rfl) ?_
          obtain ⟨hi5, h⟩ := ok_if h
          refine va_iald hx hb hK hP 1 1 rfl rfl (ix_in hi5) dX9_ownersWith_22 ?_
          refine lv_iload_n hx hb dX9_ownersWith_23 rfl (lv_at hl 1 rfl) ?_
          refine lv_icmp_lt (tgt := 33) hx hb dX9_ownersWith_24 (by decide) (fun c6 => ?_) (fun c6 => ?_)
          · rw [if_pos c6] at h
            exact c33 (p_X9_ownersWith_4 gv n) ih x1 x2 x3 H locs ls h hP hD hS (lv_sub hl [0, 1, 2, 3] rfl)
          · rw [if_neg c6] at h
            refine lv_iload_n hx hb dX9_ownersWith_27 rfl (lv_at hl 2 rfl) ?_
            refine lv_iconst (v := (1 : Int32)) hx hb dX9_ownersWith_28 (by decide) ?_
            refine lv_iload_n hx hb dX9_ownersWith_29 rfl (lv_at hl 3 rfl) ?_
            refine lv_ishl hx hb dX9_ownersWith_30 ?_
            refine lv_ior hx hb dX9_ownersWith_31 ?_
            refine lv_istore_n (lv' := [(2, .int (x2 ||| ((1 : Int32) <<< (x3 &&& 31)))), (0, .ref (a0 0)), (1, .int x1), (3, .int x3)]) hx hb dX9_ownersWith_32 rfl hl (by decide) rfl (fun ls hl => ?_)
            exact c33 (p_X9_ownersWith_4 gv n) ih x1 (x2 ||| ((1 : Int32) <<< (x3 &&& 31))) x3 H locs ls h hP hD hS (lv_sub hl [1, 2, 0, 3] rfl)
  obtain ⟨H, hH⟩ : ∃ H : Heap, H = s.heap := ⟨_, rfl⟩
  obtain ⟨locs, hlocs⟩ : ∃ locs : List Loc, locs = [] := ⟨_, rfl⟩
  have hS : va_S A s.heap H locs := by rw [hH, hlocs]; exact hS
  rw [← hH] at hP
  suffices hg : W p l e rm_X9_ownersWith s m aa below meth c H locs 0 0 (MQ below qq aa s 0 0 A) (F0 m 0 ls []) by subst hH; subst hlocs; exact hg
  unfold p_X9_ownersWith at h
  refine lv_iconst (v := (0 : Int32)) hx hb dX9_ownersWith_0 (by decide) ?_
  refine lv_istore_n (lv' := [(2, .int (0 : Int32)), (0, .ref (a0 0)), (1, .int x1)]) hx hb dX9_ownersWith_1 rfl hl (by decide) rfl (fun ls hl => ?_)
  refine lv_iconst (v := (0 : Int32)) hx hb dX9_ownersWith_2 (by decide) ?_
  refine lv_istore_n (lv' := [(3, .int (0 : Int32)), (2, .int (0 : Int32)), (0, .ref (a0 0)), (1, .int x1)]) hx hb dX9_ownersWith_3 rfl hl (by decide) rfl (fun ls hl => ?_)
  exact c4 fu x1 (0 : Int32) (0 : Int32) H locs ls h hP hD hS (lv_sub hl [2, 3, 1, 0] rfl)

abbrev w_X9_addOwner (cy : Nat → ClassId) (a0 : Nat → Nat) (gv : Int32 × Int32 × (Nat → Int32) × (Nat → Int32) × (Nat → Int32) × (Nat → Int32) × (Nat → Int32)) : va_W := [(a0 0, .inr (7, [.int (gv.1), .int (gv.2.1), .ref (a0 1), .ref (a0 6), .ref (a0 10), .ref (a0 11), .ref (a0 12), .ref (a0 13), .ref (a0 14)])), (a0 10, .inl (cy 1, 5, .inl (gv.2.2.1))), (a0 11, .inl (cy 1, 5, .inl (gv.2.2.2.1))), (a0 12, .inl (cy 1, 5, .inl (gv.2.2.2.2.1))), (a0 13, .inl (cy 1, 5, .inl (gv.2.2.2.2.2.1))), (a0 14, .inl (cy 1, 5, .inl (gv.2.2.2.2.2.2)))]
abbrev rm_X9_addOwner : Room := { frames := 0, cells := 0, slots := 0, locals := 0 }
set_option maxHeartbeats 1000000 in
set_option maxRecDepth 100000 in
theorem c_X9_addOwner (l : Launch) (dC : Nat → ClassId) (dI : Nat → Nat → Nat) (cy : Nat → ClassId) (a0 : Nat → Nat) (gv : Int32 × Int32 × (Nat → Int32) × (Nat → Int32) × (Nat → Int32) × (Nat → Int32) × (Nat → Int32)) (x1 : Int32) (x2 : Int32) (sz : Nat) (R0 : (Int32 × Int32 × (Nat → Int32) × (Nat → Int32) × (Nat → Int32) × (Nat → Int32) × (Nat → Int32))) (h : p_X9_addOwner gv x1 x2 = some R0) : Met l yX9_addOwner wsX9_addOwner rm_X9_addOwner (va_Pc [.ref (a0 0), .int x1, .int x2] (prC dC dI cy (w_X9_addOwner cy a0 gv) sz)) (va_Qv (fun (u : (Int32 × Int32 × (Nat → Int32) × (Nat → Int32) × (Nat → Int32) × (Nat → Int32) × (Nat → Int32))) => u = R0) (fun (u : (Int32 × Int32 × (Nat → Int32) × (Nat → Int32) × (Nat → Int32) × (Nat → Int32) × (Nat → Int32))) t => poC dC dI cy (w_X9_addOwner cy a0 u) t) (va_A (w_X9_addOwner cy a0 gv) sz)) 0 0 (va_A (w_X9_addOwner cy a0 gv) sz) := by
  refine Met.ofW (cc := cX9_addOwner) (maxL := 3) (ret := none) (by decide) rfl ?_
  intro p e s m aa below meth c s₁ B hml hv
  obtain ⟨haa, hsz, hP, hK, hD0⟩ := hv
  have hx := B.exec
  have hb := B.bytes
  have hr := B.returns
  have hts := atoms_spec (ws := wsX9_addOwner) B.pre
  have hown : s.vm.findClass RX9 = some m.cls := findClass_of_methodNamed B.named
  have hlocks := B.notSynchronized
  subst hsz
  have hD := hD0.self (sz := s.heap.size)
  obtain ⟨qq, hqq⟩ : ∃ qq, qq = (va_Qv (fun (u : (Int32 × Int32 × (Nat → Int32) × (Nat → Int32) × (Nat → Int32) × (Nat → Int32) × (Nat → Int32))) => u = R0) (fun (u : (Int32 × Int32 × (Nat → Int32) × (Nat → Int32) × (Nat → Int32) × (Nat → Int32) × (Nat → Int32))) t => poC dC dI cy (w_X9_addOwner cy a0 u) t) (va_A (w_X9_addOwner cy a0 gv) s.heap.size)) := ⟨_, rfl⟩
  rw [← hqq]
  generalize hAe : va_A (w_X9_addOwner cy a0 gv) s.heap.size = A at hD hqq ⊢
  have hA : ∀ q : Nat, s.heap.size ≤ q → A q := fun q h => by rw [← hAe]; exact Or.inr h
  have hS : va_S A s.heap s.heap [] := va_S.rf
  have hl := lv_entry ([.ref (a0 0), .int x1, .int x2]) (n := 3) (Nat.le_of_ble_eq_true rfl)
  have hE : entryFrame m aa 3 = F0 m 0 ((lg_sl ([.ref (a0 0), .int x1, .int x2]) ++ List.replicate (3 - (lg_sl ([.ref (a0 0), .int x1, .int x2])).length) Slot.unset).toArray) [] := by rw [haa]; exact lg_entry_eq m _ 3
  refine W.eq hE ?_
  generalize (lg_sl ([.ref (a0 0), .int x1, .int x2]) ++ List.replicate (3 - (lg_sl ([.ref (a0 0), .int x1, .int x2])).length) Slot.unset).toArray = ls at hl ⊢
  have hl : lv_has ls 3 [(0, .ref (a0 0)), (1, .int x1), (2, .int x2)] := hl
  change W p l e rm_X9_addOwner s m aa below meth c s.heap [] 0 0 (MQ below qq aa s 0 0 A) (F0 m 0 ls [])
  have hS0 := hS
  have lk0 := hts (.fieldLink RX9 41 "GoatDoors$Village" "owners" "I") (by decide +kernel)
  have lk1 := hts (.fieldLink RX9 25 "GoatDoors$Village" "goats" "[I") (by decide +kernel)
  have lk2 := hts (.fieldLink RX9 29 "GoatDoors$Village" "hides" "[I") (by decide +kernel)
  have lk3 := hts (.fieldLink RX9 32 "GoatDoors$Village" "hidden" "[I") (by decide +kernel)
  have lk4 := hts (.fieldLink RX9 35 "GoatDoors$Village" "lent" "[I") (by decide +kernel)
  have lk5 := hts (.fieldLink RX9 38 "GoatDoors$Village" "borrowed" "[I") (by decide +kernel)
  have in_X9 : ∀ w ∈ wsX90, w ∈ wsX9_addOwner := by decide +kernel
  obtain ⟨H, hH⟩ : ∃ H : Heap, H = s.heap := ⟨_, rfl⟩
  obtain ⟨locs, hlocs⟩ : ∃ locs : List Loc, locs = [] := ⟨_, rfl⟩
  have hS : va_S A s.heap H locs := by rw [hH, hlocs]; exact hS
  rw [← hH] at hP
  suffices hg : W p l e rm_X9_addOwner s m aa below meth c H locs 0 0 (MQ below qq aa s 0 0 A) (F0 m 0 ls []) by subst hH; subst hlocs; exact hg
  unfold p_X9_addOwner at h
  refine lv_aload_n hx hb dX9_addOwner_0 rfl (lv_at hl 0 rfl) ?_
  refine va_get (D := (dC, dI)) (ci := 7) (v := .int gv.1) (C := RX9) (T := TX9) (N := 9) hx hb hts in_X9 hown hK hP 0 rfl rfl 0 (by decide) lk0 (fun _ h9 => h9) rfl dX9_addOwner_1 ?_
  refine lv_if_lt (tgt := 15) hx hb dX9_addOwner_4 (by decide) (fun c1 => ?_) (fun c1 => ?_)
  · rw [if_pos c1] at h
    exact W.vret hx hb hr (fun t ht hW => by rw [hqq]; have hh := Option.some.inj h; exact ⟨⟨(gv), rfl, Option.some.inj h, by rw [ht]; exact hP, va_K.moved hW.alike hK⟩, hS.F ht⟩) hS.2.2 dX9_addOwner_15
  · rw [if_neg c1] at h
    refine lv_aload_n hx hb dX9_addOwner_7 rfl (lv_at hl 0 rfl) ?_
    refine va_get (D := (dC, dI)) (ci := 7) (v := .int gv.1) (C := RX9) (T := TX9) (N := 9) hx hb hts in_X9 hown hK hP 0 rfl rfl 0 (by decide) lk0 (fun _ h9 => h9) rfl dX9_addOwner_8 ?_
    refine lv_iconst (v := (5 : Int32)) hx hb dX9_addOwner_11 (by decide) ?_
    refine lv_icmp_lt (tgt := 16) hx hb dX9_addOwner_12 (by decide) (fun c2 => ?_) (fun c2 => ?_)
    · rw [if_pos c2] at h
      refine lv_aload_n hx hb dX9_addOwner_16 rfl (lv_at hl 0 rfl) ?_
      refine va_get (D := (dC, dI)) (ci := 7) (v := .ref (a0 10)) (C := RX9) (T := TX9) (N := 9) hx hb hts in_X9 hown hK hP 0 rfl rfl 4 (by decide) lk1 (fun _ h9 => h9) rfl dX9_addOwner_17 ?_
      refine lv_aload_n hx hb dX9_addOwner_20 rfl (lv_at hl 0 rfl) ?_
      refine va_get (D := (dC, dI)) (ci := 7) (v := .int gv.1) (C := RX9) (T := TX9) (N := 9) hx hb hts in_X9 hown hK hP 0 rfl rfl 0 (by decide) lk0 (fun _ h9 => h9) rfl dX9_addOwner_21 ?_
      refine lv_iload_n hx hb dX9_addOwner_24 rfl (lv_at hl 1 rfl) ?_
      obtain ⟨hi3, h⟩ := ok_if h
      refine va_iast hx hb hK hP hD hS 1 1 rfl rfl (ix_in hi3) dX9_addOwner_25 (fun H locs hP hD hS => ?_)
      have hP : va_P (dC, dI) vwCl (w_X9_addOwner cy a0 ((gv.1, gv.2.1, (upd gv.2.2.1 gv.1.toNatClampNeg x1), gv.2.2.2))) H := hP
      have hD : va_D A (w_X9_addOwner cy a0 ((gv.1, gv.2.1, (upd gv.2.2.1 gv.1.toNatClampNeg x1), gv.2.2.2))) := hD
      refine lv_aload_n hx hb dX9_addOwner_26 rfl (lv_at hl 0 rfl) ?_
      refine va_get (D := (dC, dI)) (ci := 7) (v := .ref (a0 11)) (C := RX9) (T := TX9) (N := 9) hx hb hts in_X9 hown hK hP 0 rfl rfl 5 (by decide) lk2 (fun _ h9 => h9) rfl dX9_addOwner_27 ?_
      refine lv_aload_n hx hb dX9_addOwner_30 rfl (lv_at hl 0 rfl) ?_
      refine va_get (D := (dC, dI)) (ci := 7) (v := .int gv.1) (C := RX9) (T := TX9) (N := 9) hx hb hts in_X9 hown hK hP 0 rfl rfl 0 (by decide) lk0 (fun _ h9 => h9) rfl dX9_addOwner_31 ?_
      refine lv_iload_n hx hb dX9_addOwner_34 rfl (lv_at hl 2 rfl) ?_
      obtain ⟨hi4, h⟩ := ok_if h
      refine va_iast hx hb hK hP hD hS 2 1 rfl rfl (ix_in hi4) dX9_addOwner_35 (fun H locs hP hD hS => ?_)
      have hP : va_P (dC, dI) vwCl (w_X9_addOwner cy a0 ((gv.1, gv.2.1, (upd gv.2.2.1 gv.1.toNatClampNeg x1), (upd gv.2.2.2.1 gv.1.toNatClampNeg x2), gv.2.2.2.2))) H := hP
      have hD : va_D A (w_X9_addOwner cy a0 ((gv.1, gv.2.1, (upd gv.2.2.1 gv.1.toNatClampNeg x1), (upd gv.2.2.2.1 gv.1.toNatClampNeg x2), gv.2.2.2.2))) := hD
      refine lv_aload_n hx hb dX9_addOwner_36 rfl (lv_at hl 0 rfl) ?_
      refine va_get (D := (dC, dI)) (ci := 7) (v := .ref (a0 12)) (C := RX9) (T := TX9) (N := 9) hx hb hts in_X9 hown hK hP 0 rfl rfl 6 (by decide) lk3 (fun _ h9 => h9) rfl dX9_addOwner_37 ?_
      refine lv_aload_n hx hb dX9_addOwner_40 rfl (lv_at hl 0 rfl) ?_
      refine va_get (D := (dC, dI)) (ci := 7) (v := .int gv.1) (C := RX9) (T := TX9) (N := 9) hx hb hts in_X9 hown hK hP 0 rfl rfl 0 (by decide) lk0 (fun _ h9 => h9) rfl dX9_addOwner_41 ?_
      refine lv_iconst (v := (0 : Int32)) hx hb dX9_addOwner_44 (by decide) ?_
      obtain ⟨hi5, h⟩ := ok_if h
      refine va_iast hx hb hK hP hD hS 3 1 rfl rfl (ix_in hi5) dX9_addOwner_45 (fun H locs hP hD hS => ?_)
      have hP : va_P (dC, dI) vwCl (w_X9_addOwner cy a0 ((gv.1, gv.2.1, (upd gv.2.2.1 gv.1.toNatClampNeg x1), (upd gv.2.2.2.1 gv.1.toNatClampNeg x2), (upd gv.2.2.2.2.1 gv.1.toNatClampNeg (0 : Int32)), gv.2.2.2.2.2))) H := hP
      have hD : va_D A (w_X9_addOwner cy a0 ((gv.1, gv.2.1, (upd gv.2.2.1 gv.1.toNatClampNeg x1), (upd gv.2.2.2.1 gv.1.toNatClampNeg x2), (upd gv.2.2.2.2.1 gv.1.toNatClampNeg (0 : Int32)), gv.2.2.2.2.2))) := hD
      refine lv_aload_n hx hb dX9_addOwner_46 rfl (lv_at hl 0 rfl) ?_
      refine va_get (D := (dC, dI)) (ci := 7) (v := .ref (a0 13)) (C := RX9) (T := TX9) (N := 9) hx hb hts in_X9 hown hK hP 0 rfl rfl 7 (by decide) lk4 (fun _ h9 => h9) rfl dX9_addOwner_47 ?_
      refine lv_aload_n hx hb dX9_addOwner_50 rfl (lv_at hl 0 rfl) ?_
      refine va_get (D := (dC, dI)) (ci := 7) (v := .int gv.1) (C := RX9) (T := TX9) (N := 9) hx hb hts in_X9 hown hK hP 0 rfl rfl 0 (by decide) lk0 (fun _ h9 => h9) rfl dX9_addOwner_51 ?_
      refine lv_iconst (v := (0 : Int32)) hx hb dX9_addOwner_54 (by decide) ?_
      obtain ⟨hi6, h⟩ := ok_if h
      refine va_iast hx hb hK hP hD hS 4 1 rfl rfl (ix_in hi6) dX9_addOwner_55 (fun H locs hP hD hS => ?_)
      have hP : va_P (dC, dI) vwCl (w_X9_addOwner cy a0 ((gv.1, gv.2.1, (upd gv.2.2.1 gv.1.toNatClampNeg x1), (upd gv.2.2.2.1 gv.1.toNatClampNeg x2), (upd gv.2.2.2.2.1 gv.1.toNatClampNeg (0 : Int32)), (upd gv.2.2.2.2.2.1 gv.1.toNatClampNeg (0 : Int32)), gv.2.2.2.2.2.2))) H := hP
      have hD : va_D A (w_X9_addOwner cy a0 ((gv.1, gv.2.1, (upd gv.2.2.1 gv.1.toNatClampNeg x1), (upd gv.2.2.2.1 gv.1.toNatClampNeg x2), (upd gv.2.2.2.2.1 gv.1.toNatClampNeg (0 : Int32)), (upd gv.2.2.2.2.2.1 gv.1.toNatClampNeg (0 : Int32)), gv.2.2.2.2.2.2))) := hD
      refine lv_aload_n hx hb dX9_addOwner_56 rfl (lv_at hl 0 rfl) ?_
      refine va_get (D := (dC, dI)) (ci := 7) (v := .ref (a0 14)) (C := RX9) (T := TX9) (N := 9) hx hb hts in_X9 hown hK hP 0 rfl rfl 8 (by decide) lk5 (fun _ h9 => h9) rfl dX9_addOwner_57 ?_
      refine lv_aload_n hx hb dX9_addOwner_60 rfl (lv_at hl 0 rfl) ?_
      refine va_get (D := (dC, dI)) (ci := 7) (v := .int gv.1) (C := RX9) (T := TX9) (N := 9) hx hb hts in_X9 hown hK hP 0 rfl rfl 0 (by decide) lk0 (fun _ h9 => h9) rfl dX9_addOwner_61 ?_
      refine lv_iconst (v := (0 : Int32)) hx hb dX9_addOwner_64 (by decide) ?_
      obtain ⟨hi7, h⟩ := ok_if h
      refine va_iast hx hb hK hP hD hS 5 1 rfl rfl (ix_in hi7) dX9_addOwner_65 (fun H locs hP hD hS => ?_)
      have hP : va_P (dC, dI) vwCl (w_X9_addOwner cy a0 ((gv.1, gv.2.1, (upd gv.2.2.1 gv.1.toNatClampNeg x1), (upd gv.2.2.2.1 gv.1.toNatClampNeg x2), (upd gv.2.2.2.2.1 gv.1.toNatClampNeg (0 : Int32)), (upd gv.2.2.2.2.2.1 gv.1.toNatClampNeg (0 : Int32)), (upd gv.2.2.2.2.2.2 gv.1.toNatClampNeg (0 : Int32))))) H := hP
      have hD : va_D A (w_X9_addOwner cy a0 ((gv.1, gv.2.1, (upd gv.2.2.1 gv.1.toNatClampNeg x1), (upd gv.2.2.2.1 gv.1.toNatClampNeg x2), (upd gv.2.2.2.2.1 gv.1.toNatClampNeg (0 : Int32)), (upd gv.2.2.2.2.2.1 gv.1.toNatClampNeg (0 : Int32)), (upd gv.2.2.2.2.2.2 gv.1.toNatClampNeg (0 : Int32))))) := hD
      refine lv_aload_n hx hb dX9_addOwner_66 rfl (lv_at hl 0 rfl) ?_
      refine lv_dup hx hb dX9_addOwner_67 rfl ?_
      refine va_get (D := (dC, dI)) (ci := 7) (v := .int gv.1) (C := RX9) (T := TX9) (N := 9) hx hb hts in_X9 hown hK hP 0 rfl rfl 0 (by decide) lk0 (fun _ h9 => h9) rfl dX9_addOwner_68 ?_
      refine lv_iconst (v := (1 : Int32)) hx hb dX9_addOwner_71 (by decide) ?_
      refine lv_iadd hx hb dX9_addOwner_72 ?_
      refine va_put (D := (dC, dI)) (ci := 7) (v := .int (gv.1 + (1 : Int32))) (ty := .int) (C := RX9) (T := TX9) (N := 9) hx hb hts in_X9 tyX9 tyX9_ok nmX9 hown hK hP hD hS 0 rfl rfl 0 (by decide) lk0 (fun _ h9 => h9) rfl (by decide +kernel) rfl rfl (Nat.le_of_ble_eq_true rfl) dX9_addOwner_73 (fun H locs hP hD hS => ?_)
      have hP : va_P (dC, dI) vwCl (w_X9_addOwner cy a0 (((gv.1 + (1 : Int32)), gv.2.1, (upd gv.2.2.1 gv.1.toNatClampNeg x1), (upd gv.2.2.2.1 gv.1.toNatClampNeg x2), (upd gv.2.2.2.2.1 gv.1.toNatClampNeg (0 : Int32)), (upd gv.2.2.2.2.2.1 gv.1.toNatClampNeg (0 : Int32)), (upd gv.2.2.2.2.2.2 gv.1.toNatClampNeg (0 : Int32))))) H := hP
      have hD : va_D A (w_X9_addOwner cy a0 (((gv.1 + (1 : Int32)), gv.2.1, (upd gv.2.2.1 gv.1.toNatClampNeg x1), (upd gv.2.2.2.1 gv.1.toNatClampNeg x2), (upd gv.2.2.2.2.1 gv.1.toNatClampNeg (0 : Int32)), (upd gv.2.2.2.2.2.1 gv.1.toNatClampNeg (0 : Int32)), (upd gv.2.2.2.2.2.2 gv.1.toNatClampNeg (0 : Int32))))) := hD
      exact W.vret hx hb hr (fun t ht hW => by rw [hqq]; have hh := Option.some.inj h; exact ⟨⟨(((gv.1 + (1 : Int32)), gv.2.1, (upd gv.2.2.1 gv.1.toNatClampNeg x1), (upd gv.2.2.2.1 gv.1.toNatClampNeg x2), (upd gv.2.2.2.2.1 gv.1.toNatClampNeg (0 : Int32)), (upd gv.2.2.2.2.2.1 gv.1.toNatClampNeg (0 : Int32)), (upd gv.2.2.2.2.2.2 gv.1.toNatClampNeg (0 : Int32)))), rfl, Option.some.inj h, by rw [ht]; exact hP, va_K.moved hW.alike hK⟩, hS.F ht⟩) hS.2.2 dX9_addOwner_76
    · rw [if_neg c2] at h
      exact W.vret hx hb hr (fun t ht hW => by rw [hqq]; have hh := Option.some.inj h; exact ⟨⟨(gv), rfl, Option.some.inj h, by rw [ht]; exact hP, va_K.moved hW.alike hK⟩, hS.F ht⟩) hS.2.2 dX9_addOwner_15

abbrev w_X11_begin (cy : Nat → ClassId) (a0 : Nat → Nat) (gwa : (Nat → Int64) × Int64) : va_W := [(a0 0, .inr (9, [.ref (a0 1), .long (gwa.2)])), (a0 1, .inl (cy 2, 49, .inr (.inl (gwa.1))))]
abbrev rm_X11_begin : Room := { frames := 0, cells := 0, slots := 0, locals := 0 }
set_option maxHeartbeats 1000000 in
set_option maxRecDepth 100000 in
theorem c_X11_begin (l : Launch) (dC : Nat → ClassId) (dI : Nat → Nat → Nat) (cy : Nat → ClassId) (a0 : Nat → Nat) (gwa : (Nat → Int64) × Int64) (x1 : Int32) (sz : Nat) (R0 : ((Nat → Int64) × Int64)) (h : p_X11_begin gwa x1 = some R0) : Met l yX11_begin wsX11_begin rm_X11_begin (va_Pc [.ref (a0 0), .int x1] (prC dC dI cy (w_X11_begin cy a0 gwa) sz)) (va_Qv (fun (u : ((Nat → Int64) × Int64)) => u = R0) (fun (u : ((Nat → Int64) × Int64)) t => poC dC dI cy (w_X11_begin cy a0 u) t) (va_A (w_X11_begin cy a0 gwa) sz)) 0 0 (va_A (w_X11_begin cy a0 gwa) sz) := by
  refine Met.ofW (cc := cX11_begin) (maxL := 3) (ret := none) (by decide) rfl ?_
  intro p e s m aa below meth c s₁ B hml hv
  obtain ⟨haa, hsz, hP, hK, hD0⟩ := hv
  have hx := B.exec
  have hb := B.bytes
  have hr := B.returns
  have hts := atoms_spec (ws := wsX11_begin) B.pre
  have hown : s.vm.findClass RX11 = some m.cls := findClass_of_methodNamed B.named
  have hlocks := B.notSynchronized
  subst hsz
  have hD := hD0.self (sz := s.heap.size)
  obtain ⟨qq, hqq⟩ : ∃ qq, qq = (va_Qv (fun (u : ((Nat → Int64) × Int64)) => u = R0) (fun (u : ((Nat → Int64) × Int64)) t => poC dC dI cy (w_X11_begin cy a0 u) t) (va_A (w_X11_begin cy a0 gwa) s.heap.size)) := ⟨_, rfl⟩
  rw [← hqq]
  generalize hAe : va_A (w_X11_begin cy a0 gwa) s.heap.size = A at hD hqq ⊢
  have hA : ∀ q : Nat, s.heap.size ≤ q → A q := fun q h => by rw [← hAe]; exact Or.inr h
  have hS : va_S A s.heap s.heap [] := va_S.rf
  have hl := lv_entry ([.ref (a0 0), .int x1]) (n := 3) (Nat.le_of_ble_eq_true rfl)
  have hE : entryFrame m aa 3 = F0 m 0 ((lg_sl ([.ref (a0 0), .int x1]) ++ List.replicate (3 - (lg_sl ([.ref (a0 0), .int x1])).length) Slot.unset).toArray) [] := by rw [haa]; exact lg_entry_eq m _ 3
  refine W.eq hE ?_
  generalize (lg_sl ([.ref (a0 0), .int x1]) ++ List.replicate (3 - (lg_sl ([.ref (a0 0), .int x1])).length) Slot.unset).toArray = ls at hl ⊢
  have hl : lv_has ls 3 [(0, .ref (a0 0)), (1, .int x1)] := hl
  change W p l e rm_X11_begin s m aa below meth c s.heap [] 0 0 (MQ below qq aa s 0 0 A) (F0 m 0 ls [])
  have hS0 := hS
  have lk0 := hts (.fieldLink RX11 15 "GoatDoors$Walk" "whole" "J") (by decide +kernel)
  have lk1 := hts (.fieldLink RX11 11 "GoatDoors$Walk" "parts" "[J") (by decide +kernel)
  have in_X11 : ∀ w ∈ wsX110, w ∈ wsX11_begin := by decide +kernel
  have c23 : ∀ (k2 : ((Nat → Int64) × Int64) → Int32 → Int32 → Option (((Nat → Int64) × Int64))) (hk2 : ∀ (gwa : (Nat → Int64) × Int64) (x1 : Int32) (x2 : Int32) (H : Heap) (locs : List Loc) (ls : Array Slot), k2 gwa x1 x2 = some R0 → va_P (dC, dI) vwCl (w_X11_begin cy a0 gwa) H → va_D A (w_X11_begin cy a0 gwa) → va_S A s.heap H locs → lv_has ls 3 [(0, .ref (a0 0)), (1, .int x1), (2, .int x2)] → W p l e rm_X11_begin s m aa below meth c H locs 0 0 (MQ below qq aa s 0 0 A) (F0 m 2 ls [])), ∀ (gwa : (Nat → Int64) × Int64) (x1 : Int32) (x2 : Int32) (t1 : Int32) (t2 : Int64) (H : Heap) (locs : List Loc) (ls : Array Slot), p_X11_begin_23 k2 gwa x1 x2 t1 t2 = some R0 → va_P (dC, dI) vwCl (w_X11_begin cy a0 gwa) H → va_D A (w_X11_begin cy a0 gwa) → va_S A s.heap H locs → lv_has ls 3 [(0, .ref (a0 0)), (1, .int x1), (2, .int x2)] → W p l e rm_X11_begin s m aa below meth c H locs 0 0 (MQ below qq aa s 0 0 A) (F0 m 23 ls [.long t2, .int t1, .ref (a0 1)]) := by
    intro k2 hk2 gwa x1 x2 t1 t2 H locs ls h hP hD hS hl
    unfold p_X11_begin_23 at h
    obtain ⟨hi1, h⟩ := ok_if h
    refine va_last hx hb hK hP hD hS 1 2 rfl rfl (ix_in hi1) dX11_begin_23 (fun H locs hP hD hS => ?_)
    have hP : va_P (dC, dI) vwCl (w_X11_begin cy a0 (((vp_updL gwa.1 t1.toNatClampNeg t2), gwa.2))) H := hP
    have hD : va_D A (w_X11_begin cy a0 (((vp_updL gwa.1 t1.toNatClampNeg t2), gwa.2))) := hD
    refine lv_iinc (v := (x2 + (1 : Int32))) (lv' := [(2, .int (x2 + (1 : Int32))), (0, .ref (a0 0)), (1, .int x1)]) hx hb dX11_begin_24 hl (k := 2) rfl rfl (by decide) rfl (fun ls hl => ?_)
    refine lv_goto (tgt := 2) hx hb dX11_begin_27 (by decide) ?_
    exact hk2 ((vp_updL gwa.1 t1.toNatClampNeg t2), gwa.2) x1 (x2 + (1 : Int32)) H locs ls h hP hD hS (lv_sub hl [1, 2, 0] rfl)
  have c2 : ∀ (n : Nat), ∀ (gwa : (Nat → Int64) × Int64) (x1 : Int32) (x2 : Int32) (H : Heap) (locs : List Loc) (ls : Array Slot), p_X11_begin_2 n gwa x1 x2 = some R0 → va_P (dC, dI) vwCl (w_X11_begin cy a0 gwa) H → va_D A (w_X11_begin cy a0 gwa) → va_S A s.heap H locs → lv_has ls 3 [(0, .ref (a0 0)), (1, .int x1), (2, .int x2)] → W p l e rm_X11_begin s m aa below meth c H locs 0 0 (MQ below qq aa s 0 0 A) (F0 m 2 ls []) := by
    intro  n
    induction n with
    | zero => intro gwa x1 x2 H locs ls h; exact no_some h
    | succ n ih =>
      intro gwa x1 x2 H locs ls h hP hD hS hl
      rw [p_X11_begin_2.eq_2] at h
      refine lv_iload_n hx hb dX11_begin_2 rfl (lv_at hl 2 rfl) ?_
      refine lv_bipush (v := (49 : Int32)) hx hb dX11_begin_3 (by decide) ?_
      refine lv_icmp_ge (tgt := 30) hx hb dX11_begin_5 (by decide) (fun c1 => ?_) (fun c1 => ?_)
      · rw [if_pos c1] at h
        refine lv_aload_n hx hb dX11_begin_30 rfl (lv_at hl 0 rfl) ?_
        refine lv_lconst (v := (1 : Int64)) hx hb dX11_begin_31 (by decide) ?_
        refine va_put (D := (dC, dI)) (ci := 9) (v := .long (1 : Int64)) (ty := .long) (C := RX11) (T := TX11) (N := 2) hx hb hts in_X11 tyX11 tyX11_ok nmX11 hown hK hP hD hS 0 rfl rfl 1 (by decide) lk0 (fun _ h9 => h9) rfl (by decide +kernel) rfl rfl (Nat.le_of_ble_eq_true rfl) dX11_begin_32 (fun H locs hP hD hS => ?_)
        have hP : va_P (dC, dI) vwCl (w_X11_begin cy a0 ((gwa.1, (1 : Int64)))) H := hP
        have hD : va_D A (w_X11_begin cy a0 ((gwa.1, (1 : Int64)))) := hD
        exact W.vret hx hb hr (fun t ht hW => by rw [hqq]; have hh := Option.some.inj h; exact ⟨⟨((gwa.1, (1 : Int64))), rfl, Option.some.inj h, by rw [ht]; exact hP, va_K.moved hW.alike hK⟩, hS.F ht⟩) hS.2.2 dX11_begin_35
      · rw [if_neg c1] at h
        refine lv_aload_n hx hb dX11_begin_8 rfl (lv_at hl 0 rfl) ?_
        refine va_get (D := (dC, dI)) (ci := 9) (v := .ref (a0 1)) (C := RX11) (T := TX11) (N := 2) hx hb hts in_X11 hown hK hP 0 rfl rfl 0 (by decide) lk1 (fun _ h9 => h9) rfl dX11_begin_9 ?_
        refine lv_iload_n hx hb dX11_begin_12 rfl (lv_at hl 2 rfl) ?_
        refine lv_iload_n hx hb dX11_begin_13 rfl (lv_at hl 2 rfl) ?_
        refine lv_iload_n hx hb dX11_begin_14 rfl (lv_at hl 1 rfl) ?_
        refine lv_icmp_ne (tgt := 22) hx hb dX11_begin_15 (by decide) (fun c2 => ?_) (fun c2 => ?_)
        · rw [if_neg c2] at h
          refine lv_lconst (v := (0 : Int64)) hx hb dX11_begin_22 (by decide) ?_
          exact c23 (p_X11_begin_2 n) ih gwa x1 x2 x2 (0 : Int64) H locs ls h hP hD hS (lv_sub hl [0, 1, 2] rfl)
        · rw [if_pos c2] at h
          refine lv_lconst (v := (1 : Int64)) hx hb dX11_begin_18 (by decide) ?_
          refine lv_goto (tgt := 23) hx hb dX11_begin_19 (by decide) ?_
          exact c23 (p_X11_begin_2 n) ih gwa x1 x2 x2 (1 : Int64) H locs ls h hP hD hS (lv_sub hl [0, 1, 2] rfl)
  obtain ⟨H, hH⟩ : ∃ H : Heap, H = s.heap := ⟨_, rfl⟩
  obtain ⟨locs, hlocs⟩ : ∃ locs : List Loc, locs = [] := ⟨_, rfl⟩
  have hS : va_S A s.heap H locs := by rw [hH, hlocs]; exact hS
  rw [← hH] at hP
  suffices hg : W p l e rm_X11_begin s m aa below meth c H locs 0 0 (MQ below qq aa s 0 0 A) (F0 m 0 ls []) by subst hH; subst hlocs; exact hg
  unfold p_X11_begin at h
  refine lv_iconst (v := (0 : Int32)) hx hb dX11_begin_0 (by decide) ?_
  refine lv_istore_n (lv' := [(2, .int (0 : Int32)), (0, .ref (a0 0)), (1, .int x1)]) hx hb dX11_begin_1 rfl hl (by decide) rfl (fun ls hl => ?_)
  exact c2 fu gwa x1 (0 : Int32) H locs ls h hP hD hS (lv_sub hl [1, 2, 0] rfl)

abbrev w_X11_step (cy : Nat → ClassId) (a0 : Nat → Nat) (gwa : (Nat → Int64) × Int64) : va_W := [(a0 0, .inr (9, [.ref (a0 1), .long (gwa.2)])), (a0 1, .inl (cy 2, 49, .inr (.inl (gwa.1))))]
abbrev rm_X11_step : Room := { frames := 0, cells := 0, slots := 0, locals := 0 }
set_option maxHeartbeats 1000000 in
set_option maxRecDepth 100000 in
theorem c_X11_step (l : Launch) (dC : Nat → ClassId) (dI : Nat → Nat → Nat) (cy : Nat → ClassId) (a0 : Nat → Nat) (gwa : (Nat → Int64) × Int64) (x1 : Int32) (x2 : Int32) (sz : Nat) (R0 : ((Nat → Int64) × Int64)) (h : p_X11_step gwa x1 x2 = some R0) : Met l yX11_step wsX11_step rm_X11_step (va_Pc [.ref (a0 0), .int x1, .int x2] (prC dC dI cy (w_X11_step cy a0 gwa) sz)) (va_Qv (fun (u : ((Nat → Int64) × Int64)) => u = R0) (fun (u : ((Nat → Int64) × Int64)) t => poC dC dI cy (w_X11_step cy a0 u) t) (va_A (w_X11_step cy a0 gwa) sz)) 0 0 (va_A (w_X11_step cy a0 gwa) sz) := by
  refine Met.ofW (cc := cX11_step) (maxL := 11) (ret := none) (by decide) rfl ?_
  intro p e s m aa below meth c s₁ B hml hv
  obtain ⟨haa, hsz, hP, hK, hD0⟩ := hv
  have hx := B.exec
  have hb := B.bytes
  have hr := B.returns
  have hts := atoms_spec (ws := wsX11_step) B.pre
  have hown : s.vm.findClass RX11 = some m.cls := findClass_of_methodNamed B.named
  have hlocks := B.notSynchronized
  subst hsz
  have hD := hD0.self (sz := s.heap.size)
  obtain ⟨qq, hqq⟩ : ∃ qq, qq = (va_Qv (fun (u : ((Nat → Int64) × Int64)) => u = R0) (fun (u : ((Nat → Int64) × Int64)) t => poC dC dI cy (w_X11_step cy a0 u) t) (va_A (w_X11_step cy a0 gwa) s.heap.size)) := ⟨_, rfl⟩
  rw [← hqq]
  generalize hAe : va_A (w_X11_step cy a0 gwa) s.heap.size = A at hD hqq ⊢
  have hA : ∀ q : Nat, s.heap.size ≤ q → A q := fun q h => by rw [← hAe]; exact Or.inr h
  have hS : va_S A s.heap s.heap [] := va_S.rf
  have hl := lv_entry ([.ref (a0 0), .int x1, .int x2]) (n := 11) (Nat.le_of_ble_eq_true rfl)
  have hE : entryFrame m aa 11 = F0 m 0 ((lg_sl ([.ref (a0 0), .int x1, .int x2]) ++ List.replicate (11 - (lg_sl ([.ref (a0 0), .int x1, .int x2])).length) Slot.unset).toArray) [] := by rw [haa]; exact lg_entry_eq m _ 11
  refine W.eq hE ?_
  generalize (lg_sl ([.ref (a0 0), .int x1, .int x2]) ++ List.replicate (11 - (lg_sl ([.ref (a0 0), .int x1, .int x2])).length) Slot.unset).toArray = ls at hl ⊢
  have hl : lv_has ls 11 [(0, .ref (a0 0)), (1, .int x1), (2, .int x2)] := hl
  change W p l e rm_X11_step s m aa below meth c s.heap [] 0 0 (MQ below qq aa s 0 0 A) (F0 m 0 ls [])
  have hS0 := hS
  have lk0 := hts (.fieldLink RX11 11 "GoatDoors$Walk" "parts" "[J") (by decide +kernel)
  have lk1 := hts (.fieldLink RX11 15 "GoatDoors$Walk" "whole" "J") (by decide +kernel)
  have lk2 := hts (.constantLong RX11 19 (10 : Int64)) (by decide +kernel)
  have in_X11 : ∀ w ∈ wsX110, w ∈ wsX11_step := by decide +kernel
  have c63 : ∀ (k5 : ((Nat → Int64) × Int64) → Int32 → Int32 → Int64 → Int32 → Option (((Nat → Int64) × Int64))) (hk5 : ∀ (gwa : (Nat → Int64) × Int64) (x1 : Int32) (x2 : Int32) (x3 : Int64) (x5 : Int32) (H : Heap) (locs : List Loc) (ls : Array Slot), k5 gwa x1 x2 x3 x5 = some R0 → va_P (dC, dI) vwCl (w_X11_step cy a0 gwa) H → va_D A (w_X11_step cy a0 gwa) → va_S A s.heap H locs → lv_has ls 11 [(0, .ref (a0 0)), (1, .int x1), (2, .int x2), (3, .long x3), (5, .int x5)] → W p l e rm_X11_step s m aa below meth c H locs 0 0 (MQ below qq aa s 0 0 A) (F0 m 5 ls [])), ∀ (gwa : (Nat → Int64) × Int64) (x1 : Int32) (x2 : Int32) (x3 : Int64) (x5 : Int32) (x6 : Int64) (x8 : Int64) (t0 : Int32) (H : Heap) (locs : List Loc) (ls : Array Slot), p_X11_step_63 k5 gwa x1 x2 x3 x5 x6 x8 t0 = some R0 → va_P (dC, dI) vwCl (w_X11_step cy a0 gwa) H → va_D A (w_X11_step cy a0 gwa) → va_S A s.heap H locs → lv_has ls 11 [(0, .ref (a0 0)), (1, .int x1), (2, .int x2), (3, .long x3), (5, .int x5), (6, .long x6), (8, .long x8)] → W p l e rm_X11_step s m aa below meth c H locs 0 0 (MQ below qq aa s 0 0 A) (F0 m 63 ls [.int t0]) := by
    intro k5 hk5 gwa x1 x2 x3 x5 x6 x8 t0 H locs ls h hP hD hS hl
    unfold p_X11_step_63 at h
    refine lv_istore (lv' := [(10, .int t0), (0, .ref (a0 0)), (1, .int x1), (2, .int x2), (3, .long x3), (5, .int x5), (6, .long x6), (8, .long x8)]) hx hb dX11_step_63 hl (by decide) rfl (fun ls hl => ?_)
    refine lv_aload_n hx hb dX11_step_65 rfl (lv_at hl 1 rfl) ?_
    refine va_get (D := (dC, dI)) (ci := 9) (v := .ref (a0 1)) (C := RX11) (T := TX11) (N := 2) hx hb hts in_X11 hown hK hP 0 rfl rfl 0 (by decide) lk0 (fun _ h9 => h9) rfl dX11_step_66 ?_
    refine lv_iload hx hb dX11_step_69 (lv_at hl 5 rfl) ?_
    refine lv_lload_n hx hb dX11_step_71 rfl (lv_at hl 4 rfl) ?_
    refine lv_iload_n hx hb dX11_step_72 rfl (lv_at hl 2 rfl) ?_
    refine lv_i2l hx hb dX11_step_73 rfl ?_
    refine lv_lmul hx hb dX11_step_74 ?_
    refine lv_lload hx hb dX11_step_75 (lv_at hl 6 rfl) ?_
    refine lv_iload hx hb dX11_step_77 (lv_at hl 0 rfl) ?_
    refine lv_i2l hx hb dX11_step_79 rfl ?_
    refine lv_lmul hx hb dX11_step_80 ?_
    refine lv_ladd hx hb dX11_step_81 ?_
    refine lv_lload hx hb dX11_step_82 (lv_at hl 7 rfl) ?_
    refine lv_iload_n hx hb dX11_step_84 rfl (lv_at hl 3 rfl) ?_
    refine lv_i2l hx hb dX11_step_85 rfl ?_
    refine lv_lmul hx hb dX11_step_86 ?_
    refine lv_ladd hx hb dX11_step_87 ?_
    obtain ⟨hi1, h⟩ := ok_if h
    refine va_last hx hb hK hP hD hS 1 2 rfl rfl (ix_in hi1) dX11_step_88 (fun H locs hP hD hS => ?_)
    have hP : va_P (dC, dI) vwCl (w_X11_step cy a0 (((vp_updL gwa.1 x5.toNatClampNeg (((x3 * x1.toInt64) + (x6 * t0.toInt64)) + (x8 * x2.toInt64))), gwa.2))) H := hP
    have hD : va_D A (w_X11_step cy a0 (((vp_updL gwa.1 x5.toNatClampNeg (((x3 * x1.toInt64) + (x6 * t0.toInt64)) + (x8 * x2.toInt64))), gwa.2))) := hD
    refine lv_lload hx hb dX11_step_89 (lv_at hl 6 rfl) ?_
    refine lv_lstore_n (lv' := [(3, .long x6), (10, .int t0), (0, .ref (a0 0)), (1, .int x1), (2, .int x2), (5, .int x5), (6, .long x6), (8, .long x8)]) hx hb dX11_step_91 rfl hl (by decide) rfl (fun ls hl => ?_)
    refine lv_iinc (v := (x5 + (1 : Int32))) (lv' := [(5, .int (x5 + (1 : Int32))), (3, .long x6), (10, .int t0), (0, .ref (a0 0)), (1, .int x1), (2, .int x2), (6, .long x6), (8, .long x8)]) hx hb dX11_step_92 hl (k := 5) rfl rfl (by decide) rfl (fun ls hl => ?_)
    refine lv_goto (tgt := 5) hx hb dX11_step_95 (by decide) ?_
    exact hk5 ((vp_updL gwa.1 x5.toNatClampNeg (((x3 * x1.toInt64) + (x6 * t0.toInt64)) + (x8 * x2.toInt64))), gwa.2) x1 x2 x6 (x5 + (1 : Int32)) H locs ls h hP hD hS (lv_sub hl [3, 4, 5, 1, 0] rfl)
  have c43 : ∀ (k5 : ((Nat → Int64) × Int64) → Int32 → Int32 → Int64 → Int32 → Option (((Nat → Int64) × Int64))) (hk5 : ∀ (gwa : (Nat → Int64) × Int64) (x1 : Int32) (x2 : Int32) (x3 : Int64) (x5 : Int32) (H : Heap) (locs : List Loc) (ls : Array Slot), k5 gwa x1 x2 x3 x5 = some R0 → va_P (dC, dI) vwCl (w_X11_step cy a0 gwa) H → va_D A (w_X11_step cy a0 gwa) → va_S A s.heap H locs → lv_has ls 11 [(0, .ref (a0 0)), (1, .int x1), (2, .int x2), (3, .long x3), (5, .int x5)] → W p l e rm_X11_step s m aa below meth c H locs 0 0 (MQ below qq aa s 0 0 A) (F0 m 5 ls [])), ∀ (gwa : (Nat → Int64) × Int64) (x1 : Int32) (x2 : Int32) (x3 : Int64) (x5 : Int32) (x6 : Int64) (t0 : Int64) (H : Heap) (locs : List Loc) (ls : Array Slot), p_X11_step_43 k5 gwa x1 x2 x3 x5 x6 t0 = some R0 → va_P (dC, dI) vwCl (w_X11_step cy a0 gwa) H → va_D A (w_X11_step cy a0 gwa) → va_S A s.heap H locs → lv_has ls 11 [(0, .ref (a0 0)), (1, .int x1), (2, .int x2), (3, .long x3), (5, .int x5), (6, .long x6)] → W p l e rm_X11_step s m aa below meth c H locs 0 0 (MQ below qq aa s 0 0 A) (F0 m 43 ls [.long t0]) := by
    intro k5 hk5 gwa x1 x2 x3 x5 x6 t0 H locs ls h hP hD hS hl
    unfold p_X11_step_43 at h
    refine lv_lstore (lv' := [(8, .long t0), (0, .ref (a0 0)), (1, .int x1), (2, .int x2), (3, .long x3), (5, .int x5), (6, .long x6)]) hx hb dX11_step_43 hl (by decide) rfl (fun ls hl => ?_)
    refine lv_iload hx hb dX11_step_45 (lv_at hl 5 rfl) ?_
    refine lv_if_ne (tgt := 57) hx hb dX11_step_47 (by decide) (fun c1 => ?_) (fun c1 => ?_)
    · rw [if_neg c1] at h
      refine lv_bipush (v := (10 : Int32)) hx hb dX11_step_57 (by decide) ?_
      refine lv_iload_n hx hb dX11_step_59 rfl (lv_at hl 2 rfl) ?_
      refine lv_isub hx hb dX11_step_60 ?_
      refine lv_iload_n hx hb dX11_step_61 rfl (lv_at hl 3 rfl) ?_
      refine lv_isub hx hb dX11_step_62 ?_
      exact c63 k5 hk5 gwa x1 x2 x3 x5 x6 t0 (((10 : Int32) - x1) - x2) H locs ls h hP hD hS (lv_sub hl [1, 2, 3, 4, 5, 6, 0] rfl)
    · rw [if_pos c1] at h
      refine lv_bipush (v := (10 : Int32)) hx hb dX11_step_50 (by decide) ?_
      refine lv_iload_n hx hb dX11_step_52 rfl (lv_at hl 2 rfl) ?_
      refine lv_isub hx hb dX11_step_53 ?_
      refine lv_goto (tgt := 63) hx hb dX11_step_54 (by decide) ?_
      exact c63 k5 hk5 gwa x1 x2 x3 x5 x6 t0 ((10 : Int32) - x1) H locs ls h hP hD hS (lv_sub hl [1, 2, 3, 4, 5, 6, 0] rfl)
  have c5 : ∀ (n : Nat), ∀ (gwa : (Nat → Int64) × Int64) (x1 : Int32) (x2 : Int32) (x3 : Int64) (x5 : Int32) (H : Heap) (locs : List Loc) (ls : Array Slot), p_X11_step_5 n gwa x1 x2 x3 x5 = some R0 → va_P (dC, dI) vwCl (w_X11_step cy a0 gwa) H → va_D A (w_X11_step cy a0 gwa) → va_S A s.heap H locs → lv_has ls 11 [(0, .ref (a0 0)), (1, .int x1), (2, .int x2), (3, .long x3), (5, .int x5)] → W p l e rm_X11_step s m aa below meth c H locs 0 0 (MQ below qq aa s 0 0 A) (F0 m 5 ls []) := by
    intro  n
    induction n with
    | zero => intro gwa x1 x2 x3 x5 H locs ls h; exact no_some h
    | succ n ih =>
      intro gwa x1 x2 x3 x5 H locs ls h hP hD hS hl
      rw [p_X11_step_5.eq_2] at h
      refine lv_iload hx hb dX11_step_5 (lv_at hl 4 rfl) ?_
      refine lv_bipush (v := (49 : Int32)) hx hb dX11_step_7 (by decide) ?_
      refine lv_icmp_ge (tgt := 98) hx hb dX11_step_9 (by decide) (fun c1 => ?_) (fun c1 => ?_)
      · rw [if_pos c1] at h
        refine lv_aload_n hx hb dX11_step_98 rfl (lv_at hl 0 rfl) ?_
        refine lv_dup hx hb dX11_step_99 rfl ?_
        refine va_get (D := (dC, dI)) (ci := 9) (v := .long gwa.2) (C := RX11) (T := TX11) (N := 2) hx hb hts in_X11 hown hK hP 0 rfl rfl 1 (by decide) lk1 (fun _ h9 => h9) rfl dX11_step_100 ?_
        refine lv_ldc2 hx hb hown lk2 dX11_step_103 ?_
        refine lv_lmul hx hb dX11_step_106 ?_
        refine va_put (D := (dC, dI)) (ci := 9) (v := .long (gwa.2 * (10 : Int64))) (ty := .long) (C := RX11) (T := TX11) (N := 2) hx hb hts in_X11 tyX11 tyX11_ok nmX11 hown hK hP hD hS 0 rfl rfl 1 (by decide) lk1 (fun _ h9 => h9) rfl (by decide +kernel) rfl rfl (Nat.le_of_ble_eq_true rfl) dX11_step_107 (fun H locs hP hD hS => ?_)
        have hP : va_P (dC, dI) vwCl (w_X11_step cy a0 ((gwa.1, (gwa.2 * (10 : Int64))))) H := hP
        have hD : va_D A (w_X11_step cy a0 ((gwa.1, (gwa.2 * (10 : Int64))))) := hD
        exact W.vret hx hb hr (fun t ht hW => by rw [hqq]; have hh := Option.some.inj h; exact ⟨⟨((gwa.1, (gwa.2 * (10 : Int64)))), rfl, Option.some.inj h, by rw [ht]; exact hP, va_K.moved hW.alike hK⟩, hS.F ht⟩) hS.2.2 dX11_step_110
      · rw [if_neg c1] at h
        refine lv_aload_n hx hb dX11_step_12 rfl (lv_at hl 0 rfl) ?_
        refine va_get (D := (dC, dI)) (ci := 9) (v := .ref (a0 1)) (C := RX11) (T := TX11) (N := 2) hx hb hts in_X11 hown hK hP 0 rfl rfl 0 (by decide) lk0 (fun _ h9 => h9) rfl dX11_step_13 ?_
        refine lv_iload hx hb dX11_step_16 (lv_at hl 4 rfl) ?_
        obtain ⟨hi2, h⟩ := ok_if h
        refine va_lald hx hb hK hP 1 2 rfl rfl (ix_in hi2) dX11_step_18 ?_
        refine lv_lstore (lv' := [(6, .long (gwa.1 x5.toNatClampNeg)), (0, .ref (a0 0)), (1, .int x1), (2, .int x2), (3, .long x3), (5, .int x5)]) hx hb dX11_step_19 hl (by decide) rfl (fun ls hl => ?_)
        refine lv_iload hx hb dX11_step_21 (lv_at hl 5 rfl) ?_
        refine lv_iconst (v := (1 : Int32)) hx hb dX11_step_23 (by decide) ?_
        refine lv_iadd hx hb dX11_step_24 ?_
        refine lv_bipush (v := (49 : Int32)) hx hb dX11_step_25 (by decide) ?_
        refine lv_icmp_ge (tgt := 42) hx hb dX11_step_27 (by decide) (fun c3 => ?_) (fun c3 => ?_)
        · rw [if_pos c3] at h
          refine lv_lconst (v := (0 : Int64)) hx hb dX11_step_42 (by decide) ?_
          exact c43 (p_X11_step_5 n) ih gwa x1 x2 x3 x5 (gwa.1 x5.toNatClampNeg) (0 : Int64) H locs ls h hP hD hS (lv_sub hl [1, 2, 3, 4, 5, 0] rfl)
        · rw [if_neg c3] at h
          refine lv_aload_n hx hb dX11_step_30 rfl (lv_at hl 1 rfl) ?_
          refine va_get (D := (dC, dI)) (ci := 9) (v := .ref (a0 1)) (C := RX11) (T := TX11) (N := 2) hx hb hts in_X11 hown hK hP 0 rfl rfl 0 (by decide) lk0 (fun _ h9 => h9) rfl dX11_step_31 ?_
          refine lv_iload hx hb dX11_step_34 (lv_at hl 5 rfl) ?_
          refine lv_iconst (v := (1 : Int32)) hx hb dX11_step_36 (by decide) ?_
          refine lv_iadd hx hb dX11_step_37 ?_
          obtain ⟨hi4, h⟩ := ok_if h
          refine va_lald hx hb hK hP 1 2 rfl rfl (ix_in hi4) dX11_step_38 ?_
          refine lv_goto (tgt := 43) hx hb dX11_step_39 (by decide) ?_
          exact c43 (p_X11_step_5 n) ih gwa x1 x2 x3 x5 (gwa.1 x5.toNatClampNeg) (gwa.1 (x5 + (1 : Int32)).toNatClampNeg) H locs ls h hP hD hS (lv_sub hl [1, 2, 3, 4, 5, 0] rfl)
  obtain ⟨H, hH⟩ : ∃ H : Heap, H = s.heap := ⟨_, rfl⟩
  obtain ⟨locs, hlocs⟩ : ∃ locs : List Loc, locs = [] := ⟨_, rfl⟩
  have hS : va_S A s.heap H locs := by rw [hH, hlocs]; exact hS
  rw [← hH] at hP
  suffices hg : W p l e rm_X11_step s m aa below meth c H locs 0 0 (MQ below qq aa s 0 0 A) (F0 m 0 ls []) by subst hH; subst hlocs; exact hg
  unfold p_X11_step at h
  refine lv_lconst (v := (0 : Int64)) hx hb dX11_step_0 (by decide) ?_
  refine lv_lstore_n (lv' := [(3, .long (0 : Int64)), (0, .ref (a0 0)), (1, .int x1), (2, .int x2)]) hx hb dX11_step_1 rfl hl (by decide) rfl (fun ls hl => ?_)
  refine lv_iconst (v := (0 : Int32)) hx hb dX11_step_2 (by decide) ?_
  refine lv_istore (lv' := [(5, .int (0 : Int32)), (3, .long (0 : Int64)), (0, .ref (a0 0)), (1, .int x1), (2, .int x2)]) hx hb dX11_step_3 hl (by decide) rfl (fun ls hl => ?_)
  exact c5 fu gwa x1 x2 (0 : Int64) (0 : Int32) H locs ls h hP hD hS (lv_sub hl [2, 3, 4, 1, 0] rfl)

abbrev w_X11_meanOf (cy : Nat → ClassId) (a0 : Nat → Nat) (a1 : Nat → Nat) (gwa_0 : (Nat → Int64) × Int64) (gd_1 : Int32 × Int32 × (Nat → Int32) × (Nat → Int32) × (Nat → Int32) × (Nat → Int32)) : va_W := [(a0 0, .inr (9, [.ref (a0 1), .long (gwa_0.2)])), (a0 1, .inl (cy 2, 49, .inr (.inl (gwa_0.1)))), (a1 0, .inr (2, [.int (gd_1.1), .int (gd_1.2.1), .ref (a1 1), .ref (a1 2), .ref (a1 3), .ref (a1 4)])), (a1 1, .inl (cy 1, 10, .inl (gd_1.2.2.1))), (a1 2, .inl (cy 1, 10, .inl (gd_1.2.2.2.1))), (a1 3, .inl (cy 1, 10, .inl (gd_1.2.2.2.2.1))), (a1 4, .inl (cy 1, 50, .inl (gd_1.2.2.2.2.2)))]
abbrev rm_X11_meanOf : Room := { frames := 4, cells := 0, slots := 0, locals := 93 }
set_option maxHeartbeats 1000000 in
set_option maxRecDepth 100000 in
theorem c_X11_meanOf (l : Launch) (dC : Nat → ClassId) (dI : Nat → Nat → Nat) (cy : Nat → ClassId) (a0 : Nat → Nat) (a1 : Nat → Nat) (gwa_0 : (Nat → Int64) × Int64) (gd_1 : Int32 × Int32 × (Nat → Int32) × (Nat → Int32) × (Nat → Int32) × (Nat → Int32)) (x2 : Int32) (sz : Nat) (R0 : Int64) (h : p_X11_meanOf gwa_0 gd_1 x2 = some R0) : Met l yX11_meanOf wsX11_meanOf rm_X11_meanOf (va_Pc [.ref (a0 0), .ref (a1 0), .int x2] (prC dC dI cy (w_X11_meanOf cy a0 a1 gwa_0 gd_1) sz)) (va_Ql (fun (r : Int64) (_ : Unit) => r = R0) (fun (_ : Unit) t => poC dC dI cy (w_X11_meanOf cy a0 a1 gwa_0 gd_1) t) (va_A (w_X11_meanOf cy a0 a1 gwa_0 gd_1) sz)) 0 0 (va_A (w_X11_meanOf cy a0 a1 gwa_0 gd_1) sz) := by
  refine Met.ofW (cc := cX11_meanOf) (maxL := 6) (ret := (some .long)) (by decide) rfl ?_
  intro p e s m aa below meth c s₁ B hml hv
  obtain ⟨haa, hsz, hP, hK, hD0⟩ := hv
  have hx := B.exec
  have hb := B.bytes
  have hr := B.returns
  have hts := atoms_spec (ws := wsX11_meanOf) B.pre
  have hown : s.vm.findClass RX11 = some m.cls := findClass_of_methodNamed B.named
  have hlocks := B.notSynchronized
  subst hsz
  have hD := hD0.self (sz := s.heap.size)
  obtain ⟨qq, hqq⟩ : ∃ qq, qq = (va_Ql (fun (r : Int64) (_ : Unit) => r = R0) (fun (_ : Unit) t => poC dC dI cy (w_X11_meanOf cy a0 a1 gwa_0 gd_1) t) (va_A (w_X11_meanOf cy a0 a1 gwa_0 gd_1) s.heap.size)) := ⟨_, rfl⟩
  rw [← hqq]
  generalize hAe : va_A (w_X11_meanOf cy a0 a1 gwa_0 gd_1) s.heap.size = A at hD hqq ⊢
  have hA : ∀ q : Nat, s.heap.size ≤ q → A q := fun q h => by rw [← hAe]; exact Or.inr h
  have hS : va_S A s.heap s.heap [] := va_S.rf
  have hl := lv_entry ([.ref (a0 0), .ref (a1 0), .int x2]) (n := 6) (Nat.le_of_ble_eq_true rfl)
  have hE : entryFrame m aa 6 = F0 m 0 ((lg_sl ([.ref (a0 0), .ref (a1 0), .int x2]) ++ List.replicate (6 - (lg_sl ([.ref (a0 0), .ref (a1 0), .int x2])).length) Slot.unset).toArray) [] := by rw [haa]; exact lg_entry_eq m _ 6
  refine W.eq hE ?_
  generalize (lg_sl ([.ref (a0 0), .ref (a1 0), .int x2]) ++ List.replicate (6 - (lg_sl ([.ref (a0 0), .ref (a1 0), .int x2])).length) Slot.unset).toArray = ls at hl ⊢
  have hl : lv_has ls 6 [(0, .ref (a0 0)), (1, .ref (a1 0)), (2, .int x2)] := hl
  change W p l e rm_X11_meanOf s m aa below meth c s.heap [] 0 0 (MQ below qq aa s 0 0 A) (F0 m 0 ls [])
  have hS0 := hS
  have lk0 := hts (.fieldLink RX11 15 "GoatDoors$Walk" "whole" "J") (by decide +kernel)
  have lk1 := hts (.fieldLink RX11 11 "GoatDoors$Walk" "parts" "[J") (by decide +kernel)
  have in_X11 : ∀ w ∈ wsX110, w ∈ wsX11_meanOf := by decide +kernel
  have c43 : ∀ (k5 : Int32 → Int64 → Int32 → Option (Int64)) (hk5 : ∀ (x2 : Int32) (x3 : Int64) (x5 : Int32) (H : Heap) (locs : List Loc) (ls : Array Slot), k5 x2 x3 x5 = some R0 → va_P (dC, dI) vwCl (w_X11_meanOf cy a0 a1 gwa_0 gd_1) H → va_D A (w_X11_meanOf cy a0 a1 gwa_0 gd_1) → va_S A s.heap H locs → lv_has ls 6 [(0, .ref (a0 0)), (1, .ref (a1 0)), (2, .int x2), (3, .long x3), (5, .int x5)] → W p l e rm_X11_meanOf s m aa below meth c H locs 0 0 (MQ below qq aa s 0 0 A) (F0 m 5 ls [])), ∀ (x2 : Int32) (x3 : Int64) (x5 : Int32) (H : Heap) (locs : List Loc) (ls : Array Slot), p_X11_meanOf_43 k5 gwa_0 gd_1 x2 x3 x5 = some R0 → va_P (dC, dI) vwCl (w_X11_meanOf cy a0 a1 gwa_0 gd_1) H → va_D A (w_X11_meanOf cy a0 a1 gwa_0 gd_1) → va_S A s.heap H locs → lv_has ls 6 [(0, .ref (a0 0)), (1, .ref (a1 0)), (2, .int x2), (3, .long x3), (5, .int x5)] → W p l e rm_X11_meanOf s m aa below meth c H locs 0 0 (MQ below qq aa s 0 0 A) (F0 m 43 ls []) := by
    intro k5 hk5 x2 x3 x5 H locs ls h hP hD hS hl
    unfold p_X11_meanOf_43 at h
    refine lv_iinc (v := (x5 + (1 : Int32))) (lv' := [(5, .int (x5 + (1 : Int32))), (0, .ref (a0 0)), (1, .ref (a1 0)), (2, .int x2), (3, .long x3)]) hx hb dX11_meanOf_43 hl (k := 4) rfl rfl (by decide) rfl (fun ls hl => ?_)
    refine lv_goto (tgt := 5) hx hb dX11_meanOf_46 (by decide) ?_
    exact hk5 x2 x3 (x5 + (1 : Int32)) H locs ls h hP hD hS (lv_sub hl [1, 2, 3, 4, 0] rfl)
  have c5 : ∀ (n : Nat), ∀ (x2 : Int32) (x3 : Int64) (x5 : Int32) (H : Heap) (locs : List Loc) (ls : Array Slot), p_X11_meanOf_5 gwa_0 gd_1 n x2 x3 x5 = some R0 → va_P (dC, dI) vwCl (w_X11_meanOf cy a0 a1 gwa_0 gd_1) H → va_D A (w_X11_meanOf cy a0 a1 gwa_0 gd_1) → va_S A s.heap H locs → lv_has ls 6 [(0, .ref (a0 0)), (1, .ref (a1 0)), (2, .int x2), (3, .long x3), (5, .int x5)] → W p l e rm_X11_meanOf s m aa below meth c H locs 0 0 (MQ below qq aa s 0 0 A) (F0 m 5 ls []) := by
    intro  n
    induction n with
    | zero => intro x2 x3 x5 H locs ls h; exact no_some h
    | succ n ih =>
      intro x2 x3 x5 H locs ls h hP hD hS hl
      rw [p_X11_meanOf_5.eq_2] at h
      refine lv_iload hx hb dX11_meanOf_5 (lv_at hl 4 rfl) ?_
      refine lv_bipush (v := (49 : Int32)) hx hb dX11_meanOf_7 (by decide) ?_
      refine lv_icmp_ge (tgt := 49) hx hb dX11_meanOf_9 (by decide) (fun c1 => ?_) (fun c1 => ?_)
      · rw [if_pos c1] at h
        refine lv_aload_n hx hb dX11_meanOf_49 rfl (lv_at hl 0 rfl) ?_
        refine va_get (D := (dC, dI)) (ci := 9) (v := .long gwa_0.2) (C := RX11) (T := TX11) (N := 2) hx hb hts in_X11 hown hK hP 0 rfl rfl 1 (by decide) lk0 (fun _ h9 => h9) rfl dX11_meanOf_50 ?_
        refine lv_lconst (v := (1 : Int64)) hx hb dX11_meanOf_53 (by decide) ?_
        refine W.lcmp hx hb dX11_meanOf_54 ?_
        refine lv_if_ge (tgt := 62) hx hb dX11_meanOf_55 (by decide) (fun c2 => ?_) (fun c2 => ?_)
        · rw [if_pos c2] at h
          refine lv_lload_n hx hb dX11_meanOf_62 rfl (lv_at hl 3 rfl) ?_
          refine lv_aload_n hx hb dX11_meanOf_63 rfl (lv_at hl 0 rfl) ?_
          refine va_get (D := (dC, dI)) (ci := 9) (v := .long gwa_0.2) (C := RX11) (T := TX11) (N := 2) hx hb hts in_X11 hown hK hP 0 rfl rfl 1 (by decide) lk0 (fun _ h9 => h9) rfl dX11_meanOf_64 ?_
          obtain ⟨hz3, h⟩ := ok_if h
          refine lv_ldiv hx hb dX11_meanOf_67 hz3 ?_
          exact W.lret (v := (x3 / gwa_0.2)) hx hb hr (fun t ht hW => by rw [hqq]; have hh := Option.some.inj h; exact ⟨⟨(x3 / gwa_0.2), (()), rfl, Option.some.inj h, by rw [ht]; exact hP, va_K.moved hW.alike hK⟩, hS.F ht⟩) hS.2.2 dX11_meanOf_68
        · rw [if_neg c2] at h
          refine lv_lconst (v := (0 : Int64)) hx hb dX11_meanOf_58 (by decide) ?_
          refine lv_goto (tgt := 68) hx hb dX11_meanOf_59 (by decide) ?_
          exact W.lret (v := (0 : Int64)) hx hb hr (fun t ht hW => by rw [hqq]; have hh := Option.some.inj h; exact ⟨⟨(0 : Int64), (()), rfl, Option.some.inj h, by rw [ht]; exact hP, va_K.moved hW.alike hK⟩, hS.F ht⟩) hS.2.2 dX11_meanOf_68
      · rw [if_neg c1] at h
        refine lv_aload_n hx hb dX11_meanOf_12 rfl (lv_at hl 0 rfl) ?_
        refine va_get (D := (dC, dI)) (ci := 9) (v := .ref (a0 1)) (C := RX11) (T := TX11) (N := 2) hx hb hts in_X11 hown hK hP 0 rfl rfl 0 (by decide) lk1 (fun _ h9 => h9) rfl dX11_meanOf_13 ?_
        refine lv_iload hx hb dX11_meanOf_16 (lv_at hl 4 rfl) ?_
        obtain ⟨hi4, h⟩ := ok_if h
        refine va_lald hx hb hK hP 1 2 rfl rfl (ix_in hi4) dX11_meanOf_18 ?_
        refine lv_lconst (v := (0 : Int64)) hx hb dX11_meanOf_19 (by decide) ?_
        refine W.lcmp hx hb dX11_meanOf_20 ?_
        refine lv_if_eq (tgt := 43) hx hb dX11_meanOf_21 (by decide) (fun c5 => ?_) (fun c5 => ?_)
        · rw [if_pos c5] at h
          exact c43 (p_X11_meanOf_5 gwa_0 gd_1 n) ih x2 x3 x5 H locs ls h hP hD hS (lv_sub hl [0, 1, 2, 3, 4] rfl)
        · rw [if_neg c5] at h
          refine lv_lload_n hx hb dX11_meanOf_24 rfl (lv_at hl 3 rfl) ?_
          refine lv_aload_n hx hb dX11_meanOf_25 rfl (lv_at hl 0 rfl) ?_
          refine va_get (D := (dC, dI)) (ci := 9) (v := .ref (a0 1)) (C := RX11) (T := TX11) (N := 2) hx hb hts in_X11 hown hK hP 0 rfl rfl 0 (by decide) lk1 (fun _ h9 => h9) rfl dX11_meanOf_26 ?_
          refine lv_iload hx hb dX11_meanOf_29 (lv_at hl 4 rfl) ?_
          obtain ⟨hi6, h⟩ := ok_if h
          refine va_lald hx hb hK hP 1 2 rfl rfl (ix_in hi6) dX11_meanOf_31 ?_
          refine lv_aload_n hx hb dX11_meanOf_32 rfl (lv_at hl 1 rfl) ?_
          refine lv_iload_n hx hb dX11_meanOf_33 rfl (lv_at hl 2 rfl) ?_
          refine lv_iload hx hb dX11_meanOf_34 (lv_at hl 4 rfl) ?_
          obtain ⟨v7, hv8, h⟩ := ok_bind h
          refine cl_vi (w2 := fun (_ : Unit) => w_X11_meanOf cy a0 a1 gwa_0 gd_1) (As := [.int x2, .int x5]) (rest := [.long (gwa_0.1 x5.toNatClampNeg), .long x3]) ⟨hx, hb, hml, hown, hts⟩ (c_X4_worthIn l dC dI cy a1 gd_1 x2 x5 H.size v7 hv8) (cwV 2 hts gX11_meanOf_X4_worthIn rfl rfl rfl (by decide +kernel) ⟨Nat.le_of_ble_eq_true rfl, Nat.le_of_ble_eq_true rfl⟩) (va_recv hK hP (ci := 2) (q0 := 2) rfl rfl) cl_blind (cl_pre hK hP hD [2, 3, 4, 5, 6] (by decide) rfl) hP hD hS hA [2, 3, 4, 5, 6] rfl rfl hl.1 rfl (lv_room (Nat.le_of_ble_eq_true rfl)) dX11_meanOf_36 ⟨Nat.le_of_ble_eq_true rfl, Nat.le_of_ble_eq_true rfl⟩ ⟨rfl, rfl⟩ (fun _ => updR [2, 3, 4, 5, 6] rfl) (fun r u H locs hw hP hD hS => ?_)
          have hw := hw.symm
          subst hw
          have hP : va_P (dC, dI) vwCl (w_X11_meanOf cy a0 a1 gwa_0 gd_1) H := hP
          have hD : va_D A (w_X11_meanOf cy a0 a1 gwa_0 gd_1) := hD
          refine lv_i2l hx hb dX11_meanOf_39 rfl ?_
          refine lv_lmul hx hb dX11_meanOf_40 ?_
          refine lv_ladd hx hb dX11_meanOf_41 ?_
          refine lv_lstore_n (lv' := [(3, .long (x3 + ((gwa_0.1 x5.toNatClampNeg) * v7.toInt64))), (0, .ref (a0 0)), (1, .ref (a1 0)), (2, .int x2), (5, .int x5)]) hx hb dX11_meanOf_42 rfl hl (by decide) rfl (fun ls hl => ?_)
          exact c43 (p_X11_meanOf_5 gwa_0 gd_1 n) ih x2 (x3 + ((gwa_0.1 x5.toNatClampNeg) * v7.toInt64)) x5 H locs ls h hP hD hS (lv_sub hl [1, 2, 3, 0, 4] rfl)
  obtain ⟨H, hH⟩ : ∃ H : Heap, H = s.heap := ⟨_, rfl⟩
  obtain ⟨locs, hlocs⟩ : ∃ locs : List Loc, locs = [] := ⟨_, rfl⟩
  have hS : va_S A s.heap H locs := by rw [hH, hlocs]; exact hS
  rw [← hH] at hP
  suffices hg : W p l e rm_X11_meanOf s m aa below meth c H locs 0 0 (MQ below qq aa s 0 0 A) (F0 m 0 ls []) by subst hH; subst hlocs; exact hg
  unfold p_X11_meanOf at h
  refine lv_lconst (v := (0 : Int64)) hx hb dX11_meanOf_0 (by decide) ?_
  refine lv_lstore_n (lv' := [(3, .long (0 : Int64)), (0, .ref (a0 0)), (1, .ref (a1 0)), (2, .int x2)]) hx hb dX11_meanOf_1 rfl hl (by decide) rfl (fun ls hl => ?_)
  refine lv_iconst (v := (0 : Int32)) hx hb dX11_meanOf_2 (by decide) ?_
  refine lv_istore (lv' := [(5, .int (0 : Int32)), (3, .long (0 : Int64)), (0, .ref (a0 0)), (1, .ref (a1 0)), (2, .int x2)]) hx hb dX11_meanOf_3 hl (by decide) rfl (fun ls hl => ?_)
  exact c5 fu x2 (0 : Int64) (0 : Int32) H locs ls h hP hD hS (lv_sub hl [2, 3, 4, 1, 0] rfl)
