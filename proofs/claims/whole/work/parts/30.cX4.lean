abbrev w_X4_has (cy : Nat → ClassId) (a0 : Nat → Nat) (gd : Int32 × Int32 × (Nat → Int32) × (Nat → Int32) × (Nat → Int32) × (Nat → Int32)) : va_W := [(a0 0, .inr (2, [.int (gd.1), .int (gd.2.1), .ref (a0 1), .ref (a0 2), .ref (a0 3), .ref (a0 4)])), (a0 1, .inl (cy 1, 10, .inl (gd.2.2.1))), (a0 2, .inl (cy 1, 10, .inl (gd.2.2.2.1))), (a0 3, .inl (cy 1, 10, .inl (gd.2.2.2.2.1))), (a0 4, .inl (cy 1, 50, .inl (gd.2.2.2.2.2)))]
abbrev rm_X4_has : Room := { frames := 0, cells := 0, slots := 0, locals := 0 }
set_option maxHeartbeats 1000000 in
set_option maxRecDepth 100000 in
theorem c_X4_has (l : Launch) (dC : Nat → ClassId) (dI : Nat → Nat → Nat) (cy : Nat → ClassId) (a0 : Nat → Nat) (gd : Int32 × Int32 × (Nat → Int32) × (Nat → Int32) × (Nat → Int32) × (Nat → Int32)) (x1 : Int32) (sz : Nat) (R0 : Int32) (h : p_X4_has gd x1 = some R0) : Met l yX4_has wsX4_has rm_X4_has (va_Pc [.ref (a0 0), .int x1] (prC dC dI cy (w_X4_has cy a0 gd) sz)) (va_Qi (fun (r : Int32) (_ : Unit) => r = R0) (fun (_ : Unit) t => poC dC dI cy (w_X4_has cy a0 gd) t) (va_A (w_X4_has cy a0 gd) sz)) 0 0 (va_A (w_X4_has cy a0 gd) sz) := by
  refine Met.ofW (cc := cX4_has) (maxL := 2) (ret := (some .boolean)) (by decide) rfl ?_
  intro p e s m aa below meth c s₁ B hml hv
  obtain ⟨haa, hsz, hP, hK, hD0⟩ := hv
  have hx := B.exec
  have hb := B.bytes
  have hr := B.returns
  have hts := atoms_spec (ws := wsX4_has) B.pre
  have hown : s.vm.findClass RX4 = some m.cls := findClass_of_methodNamed B.named
  have hlocks := B.notSynchronized
  subst hsz
  have hD := hD0.self (sz := s.heap.size)
  obtain ⟨qq, hqq⟩ : ∃ qq, qq = (va_Qi (fun (r : Int32) (_ : Unit) => r = R0) (fun (_ : Unit) t => poC dC dI cy (w_X4_has cy a0 gd) t) (va_A (w_X4_has cy a0 gd) s.heap.size)) := ⟨_, rfl⟩
  rw [← hqq]
  generalize hAe : va_A (w_X4_has cy a0 gd) s.heap.size = A at hD hqq ⊢
  have hA : ∀ q : Nat, s.heap.size ≤ q → A q := fun q h => by rw [← hAe]; exact Or.inr h
  have hS : va_S A s.heap s.heap [] := va_S.rf
  have hl := lv_entry ([.ref (a0 0), .int x1]) (n := 2) (Nat.le_of_ble_eq_true rfl)
  have hE : entryFrame m aa 2 = F0 m 0 ((lg_sl ([.ref (a0 0), .int x1]) ++ List.replicate (2 - (lg_sl ([.ref (a0 0), .int x1])).length) Slot.unset).toArray) [] := by rw [haa]; exact lg_entry_eq m _ 2
  refine W.eq hE ?_
  generalize (lg_sl ([.ref (a0 0), .int x1]) ++ List.replicate (2 - (lg_sl ([.ref (a0 0), .int x1])).length) Slot.unset).toArray = ls at hl ⊢
  have hl : lv_has ls 2 [(0, .ref (a0 0)), (1, .int x1)] := hl
  change W p l e rm_X4_has s m aa below meth c s.heap [] 0 0 (MQ below qq aa s 0 0 A) (F0 m 0 ls [])
  have hS0 := hS
  have lk0 := hts (.fieldLink RX4 28 "GoatDoors$Doors" "bits" "I") (by decide +kernel)
  have in_X4 : ∀ w ∈ wsX40, w ∈ wsX4_has := by decide +kernel
  obtain ⟨H, hH⟩ : ∃ H : Heap, H = s.heap := ⟨_, rfl⟩
  obtain ⟨locs, hlocs⟩ : ∃ locs : List Loc, locs = [] := ⟨_, rfl⟩
  have hS : va_S A s.heap H locs := by rw [hH, hlocs]; exact hS
  rw [← hH] at hP
  suffices hg : W p l e rm_X4_has s m aa below meth c H locs 0 0 (MQ below qq aa s 0 0 A) (F0 m 0 ls []) by subst hH; subst hlocs; exact hg
  unfold p_X4_has at h
  refine lv_iload_n hx hb dX4_has_0 rfl (lv_at hl 1 rfl) ?_
  refine lv_if_lt (tgt := 25) hx hb dX4_has_1 (by decide) (fun c1 => ?_) (fun c1 => ?_)
  · rw [if_pos c1] at h
    refine lv_iconst (v := (0 : Int32)) hx hb dX4_has_25 (by decide) ?_
    exact W.zret (v := (0 : Int32)) (ty := .boolean) hx hb hr rfl (fun t ht hW => by rw [hqq]; have hh := Option.some.inj h; exact ⟨⟨(0 : Int32), (()), rfl, Option.some.inj h, by rw [ht]; exact hP, va_K.moved hW.alike hK⟩, hS.F ht⟩) hS.2.2 dX4_has_26
  · rw [if_neg c1] at h
    refine lv_iload_n hx hb dX4_has_4 rfl (lv_at hl 1 rfl) ?_
    refine lv_bipush (v := (10 : Int32)) hx hb dX4_has_5 (by decide) ?_
    refine lv_icmp_ge (tgt := 25) hx hb dX4_has_7 (by decide) (fun c2 => ?_) (fun c2 => ?_)
    · rw [if_pos c2] at h
      refine lv_iconst (v := (0 : Int32)) hx hb dX4_has_25 (by decide) ?_
      exact W.zret (v := (0 : Int32)) (ty := .boolean) hx hb hr rfl (fun t ht hW => by rw [hqq]; have hh := Option.some.inj h; exact ⟨⟨(0 : Int32), (()), rfl, Option.some.inj h, by rw [ht]; exact hP, va_K.moved hW.alike hK⟩, hS.F ht⟩) hS.2.2 dX4_has_26
    · rw [if_neg c2] at h
      refine lv_aload_n hx hb dX4_has_10 rfl (lv_at hl 0 rfl) ?_
      refine va_get (D := (dC, dI)) (ci := 2) (v := .int gd.2.1) (C := RX4) (T := TX4) (N := 6) hx hb hts in_X4 hown hK hP 0 rfl rfl 1 (by decide) lk0 (fun _ h9 => h9) rfl dX4_has_11 ?_
      refine lv_iload_n hx hb dX4_has_14 rfl (lv_at hl 1 rfl) ?_
      refine lv_ishr hx hb dX4_has_15 ?_
      refine lv_iconst (v := (1 : Int32)) hx hb dX4_has_16 (by decide) ?_
      refine lv_iand hx hb dX4_has_17 ?_
      refine lv_if_eq (tgt := 25) hx hb dX4_has_18 (by decide) (fun c3 => ?_) (fun c3 => ?_)
      · rw [if_pos c3] at h
        refine lv_iconst (v := (0 : Int32)) hx hb dX4_has_25 (by decide) ?_
        exact W.zret (v := (0 : Int32)) (ty := .boolean) hx hb hr rfl (fun t ht hW => by rw [hqq]; have hh := Option.some.inj h; exact ⟨⟨(0 : Int32), (()), rfl, Option.some.inj h, by rw [ht]; exact hP, va_K.moved hW.alike hK⟩, hS.F ht⟩) hS.2.2 dX4_has_26
      · rw [if_neg c3] at h
        refine lv_iconst (v := (1 : Int32)) hx hb dX4_has_21 (by decide) ?_
        refine lv_goto (tgt := 26) hx hb dX4_has_22 (by decide) ?_
        exact W.zret (v := (1 : Int32)) (ty := .boolean) hx hb hr rfl (fun t ht hW => by rw [hqq]; have hh := Option.some.inj h; exact ⟨⟨(1 : Int32), (()), rfl, Option.some.inj h, by rw [ht]; exact hP, va_K.moved hW.alike hK⟩, hS.F ht⟩) hS.2.2 dX4_has_26

abbrev w_X4_lengthOf (cy : Nat → ClassId) (a0 : Nat → Nat) (gd : Int32 × Int32 × (Nat → Int32) × (Nat → Int32) × (Nat → Int32) × (Nat → Int32)) : va_W := [(a0 0, .inr (2, [.int (gd.1), .int (gd.2.1), .ref (a0 1), .ref (a0 2), .ref (a0 3), .ref (a0 4)])), (a0 1, .inl (cy 1, 10, .inl (gd.2.2.1))), (a0 2, .inl (cy 1, 10, .inl (gd.2.2.2.1))), (a0 3, .inl (cy 1, 10, .inl (gd.2.2.2.2.1))), (a0 4, .inl (cy 1, 50, .inl (gd.2.2.2.2.2)))]
abbrev rm_X4_lengthOf : Room := { frames := 1, cells := 0, slots := 0, locals := 21 }
set_option maxHeartbeats 1000000 in
set_option maxRecDepth 100000 in
theorem c_X4_lengthOf (l : Launch) (dC : Nat → ClassId) (dI : Nat → Nat → Nat) (cy : Nat → ClassId) (a0 : Nat → Nat) (gd : Int32 × Int32 × (Nat → Int32) × (Nat → Int32) × (Nat → Int32) × (Nat → Int32)) (x1 : Int32) (sz : Nat) (R0 : Int32) (h : p_X4_lengthOf gd x1 = some R0) : Met l yX4_lengthOf wsX4_lengthOf rm_X4_lengthOf (va_Pc [.ref (a0 0), .int x1] (prC dC dI cy (w_X4_lengthOf cy a0 gd) sz)) (va_Qi (fun (r : Int32) (_ : Unit) => r = R0) (fun (_ : Unit) t => poC dC dI cy (w_X4_lengthOf cy a0 gd) t) (va_A (w_X4_lengthOf cy a0 gd) sz)) 0 0 (va_A (w_X4_lengthOf cy a0 gd) sz) := by
  refine Met.ofW (cc := cX4_lengthOf) (maxL := 2) (ret := (some .int)) (by decide) rfl ?_
  intro p e s m aa below meth c s₁ B hml hv
  obtain ⟨haa, hsz, hP, hK, hD0⟩ := hv
  have hx := B.exec
  have hb := B.bytes
  have hr := B.returns
  have hts := atoms_spec (ws := wsX4_lengthOf) B.pre
  have hown : s.vm.findClass RX4 = some m.cls := findClass_of_methodNamed B.named
  have hlocks := B.notSynchronized
  subst hsz
  have hD := hD0.self (sz := s.heap.size)
  obtain ⟨qq, hqq⟩ : ∃ qq, qq = (va_Qi (fun (r : Int32) (_ : Unit) => r = R0) (fun (_ : Unit) t => poC dC dI cy (w_X4_lengthOf cy a0 gd) t) (va_A (w_X4_lengthOf cy a0 gd) s.heap.size)) := ⟨_, rfl⟩
  rw [← hqq]
  generalize hAe : va_A (w_X4_lengthOf cy a0 gd) s.heap.size = A at hD hqq ⊢
  have hA : ∀ q : Nat, s.heap.size ≤ q → A q := fun q h => by rw [← hAe]; exact Or.inr h
  have hS : va_S A s.heap s.heap [] := va_S.rf
  have hl := lv_entry ([.ref (a0 0), .int x1]) (n := 2) (Nat.le_of_ble_eq_true rfl)
  have hE : entryFrame m aa 2 = F0 m 0 ((lg_sl ([.ref (a0 0), .int x1]) ++ List.replicate (2 - (lg_sl ([.ref (a0 0), .int x1])).length) Slot.unset).toArray) [] := by rw [haa]; exact lg_entry_eq m _ 2
  refine W.eq hE ?_
  generalize (lg_sl ([.ref (a0 0), .int x1]) ++ List.replicate (2 - (lg_sl ([.ref (a0 0), .int x1])).length) Slot.unset).toArray = ls at hl ⊢
  have hl : lv_has ls 2 [(0, .ref (a0 0)), (1, .int x1)] := hl
  change W p l e rm_X4_lengthOf s m aa below meth c s.heap [] 0 0 (MQ below qq aa s 0 0 A) (F0 m 0 ls [])
  have hS0 := hS
  have lk0 := hts (.fieldLink RX4 18 "GoatDoors$Doors" "lengths" "[I") (by decide +kernel)
  have in_X4 : ∀ w ∈ wsX40, w ∈ wsX4_lengthOf := by decide +kernel
  obtain ⟨H, hH⟩ : ∃ H : Heap, H = s.heap := ⟨_, rfl⟩
  obtain ⟨locs, hlocs⟩ : ∃ locs : List Loc, locs = [] := ⟨_, rfl⟩
  have hS : va_S A s.heap H locs := by rw [hH, hlocs]; exact hS
  rw [← hH] at hP
  suffices hg : W p l e rm_X4_lengthOf s m aa below meth c H locs 0 0 (MQ below qq aa s 0 0 A) (F0 m 0 ls []) by subst hH; subst hlocs; exact hg
  unfold p_X4_lengthOf at h
  refine lv_aload_n hx hb dX4_lengthOf_0 rfl (lv_at hl 0 rfl) ?_
  refine lv_iload_n hx hb dX4_lengthOf_1 rfl (lv_at hl 1 rfl) ?_
  obtain ⟨v1, hv2, h⟩ := ok_bind h
  refine cl_vi (w2 := fun (_ : Unit) => w_X4_lengthOf cy a0 gd) (As := [.int x1]) (rest := []) ⟨hx, hb, hml, hown, hts⟩ (c_X4_has l dC dI cy a0 gd x1 H.size v1 hv2) (cwV 1 hts gX4_lengthOf_X4_has rfl rfl rfl (by decide +kernel) ⟨Nat.le_of_ble_eq_true rfl, Nat.le_of_ble_eq_true rfl⟩) (va_recv hK hP (ci := 2) (q0 := 0) rfl rfl) cl_blind (cl_pre hK hP hD [0, 1, 2, 3, 4] (by decide) rfl) hP hD hS hA [0, 1, 2, 3, 4] rfl rfl hl.1 rfl (lv_room (Nat.le_of_ble_eq_true rfl)) dX4_lengthOf_2 ⟨Nat.le_of_ble_eq_true rfl, Nat.le_of_ble_eq_true rfl⟩ ⟨rfl, rfl⟩ (fun _ => updR [0, 1, 2, 3, 4] rfl) (fun r u H locs hw hP hD hS => ?_)
  have hw := hw.symm
  subst hw
  have hP : va_P (dC, dI) vwCl (w_X4_lengthOf cy a0 gd) H := hP
  have hD : va_D A (w_X4_lengthOf cy a0 gd) := hD
  refine lv_if_eq (tgt := 17) hx hb dX4_lengthOf_5 (by decide) (fun c3 => ?_) (fun c3 => ?_)
  · rw [if_pos c3] at h
    refine lv_iconst (v := (0 : Int32)) hx hb dX4_lengthOf_17 (by decide) ?_
    exact W.iret (v := (0 : Int32)) hx hb hr (fun t ht hW => by rw [hqq]; have hh := Option.some.inj h; exact ⟨⟨(0 : Int32), (()), rfl, Option.some.inj h, by rw [ht]; exact hP, va_K.moved hW.alike hK⟩, hS.F ht⟩) hS.2.2 dX4_lengthOf_18
  · rw [if_neg c3] at h
    refine lv_aload_n hx hb dX4_lengthOf_8 rfl (lv_at hl 0 rfl) ?_
    refine va_get (D := (dC, dI)) (ci := 2) (v := .ref (a0 3)) (C := RX4) (T := TX4) (N := 6) hx hb hts in_X4 hown hK hP 0 rfl rfl 4 (by decide) lk0 (fun _ h9 => h9) rfl dX4_lengthOf_9 ?_
    refine lv_iload_n hx hb dX4_lengthOf_12 rfl (lv_at hl 1 rfl) ?_
    obtain ⟨hi4, h⟩ := ok_if h
    refine va_iald hx hb hK hP 3 1 rfl rfl (ix_in hi4) dX4_lengthOf_13 ?_
    refine lv_goto (tgt := 18) hx hb dX4_lengthOf_14 (by decide) ?_
    exact W.iret (v := (gd.2.2.2.2.1 x1.toNatClampNeg)) hx hb hr (fun t ht hW => by rw [hqq]; have hh := Option.some.inj h; exact ⟨⟨(gd.2.2.2.2.1 x1.toNatClampNeg), (()), rfl, Option.some.inj h, by rw [ht]; exact hP, va_K.moved hW.alike hK⟩, hS.F ht⟩) hS.2.2 dX4_lengthOf_18

abbrev w_X4_figureAt (cy : Nat → ClassId) (a0 : Nat → Nat) (gd : Int32 × Int32 × (Nat → Int32) × (Nat → Int32) × (Nat → Int32) × (Nat → Int32)) : va_W := [(a0 0, .inr (2, [.int (gd.1), .int (gd.2.1), .ref (a0 1), .ref (a0 2), .ref (a0 3), .ref (a0 4)])), (a0 1, .inl (cy 1, 10, .inl (gd.2.2.1))), (a0 2, .inl (cy 1, 10, .inl (gd.2.2.2.1))), (a0 3, .inl (cy 1, 10, .inl (gd.2.2.2.2.1))), (a0 4, .inl (cy 1, 50, .inl (gd.2.2.2.2.2)))]
abbrev rm_X4_figureAt : Room := { frames := 2, cells := 0, slots := 0, locals := 42 }
set_option maxHeartbeats 1000000 in
set_option maxRecDepth 100000 in
theorem c_X4_figureAt (l : Launch) (dC : Nat → ClassId) (dI : Nat → Nat → Nat) (cy : Nat → ClassId) (a0 : Nat → Nat) (gd : Int32 × Int32 × (Nat → Int32) × (Nat → Int32) × (Nat → Int32) × (Nat → Int32)) (x1 : Int32) (x2 : Int32) (sz : Nat) (R0 : Int32) (h : p_X4_figureAt gd x1 x2 = some R0) : Met l yX4_figureAt wsX4_figureAt rm_X4_figureAt (va_Pc [.ref (a0 0), .int x1, .int x2] (prC dC dI cy (w_X4_figureAt cy a0 gd) sz)) (va_Qi (fun (r : Int32) (_ : Unit) => r = R0) (fun (_ : Unit) t => poC dC dI cy (w_X4_figureAt cy a0 gd) t) (va_A (w_X4_figureAt cy a0 gd) sz)) 0 0 (va_A (w_X4_figureAt cy a0 gd) sz) := by
  refine Met.ofW (cc := cX4_figureAt) (maxL := 4) (ret := (some .int)) (by decide) rfl ?_
  intro p e s m aa below meth c s₁ B hml hv
  obtain ⟨haa, hsz, hP, hK, hD0⟩ := hv
  have hx := B.exec
  have hb := B.bytes
  have hr := B.returns
  have hts := atoms_spec (ws := wsX4_figureAt) B.pre
  have hown : s.vm.findClass RX4 = some m.cls := findClass_of_methodNamed B.named
  have hlocks := B.notSynchronized
  subst hsz
  have hD := hD0.self (sz := s.heap.size)
  obtain ⟨qq, hqq⟩ : ∃ qq, qq = (va_Qi (fun (r : Int32) (_ : Unit) => r = R0) (fun (_ : Unit) t => poC dC dI cy (w_X4_figureAt cy a0 gd) t) (va_A (w_X4_figureAt cy a0 gd) s.heap.size)) := ⟨_, rfl⟩
  rw [← hqq]
  generalize hAe : va_A (w_X4_figureAt cy a0 gd) s.heap.size = A at hD hqq ⊢
  have hA : ∀ q : Nat, s.heap.size ≤ q → A q := fun q h => by rw [← hAe]; exact Or.inr h
  have hS : va_S A s.heap s.heap [] := va_S.rf
  have hl := lv_entry ([.ref (a0 0), .int x1, .int x2]) (n := 4) (Nat.le_of_ble_eq_true rfl)
  have hE : entryFrame m aa 4 = F0 m 0 ((lg_sl ([.ref (a0 0), .int x1, .int x2]) ++ List.replicate (4 - (lg_sl ([.ref (a0 0), .int x1, .int x2])).length) Slot.unset).toArray) [] := by rw [haa]; exact lg_entry_eq m _ 4
  refine W.eq hE ?_
  generalize (lg_sl ([.ref (a0 0), .int x1, .int x2]) ++ List.replicate (4 - (lg_sl ([.ref (a0 0), .int x1, .int x2])).length) Slot.unset).toArray = ls at hl ⊢
  have hl : lv_has ls 4 [(0, .ref (a0 0)), (1, .int x1), (2, .int x2)] := hl
  change W p l e rm_X4_figureAt s m aa below meth c s.heap [] 0 0 (MQ below qq aa s 0 0 A) (F0 m 0 ls [])
  have hS0 := hS
  have lk0 := hts (.fieldLink RX4 21 "GoatDoors$Doors" "figures" "[I") (by decide +kernel)
  have in_X4 : ∀ w ∈ wsX40, w ∈ wsX4_figureAt := by decide +kernel
  have c23 : ∀ (_u : Unit), ∀ (x1 : Int32) (x2 : Int32) (t0 : Int32) (H : Heap) (locs : List Loc) (ls : Array Slot), p_X4_figureAt_23 gd x1 x2 t0 = some R0 → va_P (dC, dI) vwCl (w_X4_figureAt cy a0 gd) H → va_D A (w_X4_figureAt cy a0 gd) → va_S A s.heap H locs → lv_has ls 4 [(0, .ref (a0 0)), (1, .int x1), (2, .int x2)] → W p l e rm_X4_figureAt s m aa below meth c H locs 0 0 (MQ below qq aa s 0 0 A) (F0 m 23 ls [.int t0]) := by
    intro _ x1 x2 t0 H locs ls h hP hD hS hl
    unfold p_X4_figureAt_23 at h
    refine lv_istore_n (lv' := [(3, .int t0), (0, .ref (a0 0)), (1, .int x1), (2, .int x2)]) hx hb dX4_figureAt_23 rfl hl (by decide) rfl (fun ls hl => ?_)
    refine lv_iload_n hx hb dX4_figureAt_24 rfl (lv_at hl 0 rfl) ?_
    refine lv_if_eq (tgt := 41) hx hb dX4_figureAt_25 (by decide) (fun c1 => ?_) (fun c1 => ?_)
    · rw [if_pos c1] at h
      refine lv_iconst (v := (0 : Int32)) hx hb dX4_figureAt_41 (by decide) ?_
      exact W.iret (v := (0 : Int32)) hx hb hr (fun t ht hW => by rw [hqq]; have hh := Option.some.inj h; exact ⟨⟨(0 : Int32), (()), rfl, Option.some.inj h, by rw [ht]; exact hP, va_K.moved hW.alike hK⟩, hS.F ht⟩) hS.2.2 dX4_figureAt_42
    · rw [if_neg c1] at h
      refine lv_aload_n hx hb dX4_figureAt_28 rfl (lv_at hl 1 rfl) ?_
      refine va_get (D := (dC, dI)) (ci := 2) (v := .ref (a0 4)) (C := RX4) (T := TX4) (N := 6) hx hb hts in_X4 hown hK hP 0 rfl rfl 5 (by decide) lk0 (fun _ h9 => h9) rfl dX4_figureAt_29 ?_
      refine lv_iload_n hx hb dX4_figureAt_32 rfl (lv_at hl 2 rfl) ?_
      refine lv_iconst (v := (5 : Int32)) hx hb dX4_figureAt_33 (by decide) ?_
      refine lv_imul hx hb dX4_figureAt_34 ?_
      refine lv_iload_n hx hb dX4_figureAt_35 rfl (lv_at hl 3 rfl) ?_
      refine lv_iadd hx hb dX4_figureAt_36 ?_
      obtain ⟨hi2, h⟩ := ok_if h
      refine va_iald hx hb hK hP 4 1 rfl rfl (ix_in hi2) dX4_figureAt_37 ?_
      refine lv_goto (tgt := 42) hx hb dX4_figureAt_38 (by decide) ?_
      exact W.iret (v := (gd.2.2.2.2.2 ((x1 * (5 : Int32)) + x2).toNatClampNeg)) hx hb hr (fun t ht hW => by rw [hqq]; have hh := Option.some.inj h; exact ⟨⟨(gd.2.2.2.2.2 ((x1 * (5 : Int32)) + x2).toNatClampNeg), (()), rfl, Option.some.inj h, by rw [ht]; exact hP, va_K.moved hW.alike hK⟩, hS.F ht⟩) hS.2.2 dX4_figureAt_42
  have c22 : ∀ (_u : Unit), ∀ (x1 : Int32) (x2 : Int32) (H : Heap) (locs : List Loc) (ls : Array Slot), p_X4_figureAt_22 gd x1 x2 = some R0 → va_P (dC, dI) vwCl (w_X4_figureAt cy a0 gd) H → va_D A (w_X4_figureAt cy a0 gd) → va_S A s.heap H locs → lv_has ls 4 [(0, .ref (a0 0)), (1, .int x1), (2, .int x2)] → W p l e rm_X4_figureAt s m aa below meth c H locs 0 0 (MQ below qq aa s 0 0 A) (F0 m 22 ls []) := by
    intro _ x1 x2 H locs ls h hP hD hS hl
    unfold p_X4_figureAt_22 at h
    refine lv_iconst (v := (0 : Int32)) hx hb dX4_figureAt_22 (by decide) ?_
    exact c23 () x1 x2 (0 : Int32) H locs ls h hP hD hS (lv_sub hl [0, 1, 2] rfl)
  obtain ⟨H, hH⟩ : ∃ H : Heap, H = s.heap := ⟨_, rfl⟩
  obtain ⟨locs, hlocs⟩ : ∃ locs : List Loc, locs = [] := ⟨_, rfl⟩
  have hS : va_S A s.heap H locs := by rw [hH, hlocs]; exact hS
  rw [← hH] at hP
  suffices hg : W p l e rm_X4_figureAt s m aa below meth c H locs 0 0 (MQ below qq aa s 0 0 A) (F0 m 0 ls []) by subst hH; subst hlocs; exact hg
  unfold p_X4_figureAt at h
  refine lv_iload_n hx hb dX4_figureAt_0 rfl (lv_at hl 2 rfl) ?_
  refine lv_if_lt (tgt := 22) hx hb dX4_figureAt_1 (by decide) (fun c1 => ?_) (fun c1 => ?_)
  · rw [if_pos c1] at h
    exact c22 () x1 x2 H locs ls h hP hD hS (lv_sub hl [0, 1, 2] rfl)
  · rw [if_neg c1] at h
    refine lv_iload_n hx hb dX4_figureAt_4 rfl (lv_at hl 2 rfl) ?_
    refine lv_iconst (v := (5 : Int32)) hx hb dX4_figureAt_5 (by decide) ?_
    refine lv_icmp_ge (tgt := 22) hx hb dX4_figureAt_6 (by decide) (fun c2 => ?_) (fun c2 => ?_)
    · rw [if_pos c2] at h
      exact c22 () x1 x2 H locs ls h hP hD hS (lv_sub hl [0, 1, 2] rfl)
    · rw [if_neg c2] at h
      refine lv_iload_n hx hb dX4_figureAt_9 rfl (lv_at hl 2 rfl) ?_
      refine lv_aload_n hx hb dX4_figureAt_10 rfl (lv_at hl 0 rfl) ?_
      refine lv_iload_n hx hb dX4_figureAt_11 rfl (lv_at hl 1 rfl) ?_
      obtain ⟨v3, hv4, h⟩ := ok_bind h
      refine cl_vi (w2 := fun (_ : Unit) => w_X4_figureAt cy a0 gd) (As := [.int x1]) (rest := [.int x2]) ⟨hx, hb, hml, hown, hts⟩ (c_X4_lengthOf l dC dI cy a0 gd x1 H.size v3 hv4) (cwV 1 hts gX4_figureAt_X4_lengthOf rfl rfl rfl (by decide +kernel) ⟨Nat.le_of_ble_eq_true rfl, Nat.le_of_ble_eq_true rfl⟩) (va_recv hK hP (ci := 2) (q0 := 0) rfl rfl) cl_blind (cl_pre hK hP hD [0, 1, 2, 3, 4] (by decide) rfl) hP hD hS hA [0, 1, 2, 3, 4] rfl rfl hl.1 rfl (lv_room (Nat.le_of_ble_eq_true rfl)) dX4_figureAt_12 ⟨Nat.le_of_ble_eq_true rfl, Nat.le_of_ble_eq_true rfl⟩ ⟨rfl, rfl⟩ (fun _ => updR [0, 1, 2, 3, 4] rfl) (fun r u H locs hw hP hD hS => ?_)
      have hw := hw.symm
      subst hw
      have hP : va_P (dC, dI) vwCl (w_X4_figureAt cy a0 gd) H := hP
      have hD : va_D A (w_X4_figureAt cy a0 gd) := hD
      refine lv_icmp_ge (tgt := 22) hx hb dX4_figureAt_15 (by decide) (fun c5 => ?_) (fun c5 => ?_)
      · rw [if_pos c5] at h
        exact c22 () x1 x2 H locs ls h hP hD hS (lv_sub hl [0, 1, 2] rfl)
      · rw [if_neg c5] at h
        refine lv_iconst (v := (1 : Int32)) hx hb dX4_figureAt_18 (by decide) ?_
        refine lv_goto (tgt := 23) hx hb dX4_figureAt_19 (by decide) ?_
        exact c23 () x1 x2 (1 : Int32) H locs ls h hP hD hS (lv_sub hl [0, 1, 2] rfl)

abbrev w_X4_swapLenders (cy : Nat → ClassId) (a0 : Nat → Nat) (gd : Int32 × Int32 × (Nat → Int32) × (Nat → Int32) × (Nat → Int32) × (Nat → Int32)) : va_W := [(a0 0, .inr (2, [.int (gd.1), .int (gd.2.1), .ref (a0 1), .ref (a0 2), .ref (a0 3), .ref (a0 4)])), (a0 1, .inl (cy 1, 10, .inl (gd.2.2.1))), (a0 2, .inl (cy 1, 10, .inl (gd.2.2.2.1))), (a0 3, .inl (cy 1, 10, .inl (gd.2.2.2.2.1))), (a0 4, .inl (cy 1, 50, .inl (gd.2.2.2.2.2)))]
abbrev rm_X4_swapLenders : Room := { frames := 1, cells := 0, slots := 0, locals := 21 }
set_option maxHeartbeats 1000000 in
set_option maxRecDepth 100000 in
theorem c_X4_swapLenders (l : Launch) (dC : Nat → ClassId) (dI : Nat → Nat → Nat) (cy : Nat → ClassId) (a0 : Nat → Nat) (gd : Int32 × Int32 × (Nat → Int32) × (Nat → Int32) × (Nat → Int32) × (Nat → Int32)) (x1 : Int32) (x2 : Int32) (sz : Nat) (R0 : Int32 × (Int32 × Int32 × (Nat → Int32) × (Nat → Int32) × (Nat → Int32) × (Nat → Int32))) (h : p_X4_swapLenders gd x1 x2 = some R0) : Met l yX4_swapLenders wsX4_swapLenders rm_X4_swapLenders (va_Pc [.ref (a0 0), .int x1, .int x2] (prC dC dI cy (w_X4_swapLenders cy a0 gd) sz)) (va_Qi (fun (r : Int32) (u : (Int32 × Int32 × (Nat → Int32) × (Nat → Int32) × (Nat → Int32) × (Nat → Int32))) => r = R0.1 ∧ u = R0.2) (fun (u : (Int32 × Int32 × (Nat → Int32) × (Nat → Int32) × (Nat → Int32) × (Nat → Int32))) t => poC dC dI cy (w_X4_swapLenders cy a0 u) t) (va_A (w_X4_swapLenders cy a0 gd) sz)) 0 0 (va_A (w_X4_swapLenders cy a0 gd) sz) := by
  refine Met.ofW (cc := cX4_swapLenders) (maxL := 4) (ret := (some .boolean)) (by decide) rfl ?_
  intro p e s m aa below meth c s₁ B hml hv
  obtain ⟨haa, hsz, hP, hK, hD0⟩ := hv
  have hx := B.exec
  have hb := B.bytes
  have hr := B.returns
  have hts := atoms_spec (ws := wsX4_swapLenders) B.pre
  have hown : s.vm.findClass RX4 = some m.cls := findClass_of_methodNamed B.named
  have hlocks := B.notSynchronized
  subst hsz
  have hD := hD0.self (sz := s.heap.size)
  obtain ⟨qq, hqq⟩ : ∃ qq, qq = (va_Qi (fun (r : Int32) (u : (Int32 × Int32 × (Nat → Int32) × (Nat → Int32) × (Nat → Int32) × (Nat → Int32))) => r = R0.1 ∧ u = R0.2) (fun (u : (Int32 × Int32 × (Nat → Int32) × (Nat → Int32) × (Nat → Int32) × (Nat → Int32))) t => poC dC dI cy (w_X4_swapLenders cy a0 u) t) (va_A (w_X4_swapLenders cy a0 gd) s.heap.size)) := ⟨_, rfl⟩
  rw [← hqq]
  generalize hAe : va_A (w_X4_swapLenders cy a0 gd) s.heap.size = A at hD hqq ⊢
  have hA : ∀ q : Nat, s.heap.size ≤ q → A q := fun q h => by rw [← hAe]; exact Or.inr h
  have hS : va_S A s.heap s.heap [] := va_S.rf
  have hl := lv_entry ([.ref (a0 0), .int x1, .int x2]) (n := 4) (Nat.le_of_ble_eq_true rfl)
  have hE : entryFrame m aa 4 = F0 m 0 ((lg_sl ([.ref (a0 0), .int x1, .int x2]) ++ List.replicate (4 - (lg_sl ([.ref (a0 0), .int x1, .int x2])).length) Slot.unset).toArray) [] := by rw [haa]; exact lg_entry_eq m _ 4
  refine W.eq hE ?_
  generalize (lg_sl ([.ref (a0 0), .int x1, .int x2]) ++ List.replicate (4 - (lg_sl ([.ref (a0 0), .int x1, .int x2])).length) Slot.unset).toArray = ls at hl ⊢
  have hl : lv_has ls 4 [(0, .ref (a0 0)), (1, .int x1), (2, .int x2)] := hl
  change W p l e rm_X4_swapLenders s m aa below meth c s.heap [] 0 0 (MQ below qq aa s 0 0 A) (F0 m 0 ls [])
  have hS0 := hS
  have lk0 := hts (.fieldLink RX4 9 "GoatDoors$Doors" "debtors" "[I") (by decide +kernel)
  have lk1 := hts (.fieldLink RX4 15 "GoatDoors$Doors" "lenders" "[I") (by decide +kernel)
  have in_X4 : ∀ w ∈ wsX40, w ∈ wsX4_swapLenders := by decide +kernel
  obtain ⟨H, hH⟩ : ∃ H : Heap, H = s.heap := ⟨_, rfl⟩
  obtain ⟨locs, hlocs⟩ : ∃ locs : List Loc, locs = [] := ⟨_, rfl⟩
  have hS : va_S A s.heap H locs := by rw [hH, hlocs]; exact hS
  rw [← hH] at hP
  suffices hg : W p l e rm_X4_swapLenders s m aa below meth c H locs 0 0 (MQ below qq aa s 0 0 A) (F0 m 0 ls []) by subst hH; subst hlocs; exact hg
  unfold p_X4_swapLenders at h
  refine lv_aload_n hx hb dX4_swapLenders_0 rfl (lv_at hl 0 rfl) ?_
  refine lv_iload_n hx hb dX4_swapLenders_1 rfl (lv_at hl 1 rfl) ?_
  obtain ⟨v1, hv2, h⟩ := ok_bind h
  refine cl_vi (w2 := fun (_ : Unit) => w_X4_swapLenders cy a0 gd) (As := [.int x1]) (rest := []) ⟨hx, hb, hml, hown, hts⟩ (c_X4_has l dC dI cy a0 gd x1 H.size v1 hv2) (cwV 1 hts gX4_swapLenders_X4_has rfl rfl rfl (by decide +kernel) ⟨Nat.le_of_ble_eq_true rfl, Nat.le_of_ble_eq_true rfl⟩) (va_recv hK hP (ci := 2) (q0 := 0) rfl rfl) cl_blind (cl_pre hK hP hD [0, 1, 2, 3, 4] (by decide) rfl) hP hD hS hA [0, 1, 2, 3, 4] rfl rfl hl.1 rfl (lv_room (Nat.le_of_ble_eq_true rfl)) dX4_swapLenders_2 ⟨Nat.le_of_ble_eq_true rfl, Nat.le_of_ble_eq_true rfl⟩ ⟨rfl, rfl⟩ (fun _ => updR [0, 1, 2, 3, 4] rfl) (fun r u H locs hw hP hD hS => ?_)
  have hw := hw.symm
  subst hw
  have hP : va_P (dC, dI) vwCl (w_X4_swapLenders cy a0 gd) H := hP
  have hD : va_D A (w_X4_swapLenders cy a0 gd) := hD
  refine lv_if_eq (tgt := 46) hx hb dX4_swapLenders_5 (by decide) (fun c3 => ?_) (fun c3 => ?_)
  · rw [if_pos c3] at h
    refine lv_iconst (v := (0 : Int32)) hx hb dX4_swapLenders_46 (by decide) ?_
    exact W.zret (v := (0 : Int32)) (ty := .boolean) hx hb hr rfl (fun t ht hW => by rw [hqq]; have hh := Option.some.inj h; exact ⟨⟨(0 : Int32), (gd), rfl, ⟨fst_of hh, snd_of hh⟩, by rw [ht]; exact hP, va_K.moved hW.alike hK⟩, hS.F ht⟩) hS.2.2 dX4_swapLenders_47
  · rw [if_neg c3] at h
    refine lv_aload_n hx hb dX4_swapLenders_8 rfl (lv_at hl 0 rfl) ?_
    refine lv_iload_n hx hb dX4_swapLenders_9 rfl (lv_at hl 2 rfl) ?_
    obtain ⟨v4, hv5, h⟩ := ok_bind h
    refine cl_vi (w2 := fun (_ : Unit) => w_X4_swapLenders cy a0 gd) (As := [.int x2]) (rest := []) ⟨hx, hb, hml, hown, hts⟩ (c_X4_has l dC dI cy a0 gd x2 H.size v4 hv5) (cwV 1 hts gX4_swapLenders_X4_has rfl rfl rfl (by decide +kernel) ⟨Nat.le_of_ble_eq_true rfl, Nat.le_of_ble_eq_true rfl⟩) (va_recv hK hP (ci := 2) (q0 := 0) rfl rfl) cl_blind (cl_pre hK hP hD [0, 1, 2, 3, 4] (by decide) rfl) hP hD hS hA [0, 1, 2, 3, 4] rfl rfl hl.1 rfl (lv_room (Nat.le_of_ble_eq_true rfl)) dX4_swapLenders_10 ⟨Nat.le_of_ble_eq_true rfl, Nat.le_of_ble_eq_true rfl⟩ ⟨rfl, rfl⟩ (fun _ => updR [0, 1, 2, 3, 4] rfl) (fun r u H locs hw hP hD hS => ?_)
    have hw := hw.symm
    subst hw
    have hP : va_P (dC, dI) vwCl (w_X4_swapLenders cy a0 gd) H := hP
    have hD : va_D A (w_X4_swapLenders cy a0 gd) := hD
    refine lv_if_eq (tgt := 46) hx hb dX4_swapLenders_13 (by decide) (fun c6 => ?_) (fun c6 => ?_)
    · rw [if_pos c6] at h
      refine lv_iconst (v := (0 : Int32)) hx hb dX4_swapLenders_46 (by decide) ?_
      exact W.zret (v := (0 : Int32)) (ty := .boolean) hx hb hr rfl (fun t ht hW => by rw [hqq]; have hh := Option.some.inj h; exact ⟨⟨(0 : Int32), (gd), rfl, ⟨fst_of hh, snd_of hh⟩, by rw [ht]; exact hP, va_K.moved hW.alike hK⟩, hS.F ht⟩) hS.2.2 dX4_swapLenders_47
    · rw [if_neg c6] at h
      refine lv_aload_n hx hb dX4_swapLenders_16 rfl (lv_at hl 0 rfl) ?_
      refine va_get (D := (dC, dI)) (ci := 2) (v := .ref (a0 1)) (C := RX4) (T := TX4) (N := 6) hx hb hts in_X4 hown hK hP 0 rfl rfl 2 (by decide) lk0 (fun _ h9 => h9) rfl dX4_swapLenders_17 ?_
      refine lv_iload_n hx hb dX4_swapLenders_20 rfl (lv_at hl 1 rfl) ?_
      obtain ⟨hi7, h⟩ := ok_if h
      refine va_iald hx hb hK hP 1 1 rfl rfl (ix_in hi7) dX4_swapLenders_21 ?_
      refine lv_aload_n hx hb dX4_swapLenders_22 rfl (lv_at hl 0 rfl) ?_
      refine va_get (D := (dC, dI)) (ci := 2) (v := .ref (a0 2)) (C := RX4) (T := TX4) (N := 6) hx hb hts in_X4 hown hK hP 0 rfl rfl 3 (by decide) lk1 (fun _ h9 => h9) rfl dX4_swapLenders_23 ?_
      refine lv_iload_n hx hb dX4_swapLenders_26 rfl (lv_at hl 2 rfl) ?_
      obtain ⟨hi8, h⟩ := ok_if h
      refine va_iald hx hb hK hP 2 1 rfl rfl (ix_in hi8) dX4_swapLenders_27 ?_
      refine lv_icmp_eq (tgt := 46) hx hb dX4_swapLenders_28 (by decide) (fun c9 => ?_) (fun c9 => ?_)
      · rw [if_pos c9] at h
        refine lv_iconst (v := (0 : Int32)) hx hb dX4_swapLenders_46 (by decide) ?_
        exact W.zret (v := (0 : Int32)) (ty := .boolean) hx hb hr rfl (fun t ht hW => by rw [hqq]; have hh := Option.some.inj h; exact ⟨⟨(0 : Int32), (gd), rfl, ⟨fst_of hh, snd_of hh⟩, by rw [ht]; exact hP, va_K.moved hW.alike hK⟩, hS.F ht⟩) hS.2.2 dX4_swapLenders_47
      · rw [if_neg c9] at h
        refine lv_aload_n hx hb dX4_swapLenders_31 rfl (lv_at hl 0 rfl) ?_
        refine va_get (D := (dC, dI)) (ci := 2) (v := .ref (a0 1)) (C := RX4) (T := TX4) (N := 6) hx hb hts in_X4 hown hK hP 0 rfl rfl 2 (by decide) lk0 (fun _ h9 => h9) rfl dX4_swapLenders_32 ?_
        refine lv_iload_n hx hb dX4_swapLenders_35 rfl (lv_at hl 2 rfl) ?_
        obtain ⟨hi10, h⟩ := ok_if h
        refine va_iald hx hb hK hP 1 1 rfl rfl (ix_in hi10) dX4_swapLenders_36 ?_
        refine lv_aload_n hx hb dX4_swapLenders_37 rfl (lv_at hl 0 rfl) ?_
        refine va_get (D := (dC, dI)) (ci := 2) (v := .ref (a0 2)) (C := RX4) (T := TX4) (N := 6) hx hb hts in_X4 hown hK hP 0 rfl rfl 3 (by decide) lk1 (fun _ h9 => h9) rfl dX4_swapLenders_38 ?_
        refine lv_iload_n hx hb dX4_swapLenders_41 rfl (lv_at hl 1 rfl) ?_
        obtain ⟨hi11, h⟩ := ok_if h
        refine va_iald hx hb hK hP 2 1 rfl rfl (ix_in hi11) dX4_swapLenders_42 ?_
        refine lv_icmp_ne (tgt := 48) hx hb dX4_swapLenders_43 (by decide) (fun c12 => ?_) (fun c12 => ?_)
        · rw [if_neg c12] at h
          refine lv_aload_n hx hb dX4_swapLenders_48 rfl (lv_at hl 0 rfl) ?_
          refine va_get (D := (dC, dI)) (ci := 2) (v := .ref (a0 2)) (C := RX4) (T := TX4) (N := 6) hx hb hts in_X4 hown hK hP 0 rfl rfl 3 (by decide) lk1 (fun _ h9 => h9) rfl dX4_swapLenders_49 ?_
          refine lv_iload_n hx hb dX4_swapLenders_52 rfl (lv_at hl 1 rfl) ?_
          obtain ⟨hi13, h⟩ := ok_if h
          refine va_iald hx hb hK hP 2 1 rfl rfl (ix_in hi13) dX4_swapLenders_53 ?_
          refine lv_istore_n (lv' := [(3, .int (gd.2.2.2.1 x1.toNatClampNeg)), (0, .ref (a0 0)), (1, .int x1), (2, .int x2)]) hx hb dX4_swapLenders_54 rfl hl (by decide) rfl (fun ls hl => ?_)
          refine lv_aload_n hx hb dX4_swapLenders_55 rfl (lv_at hl 1 rfl) ?_
          refine va_get (D := (dC, dI)) (ci := 2) (v := .ref (a0 2)) (C := RX4) (T := TX4) (N := 6) hx hb hts in_X4 hown hK hP 0 rfl rfl 3 (by decide) lk1 (fun _ h9 => h9) rfl dX4_swapLenders_56 ?_
          refine lv_iload_n hx hb dX4_swapLenders_59 rfl (lv_at hl 2 rfl) ?_
          refine lv_aload_n hx hb dX4_swapLenders_60 rfl (lv_at hl 1 rfl) ?_
          refine va_get (D := (dC, dI)) (ci := 2) (v := .ref (a0 2)) (C := RX4) (T := TX4) (N := 6) hx hb hts in_X4 hown hK hP 0 rfl rfl 3 (by decide) lk1 (fun _ h9 => h9) rfl dX4_swapLenders_61 ?_
          refine lv_iload_n hx hb dX4_swapLenders_64 rfl (lv_at hl 3 rfl) ?_
          obtain ⟨hi14, h⟩ := ok_if h
          refine va_iald hx hb hK hP 2 1 rfl rfl (ix_in hi14) dX4_swapLenders_65 ?_
          obtain ⟨hi15, h⟩ := ok_if h
          refine va_iast hx hb hK hP hD hS 2 1 rfl rfl (ix_in hi15) dX4_swapLenders_66 (fun H locs hP hD hS => ?_)
          have hP : va_P (dC, dI) vwCl (w_X4_swapLenders cy a0 ((gd.1, gd.2.1, gd.2.2.1, (upd gd.2.2.2.1 x1.toNatClampNeg (gd.2.2.2.1 x2.toNatClampNeg)), gd.2.2.2.2))) H := hP
          have hD : va_D A (w_X4_swapLenders cy a0 ((gd.1, gd.2.1, gd.2.2.1, (upd gd.2.2.2.1 x1.toNatClampNeg (gd.2.2.2.1 x2.toNatClampNeg)), gd.2.2.2.2))) := hD
          refine lv_aload_n hx hb dX4_swapLenders_67 rfl (lv_at hl 1 rfl) ?_
          refine va_get (D := (dC, dI)) (ci := 2) (v := .ref (a0 2)) (C := RX4) (T := TX4) (N := 6) hx hb hts in_X4 hown hK hP 0 rfl rfl 3 (by decide) lk1 (fun _ h9 => h9) rfl dX4_swapLenders_68 ?_
          refine lv_iload_n hx hb dX4_swapLenders_71 rfl (lv_at hl 3 rfl) ?_
          refine lv_iload_n hx hb dX4_swapLenders_72 rfl (lv_at hl 0 rfl) ?_
          obtain ⟨hi16, h⟩ := ok_if h
          refine va_iast hx hb hK hP hD hS 2 1 rfl rfl (ix_in hi16) dX4_swapLenders_73 (fun H locs hP hD hS => ?_)
          have hP : va_P (dC, dI) vwCl (w_X4_swapLenders cy a0 ((gd.1, gd.2.1, gd.2.2.1, (upd (upd gd.2.2.2.1 x1.toNatClampNeg (gd.2.2.2.1 x2.toNatClampNeg)) x2.toNatClampNeg (gd.2.2.2.1 x1.toNatClampNeg)), gd.2.2.2.2))) H := hP
          have hD : va_D A (w_X4_swapLenders cy a0 ((gd.1, gd.2.1, gd.2.2.1, (upd (upd gd.2.2.2.1 x1.toNatClampNeg (gd.2.2.2.1 x2.toNatClampNeg)) x2.toNatClampNeg (gd.2.2.2.1 x1.toNatClampNeg)), gd.2.2.2.2))) := hD
          refine lv_iconst (v := (1 : Int32)) hx hb dX4_swapLenders_74 (by decide) ?_
          exact W.zret (v := (1 : Int32)) (ty := .boolean) hx hb hr rfl (fun t ht hW => by rw [hqq]; have hh := Option.some.inj h; exact ⟨⟨(1 : Int32), ((gd.1, gd.2.1, gd.2.2.1, (upd (upd gd.2.2.2.1 x1.toNatClampNeg (gd.2.2.2.1 x2.toNatClampNeg)) x2.toNatClampNeg (gd.2.2.2.1 x1.toNatClampNeg)), gd.2.2.2.2)), rfl, ⟨fst_of hh, snd_of hh⟩, by rw [ht]; exact hP, va_K.moved hW.alike hK⟩, hS.F ht⟩) hS.2.2 dX4_swapLenders_75
        · rw [if_pos c12] at h
          refine lv_iconst (v := (0 : Int32)) hx hb dX4_swapLenders_46 (by decide) ?_
          exact W.zret (v := (0 : Int32)) (ty := .boolean) hx hb hr rfl (fun t ht hW => by rw [hqq]; have hh := Option.some.inj h; exact ⟨⟨(0 : Int32), (gd), rfl, ⟨fst_of hh, snd_of hh⟩, by rw [ht]; exact hP, va_K.moved hW.alike hK⟩, hS.F ht⟩) hS.2.2 dX4_swapLenders_47

abbrev w_X4_rub (cy : Nat → ClassId) (a0 : Nat → Nat) (gd : Int32 × Int32 × (Nat → Int32) × (Nat → Int32) × (Nat → Int32) × (Nat → Int32)) : va_W := [(a0 0, .inr (2, [.int (gd.1), .int (gd.2.1), .ref (a0 1), .ref (a0 2), .ref (a0 3), .ref (a0 4)])), (a0 1, .inl (cy 1, 10, .inl (gd.2.2.1))), (a0 2, .inl (cy 1, 10, .inl (gd.2.2.2.1))), (a0 3, .inl (cy 1, 10, .inl (gd.2.2.2.2.1))), (a0 4, .inl (cy 1, 50, .inl (gd.2.2.2.2.2)))]
abbrev rm_X4_rub : Room := { frames := 1, cells := 0, slots := 0, locals := 21 }
set_option maxHeartbeats 1000000 in
set_option maxRecDepth 100000 in
theorem c_X4_rub (l : Launch) (dC : Nat → ClassId) (dI : Nat → Nat → Nat) (cy : Nat → ClassId) (a0 : Nat → Nat) (gd : Int32 × Int32 × (Nat → Int32) × (Nat → Int32) × (Nat → Int32) × (Nat → Int32)) (x1 : Int32) (sz : Nat) (R0 : Int32 × (Int32 × Int32 × (Nat → Int32) × (Nat → Int32) × (Nat → Int32) × (Nat → Int32))) (h : p_X4_rub gd x1 = some R0) : Met l yX4_rub wsX4_rub rm_X4_rub (va_Pc [.ref (a0 0), .int x1] (prC dC dI cy (w_X4_rub cy a0 gd) sz)) (va_Qi (fun (r : Int32) (u : (Int32 × Int32 × (Nat → Int32) × (Nat → Int32) × (Nat → Int32) × (Nat → Int32))) => r = R0.1 ∧ u = R0.2) (fun (u : (Int32 × Int32 × (Nat → Int32) × (Nat → Int32) × (Nat → Int32) × (Nat → Int32))) t => poC dC dI cy (w_X4_rub cy a0 u) t) (va_A (w_X4_rub cy a0 gd) sz)) 0 0 (va_A (w_X4_rub cy a0 gd) sz) := by
  refine Met.ofW (cc := cX4_rub) (maxL := 2) (ret := (some .boolean)) (by decide) rfl ?_
  intro p e s m aa below meth c s₁ B hml hv
  obtain ⟨haa, hsz, hP, hK, hD0⟩ := hv
  have hx := B.exec
  have hb := B.bytes
  have hr := B.returns
  have hts := atoms_spec (ws := wsX4_rub) B.pre
  have hown : s.vm.findClass RX4 = some m.cls := findClass_of_methodNamed B.named
  have hlocks := B.notSynchronized
  subst hsz
  have hD := hD0.self (sz := s.heap.size)
  obtain ⟨qq, hqq⟩ : ∃ qq, qq = (va_Qi (fun (r : Int32) (u : (Int32 × Int32 × (Nat → Int32) × (Nat → Int32) × (Nat → Int32) × (Nat → Int32))) => r = R0.1 ∧ u = R0.2) (fun (u : (Int32 × Int32 × (Nat → Int32) × (Nat → Int32) × (Nat → Int32) × (Nat → Int32))) t => poC dC dI cy (w_X4_rub cy a0 u) t) (va_A (w_X4_rub cy a0 gd) s.heap.size)) := ⟨_, rfl⟩
  rw [← hqq]
  generalize hAe : va_A (w_X4_rub cy a0 gd) s.heap.size = A at hD hqq ⊢
  have hA : ∀ q : Nat, s.heap.size ≤ q → A q := fun q h => by rw [← hAe]; exact Or.inr h
  have hS : va_S A s.heap s.heap [] := va_S.rf
  have hl := lv_entry ([.ref (a0 0), .int x1]) (n := 2) (Nat.le_of_ble_eq_true rfl)
  have hE : entryFrame m aa 2 = F0 m 0 ((lg_sl ([.ref (a0 0), .int x1]) ++ List.replicate (2 - (lg_sl ([.ref (a0 0), .int x1])).length) Slot.unset).toArray) [] := by rw [haa]; exact lg_entry_eq m _ 2
  refine W.eq hE ?_
  generalize (lg_sl ([.ref (a0 0), .int x1]) ++ List.replicate (2 - (lg_sl ([.ref (a0 0), .int x1])).length) Slot.unset).toArray = ls at hl ⊢
  have hl : lv_has ls 2 [(0, .ref (a0 0)), (1, .int x1)] := hl
  change W p l e rm_X4_rub s m aa below meth c s.heap [] 0 0 (MQ below qq aa s 0 0 A) (F0 m 0 ls [])
  have hS0 := hS
  have lk0 := hts (.fieldLink RX4 28 "GoatDoors$Doors" "bits" "I") (by decide +kernel)
  have in_X4 : ∀ w ∈ wsX40, w ∈ wsX4_rub := by decide +kernel
  obtain ⟨H, hH⟩ : ∃ H : Heap, H = s.heap := ⟨_, rfl⟩
  obtain ⟨locs, hlocs⟩ : ∃ locs : List Loc, locs = [] := ⟨_, rfl⟩
  have hS : va_S A s.heap H locs := by rw [hH, hlocs]; exact hS
  rw [← hH] at hP
  suffices hg : W p l e rm_X4_rub s m aa below meth c H locs 0 0 (MQ below qq aa s 0 0 A) (F0 m 0 ls []) by subst hH; subst hlocs; exact hg
  unfold p_X4_rub at h
  refine lv_aload_n hx hb dX4_rub_0 rfl (lv_at hl 0 rfl) ?_
  refine lv_iload_n hx hb dX4_rub_1 rfl (lv_at hl 1 rfl) ?_
  obtain ⟨v1, hv2, h⟩ := ok_bind h
  refine cl_vi (w2 := fun (_ : Unit) => w_X4_rub cy a0 gd) (As := [.int x1]) (rest := []) ⟨hx, hb, hml, hown, hts⟩ (c_X4_has l dC dI cy a0 gd x1 H.size v1 hv2) (cwV 1 hts gX4_rub_X4_has rfl rfl rfl (by decide +kernel) ⟨Nat.le_of_ble_eq_true rfl, Nat.le_of_ble_eq_true rfl⟩) (va_recv hK hP (ci := 2) (q0 := 0) rfl rfl) cl_blind (cl_pre hK hP hD [0, 1, 2, 3, 4] (by decide) rfl) hP hD hS hA [0, 1, 2, 3, 4] rfl rfl hl.1 rfl (lv_room (Nat.le_of_ble_eq_true rfl)) dX4_rub_2 ⟨Nat.le_of_ble_eq_true rfl, Nat.le_of_ble_eq_true rfl⟩ ⟨rfl, rfl⟩ (fun _ => updR [0, 1, 2, 3, 4] rfl) (fun r u H locs hw hP hD hS => ?_)
  have hw := hw.symm
  subst hw
  have hP : va_P (dC, dI) vwCl (w_X4_rub cy a0 gd) H := hP
  have hD : va_D A (w_X4_rub cy a0 gd) := hD
  refine lv_if_ne (tgt := 10) hx hb dX4_rub_5 (by decide) (fun c3 => ?_) (fun c3 => ?_)
  · rw [if_neg c3] at h
    refine lv_aload_n hx hb dX4_rub_10 rfl (lv_at hl 0 rfl) ?_
    refine lv_dup hx hb dX4_rub_11 rfl ?_
    refine va_get (D := (dC, dI)) (ci := 2) (v := .int gd.2.1) (C := RX4) (T := TX4) (N := 6) hx hb hts in_X4 hown hK hP 0 rfl rfl 1 (by decide) lk0 (fun _ h9 => h9) rfl dX4_rub_12 ?_
    refine lv_iconst (v := (1 : Int32)) hx hb dX4_rub_15 (by decide) ?_
    refine lv_iload_n hx hb dX4_rub_16 rfl (lv_at hl 1 rfl) ?_
    refine lv_ishl hx hb dX4_rub_17 ?_
    refine lv_iconst (v := (-1 : Int32)) hx hb dX4_rub_18 (by decide) ?_
    refine lv_ixor hx hb dX4_rub_19 ?_
    refine lv_iand hx hb dX4_rub_20 ?_
    refine va_put (D := (dC, dI)) (ci := 2) (v := .int (gd.2.1 &&& (((1 : Int32) <<< (x1 &&& 31)) ^^^ (-1 : Int32)))) (ty := .int) (C := RX4) (T := TX4) (N := 6) hx hb hts in_X4 tyX4 tyX4_ok nmX4 hown hK hP hD hS 0 rfl rfl 1 (by decide) lk0 (fun _ h9 => h9) rfl (by decide +kernel) rfl rfl (Nat.le_of_ble_eq_true rfl) dX4_rub_21 (fun H locs hP hD hS => ?_)
    have hP : va_P (dC, dI) vwCl (w_X4_rub cy a0 ((gd.1, (gd.2.1 &&& (((1 : Int32) <<< (x1 &&& 31)) ^^^ (-1 : Int32))), gd.2.2))) H := hP
    have hD : va_D A (w_X4_rub cy a0 ((gd.1, (gd.2.1 &&& (((1 : Int32) <<< (x1 &&& 31)) ^^^ (-1 : Int32))), gd.2.2))) := hD
    refine lv_iconst (v := (1 : Int32)) hx hb dX4_rub_24 (by decide) ?_
    exact W.zret (v := (1 : Int32)) (ty := .boolean) hx hb hr rfl (fun t ht hW => by rw [hqq]; have hh := Option.some.inj h; exact ⟨⟨(1 : Int32), ((gd.1, (gd.2.1 &&& (((1 : Int32) <<< (x1 &&& 31)) ^^^ (-1 : Int32))), gd.2.2)), rfl, ⟨fst_of hh, snd_of hh⟩, by rw [ht]; exact hP, va_K.moved hW.alike hK⟩, hS.F ht⟩) hS.2.2 dX4_rub_25
  · rw [if_pos c3] at h
    refine lv_iconst (v := (0 : Int32)) hx hb dX4_rub_8 (by decide) ?_
    exact W.zret (v := (0 : Int32)) (ty := .boolean) hx hb hr rfl (fun t ht hW => by rw [hqq]; have hh := Option.some.inj h; exact ⟨⟨(0 : Int32), (gd), rfl, ⟨fst_of hh, snd_of hh⟩, by rw [ht]; exact hP, va_K.moved hW.alike hK⟩, hS.F ht⟩) hS.2.2 dX4_rub_9

abbrev w_X4_empty (cy : Nat → ClassId) (a0 : Nat → Nat) (gd : Int32 × Int32 × (Nat → Int32) × (Nat → Int32) × (Nat → Int32) × (Nat → Int32)) : va_W := [(a0 0, .inr (2, [.int (gd.1), .int (gd.2.1), .ref (a0 1), .ref (a0 2), .ref (a0 3), .ref (a0 4)])), (a0 1, .inl (cy 1, 10, .inl (gd.2.2.1))), (a0 2, .inl (cy 1, 10, .inl (gd.2.2.2.1))), (a0 3, .inl (cy 1, 10, .inl (gd.2.2.2.2.1))), (a0 4, .inl (cy 1, 50, .inl (gd.2.2.2.2.2)))]
abbrev rm_X4_empty : Room := { frames := 0, cells := 0, slots := 0, locals := 0 }
set_option maxHeartbeats 1000000 in
set_option maxRecDepth 100000 in
theorem c_X4_empty (l : Launch) (dC : Nat → ClassId) (dI : Nat → Nat → Nat) (cy : Nat → ClassId) (a0 : Nat → Nat) (gd : Int32 × Int32 × (Nat → Int32) × (Nat → Int32) × (Nat → Int32) × (Nat → Int32)) (sz : Nat) (R0 : (Int32 × Int32 × (Nat → Int32) × (Nat → Int32) × (Nat → Int32) × (Nat → Int32))) (h : p_X4_empty gd = some R0) : Met l yX4_empty wsX4_empty rm_X4_empty (va_Pc [.ref (a0 0)] (prC dC dI cy (w_X4_empty cy a0 gd) sz)) (va_Qv (fun (u : (Int32 × Int32 × (Nat → Int32) × (Nat → Int32) × (Nat → Int32) × (Nat → Int32))) => u = R0) (fun (u : (Int32 × Int32 × (Nat → Int32) × (Nat → Int32) × (Nat → Int32) × (Nat → Int32))) t => poC dC dI cy (w_X4_empty cy a0 u) t) (va_A (w_X4_empty cy a0 gd) sz)) 0 0 (va_A (w_X4_empty cy a0 gd) sz) := by
  refine Met.ofW (cc := cX4_empty) (maxL := 1) (ret := none) (by decide) rfl ?_
  intro p e s m aa below meth c s₁ B hml hv
  obtain ⟨haa, hsz, hP, hK, hD0⟩ := hv
  have hx := B.exec
  have hb := B.bytes
  have hr := B.returns
  have hts := atoms_spec (ws := wsX4_empty) B.pre
  have hown : s.vm.findClass RX4 = some m.cls := findClass_of_methodNamed B.named
  have hlocks := B.notSynchronized
  subst hsz
  have hD := hD0.self (sz := s.heap.size)
  obtain ⟨qq, hqq⟩ : ∃ qq, qq = (va_Qv (fun (u : (Int32 × Int32 × (Nat → Int32) × (Nat → Int32) × (Nat → Int32) × (Nat → Int32))) => u = R0) (fun (u : (Int32 × Int32 × (Nat → Int32) × (Nat → Int32) × (Nat → Int32) × (Nat → Int32))) t => poC dC dI cy (w_X4_empty cy a0 u) t) (va_A (w_X4_empty cy a0 gd) s.heap.size)) := ⟨_, rfl⟩
  rw [← hqq]
  generalize hAe : va_A (w_X4_empty cy a0 gd) s.heap.size = A at hD hqq ⊢
  have hA : ∀ q : Nat, s.heap.size ≤ q → A q := fun q h => by rw [← hAe]; exact Or.inr h
  have hS : va_S A s.heap s.heap [] := va_S.rf
  have hl := lv_entry ([.ref (a0 0)]) (n := 1) (Nat.le_of_ble_eq_true rfl)
  have hE : entryFrame m aa 1 = F0 m 0 ((lg_sl ([.ref (a0 0)]) ++ List.replicate (1 - (lg_sl ([.ref (a0 0)])).length) Slot.unset).toArray) [] := by rw [haa]; exact lg_entry_eq m _ 1
  refine W.eq hE ?_
  generalize (lg_sl ([.ref (a0 0)]) ++ List.replicate (1 - (lg_sl ([.ref (a0 0)])).length) Slot.unset).toArray = ls at hl ⊢
  have hl : lv_has ls 1 [(0, .ref (a0 0))] := hl
  change W p l e rm_X4_empty s m aa below meth c s.heap [] 0 0 (MQ below qq aa s 0 0 A) (F0 m 0 ls [])
  have hS0 := hS
  have lk0 := hts (.fieldLink RX4 24 "GoatDoors$Doors" "law" "I") (by decide +kernel)
  have lk1 := hts (.fieldLink RX4 28 "GoatDoors$Doors" "bits" "I") (by decide +kernel)
  have in_X4 : ∀ w ∈ wsX40, w ∈ wsX4_empty := by decide +kernel
  obtain ⟨H, hH⟩ : ∃ H : Heap, H = s.heap := ⟨_, rfl⟩
  obtain ⟨locs, hlocs⟩ : ∃ locs : List Loc, locs = [] := ⟨_, rfl⟩
  have hS : va_S A s.heap H locs := by rw [hH, hlocs]; exact hS
  rw [← hH] at hP
  suffices hg : W p l e rm_X4_empty s m aa below meth c H locs 0 0 (MQ below qq aa s 0 0 A) (F0 m 0 ls []) by subst hH; subst hlocs; exact hg
  unfold p_X4_empty at h
  refine lv_aload_n hx hb dX4_empty_0 rfl (lv_at hl 0 rfl) ?_
  refine lv_iconst (v := (0 : Int32)) hx hb dX4_empty_1 (by decide) ?_
  refine va_put (D := (dC, dI)) (ci := 2) (v := .int (0 : Int32)) (ty := .int) (C := RX4) (T := TX4) (N := 6) hx hb hts in_X4 tyX4 tyX4_ok nmX4 hown hK hP hD hS 0 rfl rfl 0 (by decide) lk0 (fun _ h9 => h9) rfl (by decide +kernel) rfl rfl (Nat.le_of_ble_eq_true rfl) dX4_empty_2 (fun H locs hP hD hS => ?_)
  have hP : va_P (dC, dI) vwCl (w_X4_empty cy a0 (((0 : Int32), gd.2))) H := hP
  have hD : va_D A (w_X4_empty cy a0 (((0 : Int32), gd.2))) := hD
  refine lv_aload_n hx hb dX4_empty_5 rfl (lv_at hl 0 rfl) ?_
  refine lv_iconst (v := (0 : Int32)) hx hb dX4_empty_6 (by decide) ?_
  refine va_put (D := (dC, dI)) (ci := 2) (v := .int (0 : Int32)) (ty := .int) (C := RX4) (T := TX4) (N := 6) hx hb hts in_X4 tyX4 tyX4_ok nmX4 hown hK hP hD hS 0 rfl rfl 1 (by decide) lk1 (fun _ h9 => h9) rfl (by decide +kernel) rfl rfl (Nat.le_of_ble_eq_true rfl) dX4_empty_7 (fun H locs hP hD hS => ?_)
  have hP : va_P (dC, dI) vwCl (w_X4_empty cy a0 (((0 : Int32), (0 : Int32), gd.2.2))) H := hP
  have hD : va_D A (w_X4_empty cy a0 (((0 : Int32), (0 : Int32), gd.2.2))) := hD
  exact W.vret hx hb hr (fun t ht hW => by rw [hqq]; have hh := Option.some.inj h; exact ⟨⟨(((0 : Int32), (0 : Int32), gd.2.2)), rfl, Option.some.inj h, by rw [ht]; exact hP, va_K.moved hW.alike hK⟩, hS.F ht⟩) hS.2.2 dX4_empty_10

abbrev w_X4_copyFrom (cy : Nat → ClassId) (a0 : Nat → Nat) (a1 : Nat → Nat) (gd_0 : Int32 × Int32 × (Nat → Int32) × (Nat → Int32) × (Nat → Int32) × (Nat → Int32)) (gd_1 : Int32 × Int32 × (Nat → Int32) × (Nat → Int32) × (Nat → Int32) × (Nat → Int32)) : va_W := [(a0 0, .inr (2, [.int (gd_0.1), .int (gd_0.2.1), .ref (a0 1), .ref (a0 2), .ref (a0 3), .ref (a0 4)])), (a0 1, .inl (cy 1, 10, .inl (gd_0.2.2.1))), (a0 2, .inl (cy 1, 10, .inl (gd_0.2.2.2.1))), (a0 3, .inl (cy 1, 10, .inl (gd_0.2.2.2.2.1))), (a0 4, .inl (cy 1, 50, .inl (gd_0.2.2.2.2.2))), (a1 0, .inr (2, [.int (gd_1.1), .int (gd_1.2.1), .ref (a1 1), .ref (a1 2), .ref (a1 3), .ref (a1 4)])), (a1 1, .inl (cy 1, 10, .inl (gd_1.2.2.1))), (a1 2, .inl (cy 1, 10, .inl (gd_1.2.2.2.1))), (a1 3, .inl (cy 1, 10, .inl (gd_1.2.2.2.2.1))), (a1 4, .inl (cy 1, 50, .inl (gd_1.2.2.2.2.2)))]
abbrev rm_X4_copyFrom : Room := { frames := 1, cells := 0, slots := 0, locals := 100 }
set_option maxHeartbeats 1000000 in
set_option maxRecDepth 100000 in
theorem c_X4_copyFrom (l : Launch) (dC : Nat → ClassId) (dI : Nat → Nat → Nat) (cy : Nat → ClassId) (a0 : Nat → Nat) (a1 : Nat → Nat) (gd_0 : Int32 × Int32 × (Nat → Int32) × (Nat → Int32) × (Nat → Int32) × (Nat → Int32)) (gd_1 : Int32 × Int32 × (Nat → Int32) × (Nat → Int32) × (Nat → Int32) × (Nat → Int32)) (sz : Nat) (R0 : (Int32 × Int32 × (Nat → Int32) × (Nat → Int32) × (Nat → Int32) × (Nat → Int32))) (h : p_X4_copyFrom gd_0 gd_1 = some R0) : Met l yX4_copyFrom wsX4_copyFrom rm_X4_copyFrom (va_Pc [.ref (a0 0), .ref (a1 0)] (prC dC dI cy (w_X4_copyFrom cy a0 a1 gd_0 gd_1) sz)) (va_Qv (fun (u : (Int32 × Int32 × (Nat → Int32) × (Nat → Int32) × (Nat → Int32) × (Nat → Int32))) => u = R0) (fun (u : (Int32 × Int32 × (Nat → Int32) × (Nat → Int32) × (Nat → Int32) × (Nat → Int32))) t => poC dC dI cy (w_X4_copyFrom cy a0 a1 u gd_1) t) (va_A (w_X4_copyFrom cy a0 a1 gd_0 gd_1) sz)) 0 0 (va_A (w_X4_copyFrom cy a0 a1 gd_0 gd_1) sz) := by
  refine Met.ofW (cc := cX4_copyFrom) (maxL := 2) (ret := none) (by decide) rfl ?_
  intro p e s m aa below meth c s₁ B hml hv
  obtain ⟨haa, hsz, hP, hK, hD0⟩ := hv
  have hx := B.exec
  have hb := B.bytes
  have hr := B.returns
  have hts := atoms_spec (ws := wsX4_copyFrom) B.pre
  have hown : s.vm.findClass RX4 = some m.cls := findClass_of_methodNamed B.named
  have hlocks := B.notSynchronized
  subst hsz
  have hD := hD0.self (sz := s.heap.size)
  obtain ⟨qq, hqq⟩ : ∃ qq, qq = (va_Qv (fun (u : (Int32 × Int32 × (Nat → Int32) × (Nat → Int32) × (Nat → Int32) × (Nat → Int32))) => u = R0) (fun (u : (Int32 × Int32 × (Nat → Int32) × (Nat → Int32) × (Nat → Int32) × (Nat → Int32))) t => poC dC dI cy (w_X4_copyFrom cy a0 a1 u gd_1) t) (va_A (w_X4_copyFrom cy a0 a1 gd_0 gd_1) s.heap.size)) := ⟨_, rfl⟩
  rw [← hqq]
  generalize hAe : va_A (w_X4_copyFrom cy a0 a1 gd_0 gd_1) s.heap.size = A at hD hqq ⊢
  have hA : ∀ q : Nat, s.heap.size ≤ q → A q := fun q h => by rw [← hAe]; exact Or.inr h
  have hS : va_S A s.heap s.heap [] := va_S.rf
  have hl := lv_entry ([.ref (a0 0), .ref (a1 0)]) (n := 2) (Nat.le_of_ble_eq_true rfl)
  have hE : entryFrame m aa 2 = F0 m 0 ((lg_sl ([.ref (a0 0), .ref (a1 0)]) ++ List.replicate (2 - (lg_sl ([.ref (a0 0), .ref (a1 0)])).length) Slot.unset).toArray) [] := by rw [haa]; exact lg_entry_eq m _ 2
  refine W.eq hE ?_
  generalize (lg_sl ([.ref (a0 0), .ref (a1 0)]) ++ List.replicate (2 - (lg_sl ([.ref (a0 0), .ref (a1 0)])).length) Slot.unset).toArray = ls at hl ⊢
  have hl : lv_has ls 2 [(0, .ref (a0 0)), (1, .ref (a1 0))] := hl
  change W p l e rm_X4_copyFrom s m aa below meth c s.heap [] 0 0 (MQ below qq aa s 0 0 A) (F0 m 0 ls [])
  have hS0 := hS
  have lk0 := hts (.fieldLink RX4 24 "GoatDoors$Doors" "law" "I") (by decide +kernel)
  have lk1 := hts (.fieldLink RX4 28 "GoatDoors$Doors" "bits" "I") (by decide +kernel)
  have lk2 := hts (.fieldLink RX4 9 "GoatDoors$Doors" "debtors" "[I") (by decide +kernel)
  have lk3 := hts (.methodLink RX4 31 arraycopyName) (by decide +kernel)
  have lk4 := hts (.native arraycopyName) (by decide +kernel)
  have lk5 := hts (.static arraycopyName) (by decide +kernel)
  have lk6 := hts (.initialized "java/lang/System") (by decide +kernel)
  have lk7 := hts (.fieldLink RX4 15 "GoatDoors$Doors" "lenders" "[I") (by decide +kernel)
  have lk8 := hts (.fieldLink RX4 18 "GoatDoors$Doors" "lengths" "[I") (by decide +kernel)
  have lk9 := hts (.fieldLink RX4 21 "GoatDoors$Doors" "figures" "[I") (by decide +kernel)
  have in_X4 : ∀ w ∈ wsX40, w ∈ wsX4_copyFrom := by decide +kernel
  obtain ⟨H, hH⟩ : ∃ H : Heap, H = s.heap := ⟨_, rfl⟩
  obtain ⟨locs, hlocs⟩ : ∃ locs : List Loc, locs = [] := ⟨_, rfl⟩
  have hS : va_S A s.heap H locs := by rw [hH, hlocs]; exact hS
  rw [← hH] at hP
  suffices hg : W p l e rm_X4_copyFrom s m aa below meth c H locs 0 0 (MQ below qq aa s 0 0 A) (F0 m 0 ls []) by subst hH; subst hlocs; exact hg
  unfold p_X4_copyFrom at h
  refine lv_aload_n hx hb dX4_copyFrom_0 rfl (lv_at hl 0 rfl) ?_
  refine lv_aload_n hx hb dX4_copyFrom_1 rfl (lv_at hl 1 rfl) ?_
  refine va_get (D := (dC, dI)) (ci := 2) (v := .int gd_1.1) (C := RX4) (T := TX4) (N := 6) hx hb hts in_X4 hown hK hP 5 rfl rfl 0 (by decide) lk0 (fun _ h9 => h9) rfl dX4_copyFrom_2 ?_
  refine va_put (D := (dC, dI)) (ci := 2) (v := .int gd_1.1) (ty := .int) (C := RX4) (T := TX4) (N := 6) hx hb hts in_X4 tyX4 tyX4_ok nmX4 hown hK hP hD hS 0 rfl rfl 0 (by decide) lk0 (fun _ h9 => h9) rfl (by decide +kernel) rfl rfl (Nat.le_of_ble_eq_true rfl) dX4_copyFrom_5 (fun H locs hP hD hS => ?_)
  have hP : va_P (dC, dI) vwCl (w_X4_copyFrom cy a0 a1 ((gd_1.1, gd_0.2)) gd_1) H := hP
  have hD : va_D A (w_X4_copyFrom cy a0 a1 ((gd_1.1, gd_0.2)) gd_1) := hD
  refine lv_aload_n hx hb dX4_copyFrom_8 rfl (lv_at hl 0 rfl) ?_
  refine lv_aload_n hx hb dX4_copyFrom_9 rfl (lv_at hl 1 rfl) ?_
  refine va_get (D := (dC, dI)) (ci := 2) (v := .int gd_1.2.1) (C := RX4) (T := TX4) (N := 6) hx hb hts in_X4 hown hK hP 5 rfl rfl 1 (by decide) lk1 (fun _ h9 => h9) rfl dX4_copyFrom_10 ?_
  refine va_put (D := (dC, dI)) (ci := 2) (v := .int gd_1.2.1) (ty := .int) (C := RX4) (T := TX4) (N := 6) hx hb hts in_X4 tyX4 tyX4_ok nmX4 hown hK hP hD hS 0 rfl rfl 1 (by decide) lk1 (fun _ h9 => h9) rfl (by decide +kernel) rfl rfl (Nat.le_of_ble_eq_true rfl) dX4_copyFrom_13 (fun H locs hP hD hS => ?_)
  have hP : va_P (dC, dI) vwCl (w_X4_copyFrom cy a0 a1 ((gd_1.1, gd_1.2.1, gd_0.2.2)) gd_1) H := hP
  have hD : va_D A (w_X4_copyFrom cy a0 a1 ((gd_1.1, gd_1.2.1, gd_0.2.2)) gd_1) := hD
  refine lv_aload_n hx hb dX4_copyFrom_16 rfl (lv_at hl 1 rfl) ?_
  refine va_get (D := (dC, dI)) (ci := 2) (v := .ref (a1 1)) (C := RX4) (T := TX4) (N := 6) hx hb hts in_X4 hown hK hP 5 rfl rfl 2 (by decide) lk2 (fun _ h9 => h9) rfl dX4_copyFrom_17 ?_
  refine lv_iconst (v := (0 : Int32)) hx hb dX4_copyFrom_20 (by decide) ?_
  refine lv_aload_n hx hb dX4_copyFrom_21 rfl (lv_at hl 0 rfl) ?_
  refine va_get (D := (dC, dI)) (ci := 2) (v := .ref (a0 1)) (C := RX4) (T := TX4) (N := 6) hx hb hts in_X4 hown hK hP 0 rfl rfl 2 (by decide) lk2 (fun _ h9 => h9) rfl dX4_copyFrom_22 ?_
  refine lv_iconst (v := (0 : Int32)) hx hb dX4_copyFrom_25 (by decide) ?_
  refine lv_bipush (v := (10 : Int32)) hx hb dX4_copyFrom_26 (by decide) ?_
  refine va_copyi hx hb (by rw [hml]; exact hl.1.symm) hown lk3 lk4 lk5 lk6 hK hP hD hS 6 1 1 1 rfl rfl rfl rfl rfl (sp := (0 : Int32)) (dp := (0 : Int32)) (n := (10 : Int32)) (by decide) (by decide) (by decide) (by decide) (by decide) (fun _ _ => rfl) (Nat.le_of_ble_eq_true rfl) (by decide) dX4_copyFrom_28 (fun H locs hP hD hS => ?_)
  have hP : va_P (dC, dI) vwCl (w_X4_copyFrom cy a0 a1 ((gd_1.1, gd_1.2.1, (va_cpy gd_1.2.2.1 gd_0.2.2.1 (0 : Int32).toNatClampNeg (0 : Int32).toNatClampNeg (10 : Int32).toNatClampNeg), gd_0.2.2.2)) gd_1) H := hP
  have hD : va_D A (w_X4_copyFrom cy a0 a1 ((gd_1.1, gd_1.2.1, (va_cpy gd_1.2.2.1 gd_0.2.2.1 (0 : Int32).toNatClampNeg (0 : Int32).toNatClampNeg (10 : Int32).toNatClampNeg), gd_0.2.2.2)) gd_1) := hD
  refine lv_aload_n hx hb dX4_copyFrom_31 rfl (lv_at hl 1 rfl) ?_
  refine va_get (D := (dC, dI)) (ci := 2) (v := .ref (a1 2)) (C := RX4) (T := TX4) (N := 6) hx hb hts in_X4 hown hK hP 5 rfl rfl 3 (by decide) lk7 (fun _ h9 => h9) rfl dX4_copyFrom_32 ?_
  refine lv_iconst (v := (0 : Int32)) hx hb dX4_copyFrom_35 (by decide) ?_
  refine lv_aload_n hx hb dX4_copyFrom_36 rfl (lv_at hl 0 rfl) ?_
  refine va_get (D := (dC, dI)) (ci := 2) (v := .ref (a0 2)) (C := RX4) (T := TX4) (N := 6) hx hb hts in_X4 hown hK hP 0 rfl rfl 3 (by decide) lk7 (fun _ h9 => h9) rfl dX4_copyFrom_37 ?_
  refine lv_iconst (v := (0 : Int32)) hx hb dX4_copyFrom_40 (by decide) ?_
  refine lv_bipush (v := (10 : Int32)) hx hb dX4_copyFrom_41 (by decide) ?_
  refine va_copyi hx hb (by rw [hml]; exact hl.1.symm) hown lk3 lk4 lk5 lk6 hK hP hD hS 7 2 1 1 rfl rfl rfl rfl rfl (sp := (0 : Int32)) (dp := (0 : Int32)) (n := (10 : Int32)) (by decide) (by decide) (by decide) (by decide) (by decide) (fun _ _ => rfl) (Nat.le_of_ble_eq_true rfl) (by decide) dX4_copyFrom_43 (fun H locs hP hD hS => ?_)
  have hP : va_P (dC, dI) vwCl (w_X4_copyFrom cy a0 a1 ((gd_1.1, gd_1.2.1, (va_cpy gd_1.2.2.1 gd_0.2.2.1 (0 : Int32).toNatClampNeg (0 : Int32).toNatClampNeg (10 : Int32).toNatClampNeg), (va_cpy gd_1.2.2.2.1 gd_0.2.2.2.1 (0 : Int32).toNatClampNeg (0 : Int32).toNatClampNeg (10 : Int32).toNatClampNeg), gd_0.2.2.2.2)) gd_1) H := hP
  have hD : va_D A (w_X4_copyFrom cy a0 a1 ((gd_1.1, gd_1.2.1, (va_cpy gd_1.2.2.1 gd_0.2.2.1 (0 : Int32).toNatClampNeg (0 : Int32).toNatClampNeg (10 : Int32).toNatClampNeg), (va_cpy gd_1.2.2.2.1 gd_0.2.2.2.1 (0 : Int32).toNatClampNeg (0 : Int32).toNatClampNeg (10 : Int32).toNatClampNeg), gd_0.2.2.2.2)) gd_1) := hD
  refine lv_aload_n hx hb dX4_copyFrom_46 rfl (lv_at hl 1 rfl) ?_
  refine va_get (D := (dC, dI)) (ci := 2) (v := .ref (a1 3)) (C := RX4) (T := TX4) (N := 6) hx hb hts in_X4 hown hK hP 5 rfl rfl 4 (by decide) lk8 (fun _ h9 => h9) rfl dX4_copyFrom_47 ?_
  refine lv_iconst (v := (0 : Int32)) hx hb dX4_copyFrom_50 (by decide) ?_
  refine lv_aload_n hx hb dX4_copyFrom_51 rfl (lv_at hl 0 rfl) ?_
  refine va_get (D := (dC, dI)) (ci := 2) (v := .ref (a0 3)) (C := RX4) (T := TX4) (N := 6) hx hb hts in_X4 hown hK hP 0 rfl rfl 4 (by decide) lk8 (fun _ h9 => h9) rfl dX4_copyFrom_52 ?_
  refine lv_iconst (v := (0 : Int32)) hx hb dX4_copyFrom_55 (by decide) ?_
  refine lv_bipush (v := (10 : Int32)) hx hb dX4_copyFrom_56 (by decide) ?_
  refine va_copyi hx hb (by rw [hml]; exact hl.1.symm) hown lk3 lk4 lk5 lk6 hK hP hD hS 8 3 1 1 rfl rfl rfl rfl rfl (sp := (0 : Int32)) (dp := (0 : Int32)) (n := (10 : Int32)) (by decide) (by decide) (by decide) (by decide) (by decide) (fun _ _ => rfl) (Nat.le_of_ble_eq_true rfl) (by decide) dX4_copyFrom_58 (fun H locs hP hD hS => ?_)
  have hP : va_P (dC, dI) vwCl (w_X4_copyFrom cy a0 a1 ((gd_1.1, gd_1.2.1, (va_cpy gd_1.2.2.1 gd_0.2.2.1 (0 : Int32).toNatClampNeg (0 : Int32).toNatClampNeg (10 : Int32).toNatClampNeg), (va_cpy gd_1.2.2.2.1 gd_0.2.2.2.1 (0 : Int32).toNatClampNeg (0 : Int32).toNatClampNeg (10 : Int32).toNatClampNeg), (va_cpy gd_1.2.2.2.2.1 gd_0.2.2.2.2.1 (0 : Int32).toNatClampNeg (0 : Int32).toNatClampNeg (10 : Int32).toNatClampNeg), gd_0.2.2.2.2.2)) gd_1) H := hP
  have hD : va_D A (w_X4_copyFrom cy a0 a1 ((gd_1.1, gd_1.2.1, (va_cpy gd_1.2.2.1 gd_0.2.2.1 (0 : Int32).toNatClampNeg (0 : Int32).toNatClampNeg (10 : Int32).toNatClampNeg), (va_cpy gd_1.2.2.2.1 gd_0.2.2.2.1 (0 : Int32).toNatClampNeg (0 : Int32).toNatClampNeg (10 : Int32).toNatClampNeg), (va_cpy gd_1.2.2.2.2.1 gd_0.2.2.2.2.1 (0 : Int32).toNatClampNeg (0 : Int32).toNatClampNeg (10 : Int32).toNatClampNeg), gd_0.2.2.2.2.2)) gd_1) := hD
  refine lv_aload_n hx hb dX4_copyFrom_61 rfl (lv_at hl 1 rfl) ?_
  refine va_get (D := (dC, dI)) (ci := 2) (v := .ref (a1 4)) (C := RX4) (T := TX4) (N := 6) hx hb hts in_X4 hown hK hP 5 rfl rfl 5 (by decide) lk9 (fun _ h9 => h9) rfl dX4_copyFrom_62 ?_
  refine lv_iconst (v := (0 : Int32)) hx hb dX4_copyFrom_65 (by decide) ?_
  refine lv_aload_n hx hb dX4_copyFrom_66 rfl (lv_at hl 0 rfl) ?_
  refine va_get (D := (dC, dI)) (ci := 2) (v := .ref (a0 4)) (C := RX4) (T := TX4) (N := 6) hx hb hts in_X4 hown hK hP 0 rfl rfl 5 (by decide) lk9 (fun _ h9 => h9) rfl dX4_copyFrom_67 ?_
  refine lv_iconst (v := (0 : Int32)) hx hb dX4_copyFrom_70 (by decide) ?_
  refine lv_bipush (v := (50 : Int32)) hx hb dX4_copyFrom_71 (by decide) ?_
  refine va_copyi hx hb (by rw [hml]; exact hl.1.symm) hown lk3 lk4 lk5 lk6 hK hP hD hS 9 4 1 1 rfl rfl rfl rfl rfl (sp := (0 : Int32)) (dp := (0 : Int32)) (n := (50 : Int32)) (by decide) (by decide) (by decide) (by decide) (by decide) (fun _ _ => rfl) (Nat.le_of_ble_eq_true rfl) (by decide) dX4_copyFrom_73 (fun H locs hP hD hS => ?_)
  have hP : va_P (dC, dI) vwCl (w_X4_copyFrom cy a0 a1 ((gd_1.1, gd_1.2.1, (va_cpy gd_1.2.2.1 gd_0.2.2.1 (0 : Int32).toNatClampNeg (0 : Int32).toNatClampNeg (10 : Int32).toNatClampNeg), (va_cpy gd_1.2.2.2.1 gd_0.2.2.2.1 (0 : Int32).toNatClampNeg (0 : Int32).toNatClampNeg (10 : Int32).toNatClampNeg), (va_cpy gd_1.2.2.2.2.1 gd_0.2.2.2.2.1 (0 : Int32).toNatClampNeg (0 : Int32).toNatClampNeg (10 : Int32).toNatClampNeg), (va_cpy gd_1.2.2.2.2.2 gd_0.2.2.2.2.2 (0 : Int32).toNatClampNeg (0 : Int32).toNatClampNeg (50 : Int32).toNatClampNeg))) gd_1) H := hP
  have hD : va_D A (w_X4_copyFrom cy a0 a1 ((gd_1.1, gd_1.2.1, (va_cpy gd_1.2.2.1 gd_0.2.2.1 (0 : Int32).toNatClampNeg (0 : Int32).toNatClampNeg (10 : Int32).toNatClampNeg), (va_cpy gd_1.2.2.2.1 gd_0.2.2.2.1 (0 : Int32).toNatClampNeg (0 : Int32).toNatClampNeg (10 : Int32).toNatClampNeg), (va_cpy gd_1.2.2.2.2.1 gd_0.2.2.2.2.1 (0 : Int32).toNatClampNeg (0 : Int32).toNatClampNeg (10 : Int32).toNatClampNeg), (va_cpy gd_1.2.2.2.2.2 gd_0.2.2.2.2.2 (0 : Int32).toNatClampNeg (0 : Int32).toNatClampNeg (50 : Int32).toNatClampNeg))) gd_1) := hD
  exact W.vret hx hb hr (fun t ht hW => by rw [hqq]; have hh := Option.some.inj h; exact ⟨⟨((gd_1.1, gd_1.2.1, (va_cpy gd_1.2.2.1 gd_0.2.2.1 (0 : Int32).toNatClampNeg (0 : Int32).toNatClampNeg (10 : Int32).toNatClampNeg), (va_cpy gd_1.2.2.2.1 gd_0.2.2.2.1 (0 : Int32).toNatClampNeg (0 : Int32).toNatClampNeg (10 : Int32).toNatClampNeg), (va_cpy gd_1.2.2.2.2.1 gd_0.2.2.2.2.1 (0 : Int32).toNatClampNeg (0 : Int32).toNatClampNeg (10 : Int32).toNatClampNeg), (va_cpy gd_1.2.2.2.2.2 gd_0.2.2.2.2.2 (0 : Int32).toNatClampNeg (0 : Int32).toNatClampNeg (50 : Int32).toNatClampNeg))), rfl, Option.some.inj h, by rw [ht]; exact hP, va_K.moved hW.alike hK⟩, hS.F ht⟩) hS.2.2 dX4_copyFrom_76

abbrev w_X4_debtorOf (cy : Nat → ClassId) (a0 : Nat → Nat) (gd : Int32 × Int32 × (Nat → Int32) × (Nat → Int32) × (Nat → Int32) × (Nat → Int32)) : va_W := [(a0 0, .inr (2, [.int (gd.1), .int (gd.2.1), .ref (a0 1), .ref (a0 2), .ref (a0 3), .ref (a0 4)])), (a0 1, .inl (cy 1, 10, .inl (gd.2.2.1))), (a0 2, .inl (cy 1, 10, .inl (gd.2.2.2.1))), (a0 3, .inl (cy 1, 10, .inl (gd.2.2.2.2.1))), (a0 4, .inl (cy 1, 50, .inl (gd.2.2.2.2.2)))]
abbrev rm_X4_debtorOf : Room := { frames := 1, cells := 0, slots := 0, locals := 21 }
set_option maxHeartbeats 1000000 in
set_option maxRecDepth 100000 in
theorem c_X4_debtorOf (l : Launch) (dC : Nat → ClassId) (dI : Nat → Nat → Nat) (cy : Nat → ClassId) (a0 : Nat → Nat) (gd : Int32 × Int32 × (Nat → Int32) × (Nat → Int32) × (Nat → Int32) × (Nat → Int32)) (x1 : Int32) (sz : Nat) (R0 : Int32) (h : p_X4_debtorOf gd x1 = some R0) : Met l yX4_debtorOf wsX4_debtorOf rm_X4_debtorOf (va_Pc [.ref (a0 0), .int x1] (prC dC dI cy (w_X4_debtorOf cy a0 gd) sz)) (va_Qi (fun (r : Int32) (_ : Unit) => r = R0) (fun (_ : Unit) t => poC dC dI cy (w_X4_debtorOf cy a0 gd) t) (va_A (w_X4_debtorOf cy a0 gd) sz)) 0 0 (va_A (w_X4_debtorOf cy a0 gd) sz) := by
  refine Met.ofW (cc := cX4_debtorOf) (maxL := 2) (ret := (some .int)) (by decide) rfl ?_
  intro p e s m aa below meth c s₁ B hml hv
  obtain ⟨haa, hsz, hP, hK, hD0⟩ := hv
  have hx := B.exec
  have hb := B.bytes
  have hr := B.returns
  have hts := atoms_spec (ws := wsX4_debtorOf) B.pre
  have hown : s.vm.findClass RX4 = some m.cls := findClass_of_methodNamed B.named
  have hlocks := B.notSynchronized
  subst hsz
  have hD := hD0.self (sz := s.heap.size)
  obtain ⟨qq, hqq⟩ : ∃ qq, qq = (va_Qi (fun (r : Int32) (_ : Unit) => r = R0) (fun (_ : Unit) t => poC dC dI cy (w_X4_debtorOf cy a0 gd) t) (va_A (w_X4_debtorOf cy a0 gd) s.heap.size)) := ⟨_, rfl⟩
  rw [← hqq]
  generalize hAe : va_A (w_X4_debtorOf cy a0 gd) s.heap.size = A at hD hqq ⊢
  have hA : ∀ q : Nat, s.heap.size ≤ q → A q := fun q h => by rw [← hAe]; exact Or.inr h
  have hS : va_S A s.heap s.heap [] := va_S.rf
  have hl := lv_entry ([.ref (a0 0), .int x1]) (n := 2) (Nat.le_of_ble_eq_true rfl)
  have hE : entryFrame m aa 2 = F0 m 0 ((lg_sl ([.ref (a0 0), .int x1]) ++ List.replicate (2 - (lg_sl ([.ref (a0 0), .int x1])).length) Slot.unset).toArray) [] := by rw [haa]; exact lg_entry_eq m _ 2
  refine W.eq hE ?_
  generalize (lg_sl ([.ref (a0 0), .int x1]) ++ List.replicate (2 - (lg_sl ([.ref (a0 0), .int x1])).length) Slot.unset).toArray = ls at hl ⊢
  have hl : lv_has ls 2 [(0, .ref (a0 0)), (1, .int x1)] := hl
  change W p l e rm_X4_debtorOf s m aa below meth c s.heap [] 0 0 (MQ below qq aa s 0 0 A) (F0 m 0 ls [])
  have hS0 := hS
  have lk0 := hts (.fieldLink RX4 9 "GoatDoors$Doors" "debtors" "[I") (by decide +kernel)
  have in_X4 : ∀ w ∈ wsX40, w ∈ wsX4_debtorOf := by decide +kernel
  obtain ⟨H, hH⟩ : ∃ H : Heap, H = s.heap := ⟨_, rfl⟩
  obtain ⟨locs, hlocs⟩ : ∃ locs : List Loc, locs = [] := ⟨_, rfl⟩
  have hS : va_S A s.heap H locs := by rw [hH, hlocs]; exact hS
  rw [← hH] at hP
  suffices hg : W p l e rm_X4_debtorOf s m aa below meth c H locs 0 0 (MQ below qq aa s 0 0 A) (F0 m 0 ls []) by subst hH; subst hlocs; exact hg
  unfold p_X4_debtorOf at h
  refine lv_aload_n hx hb dX4_debtorOf_0 rfl (lv_at hl 0 rfl) ?_
  refine lv_iload_n hx hb dX4_debtorOf_1 rfl (lv_at hl 1 rfl) ?_
  obtain ⟨v1, hv2, h⟩ := ok_bind h
  refine cl_vi (w2 := fun (_ : Unit) => w_X4_debtorOf cy a0 gd) (As := [.int x1]) (rest := []) ⟨hx, hb, hml, hown, hts⟩ (c_X4_has l dC dI cy a0 gd x1 H.size v1 hv2) (cwV 1 hts gX4_debtorOf_X4_has rfl rfl rfl (by decide +kernel) ⟨Nat.le_of_ble_eq_true rfl, Nat.le_of_ble_eq_true rfl⟩) (va_recv hK hP (ci := 2) (q0 := 0) rfl rfl) cl_blind (cl_pre hK hP hD [0, 1, 2, 3, 4] (by decide) rfl) hP hD hS hA [0, 1, 2, 3, 4] rfl rfl hl.1 rfl (lv_room (Nat.le_of_ble_eq_true rfl)) dX4_debtorOf_2 ⟨Nat.le_of_ble_eq_true rfl, Nat.le_of_ble_eq_true rfl⟩ ⟨rfl, rfl⟩ (fun _ => updR [0, 1, 2, 3, 4] rfl) (fun r u H locs hw hP hD hS => ?_)
  have hw := hw.symm
  subst hw
  have hP : va_P (dC, dI) vwCl (w_X4_debtorOf cy a0 gd) H := hP
  have hD : va_D A (w_X4_debtorOf cy a0 gd) := hD
  refine lv_if_eq (tgt := 17) hx hb dX4_debtorOf_5 (by decide) (fun c3 => ?_) (fun c3 => ?_)
  · rw [if_pos c3] at h
    refine lv_iconst (v := (-1 : Int32)) hx hb dX4_debtorOf_17 (by decide) ?_
    exact W.iret (v := (-1 : Int32)) hx hb hr (fun t ht hW => by rw [hqq]; have hh := Option.some.inj h; exact ⟨⟨(-1 : Int32), (()), rfl, Option.some.inj h, by rw [ht]; exact hP, va_K.moved hW.alike hK⟩, hS.F ht⟩) hS.2.2 dX4_debtorOf_18
  · rw [if_neg c3] at h
    refine lv_aload_n hx hb dX4_debtorOf_8 rfl (lv_at hl 0 rfl) ?_
    refine va_get (D := (dC, dI)) (ci := 2) (v := .ref (a0 1)) (C := RX4) (T := TX4) (N := 6) hx hb hts in_X4 hown hK hP 0 rfl rfl 2 (by decide) lk0 (fun _ h9 => h9) rfl dX4_debtorOf_9 ?_
    refine lv_iload_n hx hb dX4_debtorOf_12 rfl (lv_at hl 1 rfl) ?_
    obtain ⟨hi4, h⟩ := ok_if h
    refine va_iald hx hb hK hP 1 1 rfl rfl (ix_in hi4) dX4_debtorOf_13 ?_
    refine lv_goto (tgt := 18) hx hb dX4_debtorOf_14 (by decide) ?_
    exact W.iret (v := (gd.2.2.1 x1.toNatClampNeg)) hx hb hr (fun t ht hW => by rw [hqq]; have hh := Option.some.inj h; exact ⟨⟨(gd.2.2.1 x1.toNatClampNeg), (()), rfl, Option.some.inj h, by rw [ht]; exact hP, va_K.moved hW.alike hK⟩, hS.F ht⟩) hS.2.2 dX4_debtorOf_18

abbrev w_X4_lenderOf (cy : Nat → ClassId) (a0 : Nat → Nat) (gd : Int32 × Int32 × (Nat → Int32) × (Nat → Int32) × (Nat → Int32) × (Nat → Int32)) : va_W := [(a0 0, .inr (2, [.int (gd.1), .int (gd.2.1), .ref (a0 1), .ref (a0 2), .ref (a0 3), .ref (a0 4)])), (a0 1, .inl (cy 1, 10, .inl (gd.2.2.1))), (a0 2, .inl (cy 1, 10, .inl (gd.2.2.2.1))), (a0 3, .inl (cy 1, 10, .inl (gd.2.2.2.2.1))), (a0 4, .inl (cy 1, 50, .inl (gd.2.2.2.2.2)))]
abbrev rm_X4_lenderOf : Room := { frames := 1, cells := 0, slots := 0, locals := 21 }
set_option maxHeartbeats 1000000 in
set_option maxRecDepth 100000 in
theorem c_X4_lenderOf (l : Launch) (dC : Nat → ClassId) (dI : Nat → Nat → Nat) (cy : Nat → ClassId) (a0 : Nat → Nat) (gd : Int32 × Int32 × (Nat → Int32) × (Nat → Int32) × (Nat → Int32) × (Nat → Int32)) (x1 : Int32) (sz : Nat) (R0 : Int32) (h : p_X4_lenderOf gd x1 = some R0) : Met l yX4_lenderOf wsX4_lenderOf rm_X4_lenderOf (va_Pc [.ref (a0 0), .int x1] (prC dC dI cy (w_X4_lenderOf cy a0 gd) sz)) (va_Qi (fun (r : Int32) (_ : Unit) => r = R0) (fun (_ : Unit) t => poC dC dI cy (w_X4_lenderOf cy a0 gd) t) (va_A (w_X4_lenderOf cy a0 gd) sz)) 0 0 (va_A (w_X4_lenderOf cy a0 gd) sz) := by
  refine Met.ofW (cc := cX4_lenderOf) (maxL := 2) (ret := (some .int)) (by decide) rfl ?_
  intro p e s m aa below meth c s₁ B hml hv
  obtain ⟨haa, hsz, hP, hK, hD0⟩ := hv
  have hx := B.exec
  have hb := B.bytes
  have hr := B.returns
  have hts := atoms_spec (ws := wsX4_lenderOf) B.pre
  have hown : s.vm.findClass RX4 = some m.cls := findClass_of_methodNamed B.named
  have hlocks := B.notSynchronized
  subst hsz
  have hD := hD0.self (sz := s.heap.size)
  obtain ⟨qq, hqq⟩ : ∃ qq, qq = (va_Qi (fun (r : Int32) (_ : Unit) => r = R0) (fun (_ : Unit) t => poC dC dI cy (w_X4_lenderOf cy a0 gd) t) (va_A (w_X4_lenderOf cy a0 gd) s.heap.size)) := ⟨_, rfl⟩
  rw [← hqq]
  generalize hAe : va_A (w_X4_lenderOf cy a0 gd) s.heap.size = A at hD hqq ⊢
  have hA : ∀ q : Nat, s.heap.size ≤ q → A q := fun q h => by rw [← hAe]; exact Or.inr h
  have hS : va_S A s.heap s.heap [] := va_S.rf
  have hl := lv_entry ([.ref (a0 0), .int x1]) (n := 2) (Nat.le_of_ble_eq_true rfl)
  have hE : entryFrame m aa 2 = F0 m 0 ((lg_sl ([.ref (a0 0), .int x1]) ++ List.replicate (2 - (lg_sl ([.ref (a0 0), .int x1])).length) Slot.unset).toArray) [] := by rw [haa]; exact lg_entry_eq m _ 2
  refine W.eq hE ?_
  generalize (lg_sl ([.ref (a0 0), .int x1]) ++ List.replicate (2 - (lg_sl ([.ref (a0 0), .int x1])).length) Slot.unset).toArray = ls at hl ⊢
  have hl : lv_has ls 2 [(0, .ref (a0 0)), (1, .int x1)] := hl
  change W p l e rm_X4_lenderOf s m aa below meth c s.heap [] 0 0 (MQ below qq aa s 0 0 A) (F0 m 0 ls [])
  have hS0 := hS
  have lk0 := hts (.fieldLink RX4 15 "GoatDoors$Doors" "lenders" "[I") (by decide +kernel)
  have in_X4 : ∀ w ∈ wsX40, w ∈ wsX4_lenderOf := by decide +kernel
  obtain ⟨H, hH⟩ : ∃ H : Heap, H = s.heap := ⟨_, rfl⟩
  obtain ⟨locs, hlocs⟩ : ∃ locs : List Loc, locs = [] := ⟨_, rfl⟩
  have hS : va_S A s.heap H locs := by rw [hH, hlocs]; exact hS
  rw [← hH] at hP
  suffices hg : W p l e rm_X4_lenderOf s m aa below meth c H locs 0 0 (MQ below qq aa s 0 0 A) (F0 m 0 ls []) by subst hH; subst hlocs; exact hg
  unfold p_X4_lenderOf at h
  refine lv_aload_n hx hb dX4_lenderOf_0 rfl (lv_at hl 0 rfl) ?_
  refine lv_iload_n hx hb dX4_lenderOf_1 rfl (lv_at hl 1 rfl) ?_
  obtain ⟨v1, hv2, h⟩ := ok_bind h
  refine cl_vi (w2 := fun (_ : Unit) => w_X4_lenderOf cy a0 gd) (As := [.int x1]) (rest := []) ⟨hx, hb, hml, hown, hts⟩ (c_X4_has l dC dI cy a0 gd x1 H.size v1 hv2) (cwV 1 hts gX4_lenderOf_X4_has rfl rfl rfl (by decide +kernel) ⟨Nat.le_of_ble_eq_true rfl, Nat.le_of_ble_eq_true rfl⟩) (va_recv hK hP (ci := 2) (q0 := 0) rfl rfl) cl_blind (cl_pre hK hP hD [0, 1, 2, 3, 4] (by decide) rfl) hP hD hS hA [0, 1, 2, 3, 4] rfl rfl hl.1 rfl (lv_room (Nat.le_of_ble_eq_true rfl)) dX4_lenderOf_2 ⟨Nat.le_of_ble_eq_true rfl, Nat.le_of_ble_eq_true rfl⟩ ⟨rfl, rfl⟩ (fun _ => updR [0, 1, 2, 3, 4] rfl) (fun r u H locs hw hP hD hS => ?_)
  have hw := hw.symm
  subst hw
  have hP : va_P (dC, dI) vwCl (w_X4_lenderOf cy a0 gd) H := hP
  have hD : va_D A (w_X4_lenderOf cy a0 gd) := hD
  refine lv_if_eq (tgt := 17) hx hb dX4_lenderOf_5 (by decide) (fun c3 => ?_) (fun c3 => ?_)
  · rw [if_pos c3] at h
    refine lv_iconst (v := (-1 : Int32)) hx hb dX4_lenderOf_17 (by decide) ?_
    exact W.iret (v := (-1 : Int32)) hx hb hr (fun t ht hW => by rw [hqq]; have hh := Option.some.inj h; exact ⟨⟨(-1 : Int32), (()), rfl, Option.some.inj h, by rw [ht]; exact hP, va_K.moved hW.alike hK⟩, hS.F ht⟩) hS.2.2 dX4_lenderOf_18
  · rw [if_neg c3] at h
    refine lv_aload_n hx hb dX4_lenderOf_8 rfl (lv_at hl 0 rfl) ?_
    refine va_get (D := (dC, dI)) (ci := 2) (v := .ref (a0 2)) (C := RX4) (T := TX4) (N := 6) hx hb hts in_X4 hown hK hP 0 rfl rfl 3 (by decide) lk0 (fun _ h9 => h9) rfl dX4_lenderOf_9 ?_
    refine lv_iload_n hx hb dX4_lenderOf_12 rfl (lv_at hl 1 rfl) ?_
    obtain ⟨hi4, h⟩ := ok_if h
    refine va_iald hx hb hK hP 2 1 rfl rfl (ix_in hi4) dX4_lenderOf_13 ?_
    refine lv_goto (tgt := 18) hx hb dX4_lenderOf_14 (by decide) ?_
    exact W.iret (v := (gd.2.2.2.1 x1.toNatClampNeg)) hx hb hr (fun t ht hW => by rw [hqq]; have hh := Option.some.inj h; exact ⟨⟨(gd.2.2.2.1 x1.toNatClampNeg), (()), rfl, Option.some.inj h, by rw [ht]; exact hP, va_K.moved hW.alike hK⟩, hS.F ht⟩) hS.2.2 dX4_lenderOf_18

abbrev w_X4_worthIn (cy : Nat → ClassId) (a0 : Nat → Nat) (gd : Int32 × Int32 × (Nat → Int32) × (Nat → Int32) × (Nat → Int32) × (Nat → Int32)) : va_W := [(a0 0, .inr (2, [.int (gd.1), .int (gd.2.1), .ref (a0 1), .ref (a0 2), .ref (a0 3), .ref (a0 4)])), (a0 1, .inl (cy 1, 10, .inl (gd.2.2.1))), (a0 2, .inl (cy 1, 10, .inl (gd.2.2.2.1))), (a0 3, .inl (cy 1, 10, .inl (gd.2.2.2.2.1))), (a0 4, .inl (cy 1, 50, .inl (gd.2.2.2.2.2)))]
abbrev rm_X4_worthIn : Room := { frames := 3, cells := 0, slots := 0, locals := 65 }
set_option maxHeartbeats 1000000 in
set_option maxRecDepth 100000 in
theorem c_X4_worthIn (l : Launch) (dC : Nat → ClassId) (dI : Nat → Nat → Nat) (cy : Nat → ClassId) (a0 : Nat → Nat) (gd : Int32 × Int32 × (Nat → Int32) × (Nat → Int32) × (Nat → Int32) × (Nat → Int32)) (x1 : Int32) (x2 : Int32) (sz : Nat) (R0 : Int32) (h : p_X4_worthIn gd x1 x2 = some R0) : Met l yX4_worthIn wsX4_worthIn rm_X4_worthIn (va_Pc [.ref (a0 0), .int x1, .int x2] (prC dC dI cy (w_X4_worthIn cy a0 gd) sz)) (va_Qi (fun (r : Int32) (_ : Unit) => r = R0) (fun (_ : Unit) t => poC dC dI cy (w_X4_worthIn cy a0 gd) t) (va_A (w_X4_worthIn cy a0 gd) sz)) 0 0 (va_A (w_X4_worthIn cy a0 gd) sz) := by
  refine Met.ofW (cc := cX4_worthIn) (maxL := 9) (ret := (some .int)) (by decide) rfl ?_
  intro p e s m aa below meth c s₁ B hml hv
  obtain ⟨haa, hsz, hP, hK, hD0⟩ := hv
  have hx := B.exec
  have hb := B.bytes
  have hr := B.returns
  have hts := atoms_spec (ws := wsX4_worthIn) B.pre
  have hown : s.vm.findClass RX4 = some m.cls := findClass_of_methodNamed B.named
  have hlocks := B.notSynchronized
  subst hsz
  have hD := hD0.self (sz := s.heap.size)
  obtain ⟨qq, hqq⟩ : ∃ qq, qq = (va_Qi (fun (r : Int32) (_ : Unit) => r = R0) (fun (_ : Unit) t => poC dC dI cy (w_X4_worthIn cy a0 gd) t) (va_A (w_X4_worthIn cy a0 gd) s.heap.size)) := ⟨_, rfl⟩
  rw [← hqq]
  generalize hAe : va_A (w_X4_worthIn cy a0 gd) s.heap.size = A at hD hqq ⊢
  have hA : ∀ q : Nat, s.heap.size ≤ q → A q := fun q h => by rw [← hAe]; exact Or.inr h
  have hS : va_S A s.heap s.heap [] := va_S.rf
  have hl := lv_entry ([.ref (a0 0), .int x1, .int x2]) (n := 9) (Nat.le_of_ble_eq_true rfl)
  have hE : entryFrame m aa 9 = F0 m 0 ((lg_sl ([.ref (a0 0), .int x1, .int x2]) ++ List.replicate (9 - (lg_sl ([.ref (a0 0), .int x1, .int x2])).length) Slot.unset).toArray) [] := by rw [haa]; exact lg_entry_eq m _ 9
  refine W.eq hE ?_
  generalize (lg_sl ([.ref (a0 0), .int x1, .int x2]) ++ List.replicate (9 - (lg_sl ([.ref (a0 0), .int x1, .int x2])).length) Slot.unset).toArray = ls at hl ⊢
  have hl : lv_has ls 9 [(0, .ref (a0 0)), (1, .int x1), (2, .int x2)] := hl
  change W p l e rm_X4_worthIn s m aa below meth c s.heap [] 0 0 (MQ below qq aa s 0 0 A) (F0 m 0 ls [])
  have hS0 := hS
  have lk0 := hts (.fieldLink RX4 24 "GoatDoors$Doors" "law" "I") (by decide +kernel)
  have in_X4 : ∀ w ∈ wsX40, w ∈ wsX4_worthIn := by decide +kernel
  have c63 : ∀ (k34 : Int32 → Int32 → Int32 → Int32 → Int32 → Int32 → Int32 → Option (Int32)) (hk34 : ∀ (x1 : Int32) (x2 : Int32) (x3 : Int32) (x4 : Int32) (x5 : Int32) (x6 : Int32) (x7 : Int32) (H : Heap) (locs : List Loc) (ls : Array Slot), k34 x1 x2 x3 x4 x5 x6 x7 = some R0 → va_P (dC, dI) vwCl (w_X4_worthIn cy a0 gd) H → va_D A (w_X4_worthIn cy a0 gd) → va_S A s.heap H locs → lv_has ls 9 [(0, .ref (a0 0)), (1, .int x1), (2, .int x2), (3, .int x3), (4, .int x4), (5, .int x5), (6, .int x6), (7, .int x7)] → W p l e rm_X4_worthIn s m aa below meth c H locs 0 0 (MQ below qq aa s 0 0 A) (F0 m 34 ls [])), ∀ (x1 : Int32) (x2 : Int32) (x3 : Int32) (x4 : Int32) (x5 : Int32) (x6 : Int32) (x7 : Int32) (x8 : Int32) (H : Heap) (locs : List Loc) (ls : Array Slot), p_X4_worthIn_63 k34 gd x1 x2 x3 x4 x5 x6 x7 x8 = some R0 → va_P (dC, dI) vwCl (w_X4_worthIn cy a0 gd) H → va_D A (w_X4_worthIn cy a0 gd) → va_S A s.heap H locs → lv_has ls 9 [(0, .ref (a0 0)), (1, .int x1), (2, .int x2), (3, .int x3), (4, .int x4), (5, .int x5), (6, .int x6), (7, .int x7), (8, .int x8)] → W p l e rm_X4_worthIn s m aa below meth c H locs 0 0 (MQ below qq aa s 0 0 A) (F0 m 63 ls []) := by
    intro k34 hk34 x1 x2 x3 x4 x5 x6 x7 x8 H locs ls h hP hD hS hl
    unfold p_X4_worthIn_63 at h
    refine lv_iload hx hb dX4_worthIn_63 (lv_at hl 4 rfl) ?_
    refine lv_iload_n hx hb dX4_worthIn_65 rfl (lv_at hl 2 rfl) ?_
    refine lv_imul hx hb dX4_worthIn_66 ?_
    refine lv_iload hx hb dX4_worthIn_67 (lv_at hl 8 rfl) ?_
    refine lv_iadd hx hb dX4_worthIn_69 ?_
    refine lv_istore (lv' := [(4, .int ((x4 * x2) + x8)), (0, .ref (a0 0)), (1, .int x1), (2, .int x2), (3, .int x3), (5, .int x5), (6, .int x6), (7, .int x7), (8, .int x8)]) hx hb dX4_worthIn_70 hl (by decide) rfl (fun ls hl => ?_)
    refine lv_iload hx hb dX4_worthIn_72 (lv_at hl 5 rfl) ?_
    refine lv_iload_n hx hb dX4_worthIn_74 rfl (lv_at hl 3 rfl) ?_
    refine lv_imul hx hb dX4_worthIn_75 ?_
    refine lv_istore (lv' := [(5, .int (x5 * x2)), (4, .int ((x4 * x2) + x8)), (0, .ref (a0 0)), (1, .int x1), (2, .int x2), (3, .int x3), (6, .int x6), (7, .int x7), (8, .int x8)]) hx hb dX4_worthIn_76 hl (by decide) rfl (fun ls hl => ?_)
    refine lv_iinc (v := (x7 + (1 : Int32))) (lv' := [(7, .int (x7 + (1 : Int32))), (5, .int (x5 * x2)), (4, .int ((x4 * x2) + x8)), (0, .ref (a0 0)), (1, .int x1), (2, .int x2), (3, .int x3), (6, .int x6), (8, .int x8)]) hx hb dX4_worthIn_78 hl (k := 7) rfl rfl (by decide) rfl (fun ls hl => ?_)
    refine lv_goto (tgt := 34) hx hb dX4_worthIn_81 (by decide) ?_
    exact hk34 x1 x2 x3 ((x4 * x2) + x8) (x5 * x2) x6 (x7 + (1 : Int32)) H locs ls h hP hD hS (lv_sub hl [3, 4, 5, 6, 2, 1, 7, 0] rfl)
  have c34 : ∀ (n : Nat), ∀ (x1 : Int32) (x2 : Int32) (x3 : Int32) (x4 : Int32) (x5 : Int32) (x6 : Int32) (x7 : Int32) (H : Heap) (locs : List Loc) (ls : Array Slot), p_X4_worthIn_34 gd n x1 x2 x3 x4 x5 x6 x7 = some R0 → va_P (dC, dI) vwCl (w_X4_worthIn cy a0 gd) H → va_D A (w_X4_worthIn cy a0 gd) → va_S A s.heap H locs → lv_has ls 9 [(0, .ref (a0 0)), (1, .int x1), (2, .int x2), (3, .int x3), (4, .int x4), (5, .int x5), (6, .int x6), (7, .int x7)] → W p l e rm_X4_worthIn s m aa below meth c H locs 0 0 (MQ below qq aa s 0 0 A) (F0 m 34 ls []) := by
    intro  n
    induction n with
    | zero => intro x1 x2 x3 x4 x5 x6 x7 H locs ls h; exact no_some h
    | succ n ih =>
      intro x1 x2 x3 x4 x5 x6 x7 H locs ls h hP hD hS hl
      rw [p_X4_worthIn_34.eq_2] at h
      refine lv_iload hx hb dX4_worthIn_34 (lv_at hl 7 rfl) ?_
      refine lv_iload_n hx hb dX4_worthIn_36 rfl (lv_at hl 3 rfl) ?_
      refine lv_icmp_ge (tgt := 84) hx hb dX4_worthIn_37 (by decide) (fun c1 => ?_) (fun c1 => ?_)
      · rw [if_pos c1] at h
        refine lv_iload hx hb dX4_worthIn_84 (lv_at hl 6 rfl) ?_
        refine lv_if_eq (tgt := 97) hx hb dX4_worthIn_86 (by decide) (fun c2 => ?_) (fun c2 => ?_)
        · rw [if_pos c2] at h
          refine lv_iload hx hb dX4_worthIn_97 (lv_at hl 4 rfl) ?_
          exact W.iret (v := x4) hx hb hr (fun t ht hW => by rw [hqq]; have hh := Option.some.inj h; exact ⟨⟨x4, (()), rfl, Option.some.inj h, by rw [ht]; exact hP, va_K.moved hW.alike hK⟩, hS.F ht⟩) hS.2.2 dX4_worthIn_99
        · rw [if_neg c2] at h
          refine lv_aload_n hx hb dX4_worthIn_89 rfl (lv_at hl 0 rfl) ?_
          refine va_get (D := (dC, dI)) (ci := 2) (v := .int gd.1) (C := RX4) (T := TX4) (N := 6) hx hb hts in_X4 hown hK hP 0 rfl rfl 0 (by decide) lk0 (fun _ h9 => h9) rfl dX4_worthIn_90 ?_
          refine lv_iconst (v := (2 : Int32)) hx hb dX4_worthIn_93 (by decide) ?_
          refine lv_icmp_ne (tgt := 100) hx hb dX4_worthIn_94 (by decide) (fun c3 => ?_) (fun c3 => ?_)
          · rw [if_neg c3] at h
            refine lv_aload_n hx hb dX4_worthIn_100 rfl (lv_at hl 0 rfl) ?_
            refine va_get (D := (dC, dI)) (ci := 2) (v := .int gd.1) (C := RX4) (T := TX4) (N := 6) hx hb hts in_X4 hown hK hP 0 rfl rfl 0 (by decide) lk0 (fun _ h9 => h9) rfl dX4_worthIn_101 ?_
            refine lv_iconst (v := (1 : Int32)) hx hb dX4_worthIn_104 (by decide) ?_
            refine lv_icmp_ne (tgt := 113) hx hb dX4_worthIn_105 (by decide) (fun c4 => ?_) (fun c4 => ?_)
            · rw [if_neg c4] at h
              refine lv_iconst (v := (0 : Int32)) hx hb dX4_worthIn_113 (by decide) ?_
              exact W.iret (v := (0 : Int32)) hx hb hr (fun t ht hW => by rw [hqq]; have hh := Option.some.inj h; exact ⟨⟨(0 : Int32), (()), rfl, Option.some.inj h, by rw [ht]; exact hP, va_K.moved hW.alike hK⟩, hS.F ht⟩) hS.2.2 dX4_worthIn_114
            · rw [if_pos c4] at h
              refine lv_iload hx hb dX4_worthIn_108 (lv_at hl 5 rfl) ?_
              refine lv_goto (tgt := 114) hx hb dX4_worthIn_110 (by decide) ?_
              exact W.iret (v := x5) hx hb hr (fun t ht hW => by rw [hqq]; have hh := Option.some.inj h; exact ⟨⟨x5, (()), rfl, Option.some.inj h, by rw [ht]; exact hP, va_K.moved hW.alike hK⟩, hS.F ht⟩) hS.2.2 dX4_worthIn_114
          · rw [if_pos c3] at h
            refine lv_iload hx hb dX4_worthIn_97 (lv_at hl 4 rfl) ?_
            exact W.iret (v := x4) hx hb hr (fun t ht hW => by rw [hqq]; have hh := Option.some.inj h; exact ⟨⟨x4, (()), rfl, Option.some.inj h, by rw [ht]; exact hP, va_K.moved hW.alike hK⟩, hS.F ht⟩) hS.2.2 dX4_worthIn_99
      · rw [if_neg c1] at h
        refine lv_aload_n hx hb dX4_worthIn_40 rfl (lv_at hl 0 rfl) ?_
        refine lv_iload_n hx hb dX4_worthIn_41 rfl (lv_at hl 1 rfl) ?_
        refine lv_iload hx hb dX4_worthIn_42 (lv_at hl 7 rfl) ?_
        obtain ⟨v5, hv6, h⟩ := ok_bind h
        refine cl_vi (w2 := fun (_ : Unit) => w_X4_worthIn cy a0 gd) (As := [.int x1, .int x7]) (rest := []) ⟨hx, hb, hml, hown, hts⟩ (c_X4_figureAt l dC dI cy a0 gd x1 x7 H.size v5 hv6) (cwV 2 hts gX4_worthIn_X4_figureAt rfl rfl rfl (by decide +kernel) ⟨Nat.le_of_ble_eq_true rfl, Nat.le_of_ble_eq_true rfl⟩) (va_recv hK hP (ci := 2) (q0 := 0) rfl rfl) cl_blind (cl_pre hK hP hD [0, 1, 2, 3, 4] (by decide) rfl) hP hD hS hA [0, 1, 2, 3, 4] rfl rfl hl.1 rfl (lv_room (Nat.le_of_ble_eq_true rfl)) dX4_worthIn_44 ⟨Nat.le_of_ble_eq_true rfl, Nat.le_of_ble_eq_true rfl⟩ ⟨rfl, rfl⟩ (fun _ => updR [0, 1, 2, 3, 4] rfl) (fun r u H locs hw hP hD hS => ?_)
        have hw := hw.symm
        subst hw
        have hP : va_P (dC, dI) vwCl (w_X4_worthIn cy a0 gd) H := hP
        have hD : va_D A (w_X4_worthIn cy a0 gd) := hD
        refine lv_istore (lv' := [(8, .int v5), (0, .ref (a0 0)), (1, .int x1), (2, .int x2), (3, .int x3), (4, .int x4), (5, .int x5), (6, .int x6), (7, .int x7)]) hx hb dX4_worthIn_47 hl (by decide) rfl (fun ls hl => ?_)
        refine lv_iload hx hb dX4_worthIn_49 (lv_at hl 0 rfl) ?_
        refine lv_iload_n hx hb dX4_worthIn_51 rfl (lv_at hl 3 rfl) ?_
        refine lv_icmp_lt (tgt := 63) hx hb dX4_worthIn_52 (by decide) (fun c7 => ?_) (fun c7 => ?_)
        · rw [if_pos c7] at h
          exact c63 (p_X4_worthIn_34 gd n) ih x1 x2 x3 x4 x5 x6 x7 v5 H locs ls h hP hD hS (lv_sub hl [1, 2, 3, 4, 5, 6, 7, 8, 0] rfl)
        · rw [if_neg c7] at h
          refine lv_iconst (v := (1 : Int32)) hx hb dX4_worthIn_55 (by decide) ?_
          refine lv_istore (lv' := [(6, .int (1 : Int32)), (8, .int v5), (0, .ref (a0 0)), (1, .int x1), (2, .int x2), (3, .int x3), (4, .int x4), (5, .int x5), (7, .int x7)]) hx hb dX4_worthIn_56 hl (by decide) rfl (fun ls hl => ?_)
          refine lv_iload_n hx hb dX4_worthIn_58 rfl (lv_at hl 4 rfl) ?_
          refine lv_iconst (v := (1 : Int32)) hx hb dX4_worthIn_59 (by decide) ?_
          refine lv_isub hx hb dX4_worthIn_60 ?_
          refine lv_istore (lv' := [(8, .int (x2 - (1 : Int32))), (6, .int (1 : Int32)), (0, .ref (a0 0)), (1, .int x1), (2, .int x2), (3, .int x3), (4, .int x4), (5, .int x5), (7, .int x7)]) hx hb dX4_worthIn_61 hl (by decide) rfl (fun ls hl => ?_)
          exact c63 (p_X4_worthIn_34 gd n) ih x1 x2 x3 x4 x5 (1 : Int32) x7 (x2 - (1 : Int32)) H locs ls h hP hD hS (lv_sub hl [2, 3, 4, 5, 6, 7, 1, 8, 0] rfl)
  obtain ⟨H, hH⟩ : ∃ H : Heap, H = s.heap := ⟨_, rfl⟩
  obtain ⟨locs, hlocs⟩ : ∃ locs : List Loc, locs = [] := ⟨_, rfl⟩
  have hS : va_S A s.heap H locs := by rw [hH, hlocs]; exact hS
  rw [← hH] at hP
  suffices hg : W p l e rm_X4_worthIn s m aa below meth c H locs 0 0 (MQ below qq aa s 0 0 A) (F0 m 0 ls []) by subst hH; subst hlocs; exact hg
  unfold p_X4_worthIn at h
  refine lv_aload_n hx hb dX4_worthIn_0 rfl (lv_at hl 0 rfl) ?_
  refine lv_iload_n hx hb dX4_worthIn_1 rfl (lv_at hl 1 rfl) ?_
  obtain ⟨v1, hv2, h⟩ := ok_bind h
  refine cl_vi (w2 := fun (_ : Unit) => w_X4_worthIn cy a0 gd) (As := [.int x1]) (rest := []) ⟨hx, hb, hml, hown, hts⟩ (c_X4_lengthOf l dC dI cy a0 gd x1 H.size v1 hv2) (cwV 1 hts gX4_worthIn_X4_lengthOf rfl rfl rfl (by decide +kernel) ⟨Nat.le_of_ble_eq_true rfl, Nat.le_of_ble_eq_true rfl⟩) (va_recv hK hP (ci := 2) (q0 := 0) rfl rfl) cl_blind (cl_pre hK hP hD [0, 1, 2, 3, 4] (by decide) rfl) hP hD hS hA [0, 1, 2, 3, 4] rfl rfl hl.1 rfl (lv_room (Nat.le_of_ble_eq_true rfl)) dX4_worthIn_2 ⟨Nat.le_of_ble_eq_true rfl, Nat.le_of_ble_eq_true rfl⟩ ⟨rfl, rfl⟩ (fun _ => updR [0, 1, 2, 3, 4] rfl) (fun r u H locs hw hP hD hS => ?_)
  have hw := hw.symm
  subst hw
  have hP : va_P (dC, dI) vwCl (w_X4_worthIn cy a0 gd) H := hP
  have hD : va_D A (w_X4_worthIn cy a0 gd) := hD
  refine lv_istore_n (lv' := [(3, .int v1), (0, .ref (a0 0)), (1, .int x1), (2, .int x2)]) hx hb dX4_worthIn_5 rfl hl (by decide) rfl (fun ls hl => ?_)
  refine lv_iload_n hx hb dX4_worthIn_6 rfl (lv_at hl 3 rfl) ?_
  refine lv_iconst (v := (2 : Int32)) hx hb dX4_worthIn_7 (by decide) ?_
  refine lv_icmp_ge (tgt := 22) hx hb dX4_worthIn_8 (by decide) (fun c3 => ?_) (fun c3 => ?_)
  · rw [if_pos c3] at h
    refine lv_iconst (v := (0 : Int32)) hx hb dX4_worthIn_22 (by decide) ?_
    refine lv_istore (lv' := [(4, .int (0 : Int32)), (3, .int v1), (0, .ref (a0 0)), (1, .int x1), (2, .int x2)]) hx hb dX4_worthIn_23 hl (by decide) rfl (fun ls hl => ?_)
    refine lv_iconst (v := (1 : Int32)) hx hb dX4_worthIn_25 (by decide) ?_
    refine lv_istore (lv' := [(5, .int (1 : Int32)), (4, .int (0 : Int32)), (3, .int v1), (0, .ref (a0 0)), (1, .int x1), (2, .int x2)]) hx hb dX4_worthIn_26 hl (by decide) rfl (fun ls hl => ?_)
    refine lv_iconst (v := (0 : Int32)) hx hb dX4_worthIn_28 (by decide) ?_
    refine lv_istore (lv' := [(6, .int (0 : Int32)), (5, .int (1 : Int32)), (4, .int (0 : Int32)), (3, .int v1), (0, .ref (a0 0)), (1, .int x1), (2, .int x2)]) hx hb dX4_worthIn_29 hl (by decide) rfl (fun ls hl => ?_)
    refine lv_iconst (v := (0 : Int32)) hx hb dX4_worthIn_31 (by decide) ?_
    refine lv_istore (lv' := [(7, .int (0 : Int32)), (6, .int (0 : Int32)), (5, .int (1 : Int32)), (4, .int (0 : Int32)), (3, .int v1), (0, .ref (a0 0)), (1, .int x1), (2, .int x2)]) hx hb dX4_worthIn_32 hl (by decide) rfl (fun ls hl => ?_)
    exact c34 fu x1 x2 v1 (0 : Int32) (1 : Int32) (0 : Int32) (0 : Int32) H locs ls h hP hD hS (lv_sub hl [5, 6, 7, 4, 3, 2, 1, 0] rfl)
  · rw [if_neg c3] at h
    refine lv_iload_n hx hb dX4_worthIn_11 rfl (lv_at hl 3 rfl) ?_
    refine lv_iconst (v := (1 : Int32)) hx hb dX4_worthIn_12 (by decide) ?_
    refine lv_icmp_ne (tgt := 20) hx hb dX4_worthIn_13 (by decide) (fun c4 => ?_) (fun c4 => ?_)
    · rw [if_neg c4] at h
      refine lv_iconst (v := (0 : Int32)) hx hb dX4_worthIn_20 (by decide) ?_
      exact W.iret (v := (0 : Int32)) hx hb hr (fun t ht hW => by rw [hqq]; have hh := Option.some.inj h; exact ⟨⟨(0 : Int32), (()), rfl, Option.some.inj h, by rw [ht]; exact hP, va_K.moved hW.alike hK⟩, hS.F ht⟩) hS.2.2 dX4_worthIn_21
    · rw [if_pos c4] at h
      refine lv_iload_n hx hb dX4_worthIn_16 rfl (lv_at hl 0 rfl) ?_
      refine lv_goto (tgt := 21) hx hb dX4_worthIn_17 (by decide) ?_
      exact W.iret (v := v1) hx hb hr (fun t ht hW => by rw [hqq]; have hh := Option.some.inj h; exact ⟨⟨v1, (()), rfl, Option.some.inj h, by rw [ht]; exact hP, va_K.moved hW.alike hK⟩, hS.F ht⟩) hS.2.2 dX4_worthIn_21

abbrev w_X4_owedBy (cy : Nat → ClassId) (a0 : Nat → Nat) (gd : Int32 × Int32 × (Nat → Int32) × (Nat → Int32) × (Nat → Int32) × (Nat → Int32)) : va_W := [(a0 0, .inr (2, [.int (gd.1), .int (gd.2.1), .ref (a0 1), .ref (a0 2), .ref (a0 3), .ref (a0 4)])), (a0 1, .inl (cy 1, 10, .inl (gd.2.2.1))), (a0 2, .inl (cy 1, 10, .inl (gd.2.2.2.1))), (a0 3, .inl (cy 1, 10, .inl (gd.2.2.2.2.1))), (a0 4, .inl (cy 1, 50, .inl (gd.2.2.2.2.2)))]
abbrev rm_X4_owedBy : Room := { frames := 4, cells := 0, slots := 0, locals := 93 }
set_option maxHeartbeats 1000000 in
set_option maxRecDepth 100000 in
theorem c_X4_owedBy (l : Launch) (dC : Nat → ClassId) (dI : Nat → Nat → Nat) (cy : Nat → ClassId) (a0 : Nat → Nat) (gd : Int32 × Int32 × (Nat → Int32) × (Nat → Int32) × (Nat → Int32) × (Nat → Int32)) (x1 : Int32) (x2 : Int32) (sz : Nat) (R0 : Int64) (h : p_X4_owedBy gd x1 x2 = some R0) : Met l yX4_owedBy wsX4_owedBy rm_X4_owedBy (va_Pc [.ref (a0 0), .int x1, .int x2] (prC dC dI cy (w_X4_owedBy cy a0 gd) sz)) (va_Ql (fun (r : Int64) (_ : Unit) => r = R0) (fun (_ : Unit) t => poC dC dI cy (w_X4_owedBy cy a0 gd) t) (va_A (w_X4_owedBy cy a0 gd) sz)) 0 0 (va_A (w_X4_owedBy cy a0 gd) sz) := by
  refine Met.ofW (cc := cX4_owedBy) (maxL := 6) (ret := (some .long)) (by decide) rfl ?_
  intro p e s m aa below meth c s₁ B hml hv
  obtain ⟨haa, hsz, hP, hK, hD0⟩ := hv
  have hx := B.exec
  have hb := B.bytes
  have hr := B.returns
  have hts := atoms_spec (ws := wsX4_owedBy) B.pre
  have hown : s.vm.findClass RX4 = some m.cls := findClass_of_methodNamed B.named
  have hlocks := B.notSynchronized
  subst hsz
  have hD := hD0.self (sz := s.heap.size)
  obtain ⟨qq, hqq⟩ : ∃ qq, qq = (va_Ql (fun (r : Int64) (_ : Unit) => r = R0) (fun (_ : Unit) t => poC dC dI cy (w_X4_owedBy cy a0 gd) t) (va_A (w_X4_owedBy cy a0 gd) s.heap.size)) := ⟨_, rfl⟩
  rw [← hqq]
  generalize hAe : va_A (w_X4_owedBy cy a0 gd) s.heap.size = A at hD hqq ⊢
  have hA : ∀ q : Nat, s.heap.size ≤ q → A q := fun q h => by rw [← hAe]; exact Or.inr h
  have hS : va_S A s.heap s.heap [] := va_S.rf
  have hl := lv_entry ([.ref (a0 0), .int x1, .int x2]) (n := 6) (Nat.le_of_ble_eq_true rfl)
  have hE : entryFrame m aa 6 = F0 m 0 ((lg_sl ([.ref (a0 0), .int x1, .int x2]) ++ List.replicate (6 - (lg_sl ([.ref (a0 0), .int x1, .int x2])).length) Slot.unset).toArray) [] := by rw [haa]; exact lg_entry_eq m _ 6
  refine W.eq hE ?_
  generalize (lg_sl ([.ref (a0 0), .int x1, .int x2]) ++ List.replicate (6 - (lg_sl ([.ref (a0 0), .int x1, .int x2])).length) Slot.unset).toArray = ls at hl ⊢
  have hl : lv_has ls 6 [(0, .ref (a0 0)), (1, .int x1), (2, .int x2)] := hl
  change W p l e rm_X4_owedBy s m aa below meth c s.heap [] 0 0 (MQ below qq aa s 0 0 A) (F0 m 0 ls [])
  have hS0 := hS
  have c33 : ∀ (k5 : Int32 → Int32 → Int64 → Int32 → Option (Int64)) (hk5 : ∀ (x1 : Int32) (x2 : Int32) (x3 : Int64) (x5 : Int32) (H : Heap) (locs : List Loc) (ls : Array Slot), k5 x1 x2 x3 x5 = some R0 → va_P (dC, dI) vwCl (w_X4_owedBy cy a0 gd) H → va_D A (w_X4_owedBy cy a0 gd) → va_S A s.heap H locs → lv_has ls 6 [(0, .ref (a0 0)), (1, .int x1), (2, .int x2), (3, .long x3), (5, .int x5)] → W p l e rm_X4_owedBy s m aa below meth c H locs 0 0 (MQ below qq aa s 0 0 A) (F0 m 5 ls [])), ∀ (x1 : Int32) (x2 : Int32) (x3 : Int64) (x5 : Int32) (H : Heap) (locs : List Loc) (ls : Array Slot), p_X4_owedBy_33 k5 gd x1 x2 x3 x5 = some R0 → va_P (dC, dI) vwCl (w_X4_owedBy cy a0 gd) H → va_D A (w_X4_owedBy cy a0 gd) → va_S A s.heap H locs → lv_has ls 6 [(0, .ref (a0 0)), (1, .int x1), (2, .int x2), (3, .long x3), (5, .int x5)] → W p l e rm_X4_owedBy s m aa below meth c H locs 0 0 (MQ below qq aa s 0 0 A) (F0 m 33 ls []) := by
    intro k5 hk5 x1 x2 x3 x5 H locs ls h hP hD hS hl
    unfold p_X4_owedBy_33 at h
    refine lv_iinc (v := (x5 + (1 : Int32))) (lv' := [(5, .int (x5 + (1 : Int32))), (0, .ref (a0 0)), (1, .int x1), (2, .int x2), (3, .long x3)]) hx hb dX4_owedBy_33 hl (k := 4) rfl rfl (by decide) rfl (fun ls hl => ?_)
    refine lv_goto (tgt := 5) hx hb dX4_owedBy_36 (by decide) ?_
    exact hk5 x1 x2 x3 (x5 + (1 : Int32)) H locs ls h hP hD hS (lv_sub hl [1, 2, 3, 4, 0] rfl)
  have c5 : ∀ (n : Nat), ∀ (x1 : Int32) (x2 : Int32) (x3 : Int64) (x5 : Int32) (H : Heap) (locs : List Loc) (ls : Array Slot), p_X4_owedBy_5 gd n x1 x2 x3 x5 = some R0 → va_P (dC, dI) vwCl (w_X4_owedBy cy a0 gd) H → va_D A (w_X4_owedBy cy a0 gd) → va_S A s.heap H locs → lv_has ls 6 [(0, .ref (a0 0)), (1, .int x1), (2, .int x2), (3, .long x3), (5, .int x5)] → W p l e rm_X4_owedBy s m aa below meth c H locs 0 0 (MQ below qq aa s 0 0 A) (F0 m 5 ls []) := by
    intro  n
    induction n with
    | zero => intro x1 x2 x3 x5 H locs ls h; exact no_some h
    | succ n ih =>
      intro x1 x2 x3 x5 H locs ls h hP hD hS hl
      rw [p_X4_owedBy_5.eq_2] at h
      refine lv_iload hx hb dX4_owedBy_5 (lv_at hl 4 rfl) ?_
      refine lv_bipush (v := (10 : Int32)) hx hb dX4_owedBy_7 (by decide) ?_
      refine lv_icmp_ge (tgt := 39) hx hb dX4_owedBy_9 (by decide) (fun c1 => ?_) (fun c1 => ?_)
      · rw [if_pos c1] at h
        refine lv_lload_n hx hb dX4_owedBy_39 rfl (lv_at hl 3 rfl) ?_
        exact W.lret (v := x3) hx hb hr (fun t ht hW => by rw [hqq]; have hh := Option.some.inj h; exact ⟨⟨x3, (()), rfl, Option.some.inj h, by rw [ht]; exact hP, va_K.moved hW.alike hK⟩, hS.F ht⟩) hS.2.2 dX4_owedBy_40
      · rw [if_neg c1] at h
        refine lv_aload_n hx hb dX4_owedBy_12 rfl (lv_at hl 0 rfl) ?_
        refine lv_iload hx hb dX4_owedBy_13 (lv_at hl 4 rfl) ?_
        obtain ⟨v2, hv3, h⟩ := ok_bind h
        refine cl_vi (w2 := fun (_ : Unit) => w_X4_owedBy cy a0 gd) (As := [.int x5]) (rest := []) ⟨hx, hb, hml, hown, hts⟩ (c_X4_debtorOf l dC dI cy a0 gd x5 H.size v2 hv3) (cwV 1 hts gX4_owedBy_X4_debtorOf rfl rfl rfl (by decide +kernel) ⟨Nat.le_of_ble_eq_true rfl, Nat.le_of_ble_eq_true rfl⟩) (va_recv hK hP (ci := 2) (q0 := 0) rfl rfl) cl_blind (cl_pre hK hP hD [0, 1, 2, 3, 4] (by decide) rfl) hP hD hS hA [0, 1, 2, 3, 4] rfl rfl hl.1 rfl (lv_room (Nat.le_of_ble_eq_true rfl)) dX4_owedBy_15 ⟨Nat.le_of_ble_eq_true rfl, Nat.le_of_ble_eq_true rfl⟩ ⟨rfl, rfl⟩ (fun _ => updR [0, 1, 2, 3, 4] rfl) (fun r u H locs hw hP hD hS => ?_)
        have hw := hw.symm
        subst hw
        have hP : va_P (dC, dI) vwCl (w_X4_owedBy cy a0 gd) H := hP
        have hD : va_D A (w_X4_owedBy cy a0 gd) := hD
        refine lv_iload_n hx hb dX4_owedBy_18 rfl (lv_at hl 1 rfl) ?_
        refine lv_icmp_ne (tgt := 33) hx hb dX4_owedBy_19 (by decide) (fun c4 => ?_) (fun c4 => ?_)
        · rw [if_neg c4] at h
          exact c33 (p_X4_owedBy_5 gd n) ih x1 x2 x3 x5 H locs ls h hP hD hS (lv_sub hl [0, 1, 2, 3, 4] rfl)
        · rw [if_pos c4] at h
          refine lv_lload_n hx hb dX4_owedBy_22 rfl (lv_at hl 3 rfl) ?_
          refine lv_aload_n hx hb dX4_owedBy_23 rfl (lv_at hl 0 rfl) ?_
          refine lv_iload hx hb dX4_owedBy_24 (lv_at hl 4 rfl) ?_
          refine lv_iload_n hx hb dX4_owedBy_26 rfl (lv_at hl 2 rfl) ?_
          obtain ⟨v5, hv6, h⟩ := ok_bind h
          refine cl_vi (w2 := fun (_ : Unit) => w_X4_owedBy cy a0 gd) (As := [.int x5, .int x2]) (rest := [.long x3]) ⟨hx, hb, hml, hown, hts⟩ (c_X4_worthIn l dC dI cy a0 gd x5 x2 H.size v5 hv6) (cwV 2 hts gX4_owedBy_X4_worthIn rfl rfl rfl (by decide +kernel) ⟨Nat.le_of_ble_eq_true rfl, Nat.le_of_ble_eq_true rfl⟩) (va_recv hK hP (ci := 2) (q0 := 0) rfl rfl) cl_blind (cl_pre hK hP hD [0, 1, 2, 3, 4] (by decide) rfl) hP hD hS hA [0, 1, 2, 3, 4] rfl rfl hl.1 rfl (lv_room (Nat.le_of_ble_eq_true rfl)) dX4_owedBy_27 ⟨Nat.le_of_ble_eq_true rfl, Nat.le_of_ble_eq_true rfl⟩ ⟨rfl, rfl⟩ (fun _ => updR [0, 1, 2, 3, 4] rfl) (fun r u H locs hw hP hD hS => ?_)
          have hw := hw.symm
          subst hw
          have hP : va_P (dC, dI) vwCl (w_X4_owedBy cy a0 gd) H := hP
          have hD : va_D A (w_X4_owedBy cy a0 gd) := hD
          refine lv_i2l hx hb dX4_owedBy_30 rfl ?_
          refine lv_ladd hx hb dX4_owedBy_31 ?_
          refine lv_lstore_n (lv' := [(3, .long (x3 + v5.toInt64)), (0, .ref (a0 0)), (1, .int x1), (2, .int x2), (5, .int x5)]) hx hb dX4_owedBy_32 rfl hl (by decide) rfl (fun ls hl => ?_)
          exact c33 (p_X4_owedBy_5 gd n) ih x1 x2 (x3 + v5.toInt64) x5 H locs ls h hP hD hS (lv_sub hl [1, 2, 3, 0, 4] rfl)
  obtain ⟨H, hH⟩ : ∃ H : Heap, H = s.heap := ⟨_, rfl⟩
  obtain ⟨locs, hlocs⟩ : ∃ locs : List Loc, locs = [] := ⟨_, rfl⟩
  have hS : va_S A s.heap H locs := by rw [hH, hlocs]; exact hS
  rw [← hH] at hP
  suffices hg : W p l e rm_X4_owedBy s m aa below meth c H locs 0 0 (MQ below qq aa s 0 0 A) (F0 m 0 ls []) by subst hH; subst hlocs; exact hg
  unfold p_X4_owedBy at h
  refine lv_lconst (v := (0 : Int64)) hx hb dX4_owedBy_0 (by decide) ?_
  refine lv_lstore_n (lv' := [(3, .long (0 : Int64)), (0, .ref (a0 0)), (1, .int x1), (2, .int x2)]) hx hb dX4_owedBy_1 rfl hl (by decide) rfl (fun ls hl => ?_)
  refine lv_iconst (v := (0 : Int32)) hx hb dX4_owedBy_2 (by decide) ?_
  refine lv_istore (lv' := [(5, .int (0 : Int32)), (3, .long (0 : Int64)), (0, .ref (a0 0)), (1, .int x1), (2, .int x2)]) hx hb dX4_owedBy_3 hl (by decide) rfl (fun ls hl => ?_)
  exact c5 fu x1 x2 (0 : Int64) (0 : Int32) H locs ls h hP hD hS (lv_sub hl [2, 3, 4, 1, 0] rfl)

abbrev w_X4_owedTo (cy : Nat → ClassId) (a0 : Nat → Nat) (gd : Int32 × Int32 × (Nat → Int32) × (Nat → Int32) × (Nat → Int32) × (Nat → Int32)) : va_W := [(a0 0, .inr (2, [.int (gd.1), .int (gd.2.1), .ref (a0 1), .ref (a0 2), .ref (a0 3), .ref (a0 4)])), (a0 1, .inl (cy 1, 10, .inl (gd.2.2.1))), (a0 2, .inl (cy 1, 10, .inl (gd.2.2.2.1))), (a0 3, .inl (cy 1, 10, .inl (gd.2.2.2.2.1))), (a0 4, .inl (cy 1, 50, .inl (gd.2.2.2.2.2)))]
abbrev rm_X4_owedTo : Room := { frames := 4, cells := 0, slots := 0, locals := 93 }
set_option maxHeartbeats 1000000 in
set_option maxRecDepth 100000 in
theorem c_X4_owedTo (l : Launch) (dC : Nat → ClassId) (dI : Nat → Nat → Nat) (cy : Nat → ClassId) (a0 : Nat → Nat) (gd : Int32 × Int32 × (Nat → Int32) × (Nat → Int32) × (Nat → Int32) × (Nat → Int32)) (x1 : Int32) (x2 : Int32) (sz : Nat) (R0 : Int64) (h : p_X4_owedTo gd x1 x2 = some R0) : Met l yX4_owedTo wsX4_owedTo rm_X4_owedTo (va_Pc [.ref (a0 0), .int x1, .int x2] (prC dC dI cy (w_X4_owedTo cy a0 gd) sz)) (va_Ql (fun (r : Int64) (_ : Unit) => r = R0) (fun (_ : Unit) t => poC dC dI cy (w_X4_owedTo cy a0 gd) t) (va_A (w_X4_owedTo cy a0 gd) sz)) 0 0 (va_A (w_X4_owedTo cy a0 gd) sz) := by
  refine Met.ofW (cc := cX4_owedTo) (maxL := 6) (ret := (some .long)) (by decide) rfl ?_
  intro p e s m aa below meth c s₁ B hml hv
  obtain ⟨haa, hsz, hP, hK, hD0⟩ := hv
  have hx := B.exec
  have hb := B.bytes
  have hr := B.returns
  have hts := atoms_spec (ws := wsX4_owedTo) B.pre
  have hown : s.vm.findClass RX4 = some m.cls := findClass_of_methodNamed B.named
  have hlocks := B.notSynchronized
  subst hsz
  have hD := hD0.self (sz := s.heap.size)
  obtain ⟨qq, hqq⟩ : ∃ qq, qq = (va_Ql (fun (r : Int64) (_ : Unit) => r = R0) (fun (_ : Unit) t => poC dC dI cy (w_X4_owedTo cy a0 gd) t) (va_A (w_X4_owedTo cy a0 gd) s.heap.size)) := ⟨_, rfl⟩
  rw [← hqq]
  generalize hAe : va_A (w_X4_owedTo cy a0 gd) s.heap.size = A at hD hqq ⊢
  have hA : ∀ q : Nat, s.heap.size ≤ q → A q := fun q h => by rw [← hAe]; exact Or.inr h
  have hS : va_S A s.heap s.heap [] := va_S.rf
  have hl := lv_entry ([.ref (a0 0), .int x1, .int x2]) (n := 6) (Nat.le_of_ble_eq_true rfl)
  have hE : entryFrame m aa 6 = F0 m 0 ((lg_sl ([.ref (a0 0), .int x1, .int x2]) ++ List.replicate (6 - (lg_sl ([.ref (a0 0), .int x1, .int x2])).length) Slot.unset).toArray) [] := by rw [haa]; exact lg_entry_eq m _ 6
  refine W.eq hE ?_
  generalize (lg_sl ([.ref (a0 0), .int x1, .int x2]) ++ List.replicate (6 - (lg_sl ([.ref (a0 0), .int x1, .int x2])).length) Slot.unset).toArray = ls at hl ⊢
  have hl : lv_has ls 6 [(0, .ref (a0 0)), (1, .int x1), (2, .int x2)] := hl
  change W p l e rm_X4_owedTo s m aa below meth c s.heap [] 0 0 (MQ below qq aa s 0 0 A) (F0 m 0 ls [])
  have hS0 := hS
  have c33 : ∀ (k5 : Int32 → Int32 → Int64 → Int32 → Option (Int64)) (hk5 : ∀ (x1 : Int32) (x2 : Int32) (x3 : Int64) (x5 : Int32) (H : Heap) (locs : List Loc) (ls : Array Slot), k5 x1 x2 x3 x5 = some R0 → va_P (dC, dI) vwCl (w_X4_owedTo cy a0 gd) H → va_D A (w_X4_owedTo cy a0 gd) → va_S A s.heap H locs → lv_has ls 6 [(0, .ref (a0 0)), (1, .int x1), (2, .int x2), (3, .long x3), (5, .int x5)] → W p l e rm_X4_owedTo s m aa below meth c H locs 0 0 (MQ below qq aa s 0 0 A) (F0 m 5 ls [])), ∀ (x1 : Int32) (x2 : Int32) (x3 : Int64) (x5 : Int32) (H : Heap) (locs : List Loc) (ls : Array Slot), p_X4_owedTo_33 k5 gd x1 x2 x3 x5 = some R0 → va_P (dC, dI) vwCl (w_X4_owedTo cy a0 gd) H → va_D A (w_X4_owedTo cy a0 gd) → va_S A s.heap H locs → lv_has ls 6 [(0, .ref (a0 0)), (1, .int x1), (2, .int x2), (3, .long x3), (5, .int x5)] → W p l e rm_X4_owedTo s m aa below meth c H locs 0 0 (MQ below qq aa s 0 0 A) (F0 m 33 ls []) := by
    intro k5 hk5 x1 x2 x3 x5 H locs ls h hP hD hS hl
    unfold p_X4_owedTo_33 at h
    refine lv_iinc (v := (x5 + (1 : Int32))) (lv' := [(5, .int (x5 + (1 : Int32))), (0, .ref (a0 0)), (1, .int x1), (2, .int x2), (3, .long x3)]) hx hb dX4_owedTo_33 hl (k := 4) rfl rfl (by decide) rfl (fun ls hl => ?_)
    refine lv_goto (tgt := 5) hx hb dX4_owedTo_36 (by decide) ?_
    exact hk5 x1 x2 x3 (x5 + (1 : Int32)) H locs ls h hP hD hS (lv_sub hl [1, 2, 3, 4, 0] rfl)
  have c5 : ∀ (n : Nat), ∀ (x1 : Int32) (x2 : Int32) (x3 : Int64) (x5 : Int32) (H : Heap) (locs : List Loc) (ls : Array Slot), p_X4_owedTo_5 gd n x1 x2 x3 x5 = some R0 → va_P (dC, dI) vwCl (w_X4_owedTo cy a0 gd) H → va_D A (w_X4_owedTo cy a0 gd) → va_S A s.heap H locs → lv_has ls 6 [(0, .ref (a0 0)), (1, .int x1), (2, .int x2), (3, .long x3), (5, .int x5)] → W p l e rm_X4_owedTo s m aa below meth c H locs 0 0 (MQ below qq aa s 0 0 A) (F0 m 5 ls []) := by
    intro  n
    induction n with
    | zero => intro x1 x2 x3 x5 H locs ls h; exact no_some h
    | succ n ih =>
      intro x1 x2 x3 x5 H locs ls h hP hD hS hl
      rw [p_X4_owedTo_5.eq_2] at h
      refine lv_iload hx hb dX4_owedTo_5 (lv_at hl 4 rfl) ?_
      refine lv_bipush (v := (10 : Int32)) hx hb dX4_owedTo_7 (by decide) ?_
      refine lv_icmp_ge (tgt := 39) hx hb dX4_owedTo_9 (by decide) (fun c1 => ?_) (fun c1 => ?_)
      · rw [if_pos c1] at h
        refine lv_lload_n hx hb dX4_owedTo_39 rfl (lv_at hl 3 rfl) ?_
        exact W.lret (v := x3) hx hb hr (fun t ht hW => by rw [hqq]; have hh := Option.some.inj h; exact ⟨⟨x3, (()), rfl, Option.some.inj h, by rw [ht]; exact hP, va_K.moved hW.alike hK⟩, hS.F ht⟩) hS.2.2 dX4_owedTo_40
      · rw [if_neg c1] at h
        refine lv_aload_n hx hb dX4_owedTo_12 rfl (lv_at hl 0 rfl) ?_
        refine lv_iload hx hb dX4_owedTo_13 (lv_at hl 4 rfl) ?_
        obtain ⟨v2, hv3, h⟩ := ok_bind h
        refine cl_vi (w2 := fun (_ : Unit) => w_X4_owedTo cy a0 gd) (As := [.int x5]) (rest := []) ⟨hx, hb, hml, hown, hts⟩ (c_X4_lenderOf l dC dI cy a0 gd x5 H.size v2 hv3) (cwV 1 hts gX4_owedTo_X4_lenderOf rfl rfl rfl (by decide +kernel) ⟨Nat.le_of_ble_eq_true rfl, Nat.le_of_ble_eq_true rfl⟩) (va_recv hK hP (ci := 2) (q0 := 0) rfl rfl) cl_blind (cl_pre hK hP hD [0, 1, 2, 3, 4] (by decide) rfl) hP hD hS hA [0, 1, 2, 3, 4] rfl rfl hl.1 rfl (lv_room (Nat.le_of_ble_eq_true rfl)) dX4_owedTo_15 ⟨Nat.le_of_ble_eq_true rfl, Nat.le_of_ble_eq_true rfl⟩ ⟨rfl, rfl⟩ (fun _ => updR [0, 1, 2, 3, 4] rfl) (fun r u H locs hw hP hD hS => ?_)
        have hw := hw.symm
        subst hw
        have hP : va_P (dC, dI) vwCl (w_X4_owedTo cy a0 gd) H := hP
        have hD : va_D A (w_X4_owedTo cy a0 gd) := hD
        refine lv_iload_n hx hb dX4_owedTo_18 rfl (lv_at hl 1 rfl) ?_
        refine lv_icmp_ne (tgt := 33) hx hb dX4_owedTo_19 (by decide) (fun c4 => ?_) (fun c4 => ?_)
        · rw [if_neg c4] at h
          exact c33 (p_X4_owedTo_5 gd n) ih x1 x2 x3 x5 H locs ls h hP hD hS (lv_sub hl [0, 1, 2, 3, 4] rfl)
        · rw [if_pos c4] at h
          refine lv_lload_n hx hb dX4_owedTo_22 rfl (lv_at hl 3 rfl) ?_
          refine lv_aload_n hx hb dX4_owedTo_23 rfl (lv_at hl 0 rfl) ?_
          refine lv_iload hx hb dX4_owedTo_24 (lv_at hl 4 rfl) ?_
          refine lv_iload_n hx hb dX4_owedTo_26 rfl (lv_at hl 2 rfl) ?_
          obtain ⟨v5, hv6, h⟩ := ok_bind h
          refine cl_vi (w2 := fun (_ : Unit) => w_X4_owedTo cy a0 gd) (As := [.int x5, .int x2]) (rest := [.long x3]) ⟨hx, hb, hml, hown, hts⟩ (c_X4_worthIn l dC dI cy a0 gd x5 x2 H.size v5 hv6) (cwV 2 hts gX4_owedTo_X4_worthIn rfl rfl rfl (by decide +kernel) ⟨Nat.le_of_ble_eq_true rfl, Nat.le_of_ble_eq_true rfl⟩) (va_recv hK hP (ci := 2) (q0 := 0) rfl rfl) cl_blind (cl_pre hK hP hD [0, 1, 2, 3, 4] (by decide) rfl) hP hD hS hA [0, 1, 2, 3, 4] rfl rfl hl.1 rfl (lv_room (Nat.le_of_ble_eq_true rfl)) dX4_owedTo_27 ⟨Nat.le_of_ble_eq_true rfl, Nat.le_of_ble_eq_true rfl⟩ ⟨rfl, rfl⟩ (fun _ => updR [0, 1, 2, 3, 4] rfl) (fun r u H locs hw hP hD hS => ?_)
          have hw := hw.symm
          subst hw
          have hP : va_P (dC, dI) vwCl (w_X4_owedTo cy a0 gd) H := hP
          have hD : va_D A (w_X4_owedTo cy a0 gd) := hD
          refine lv_i2l hx hb dX4_owedTo_30 rfl ?_
          refine lv_ladd hx hb dX4_owedTo_31 ?_
          refine lv_lstore_n (lv' := [(3, .long (x3 + v5.toInt64)), (0, .ref (a0 0)), (1, .int x1), (2, .int x2), (5, .int x5)]) hx hb dX4_owedTo_32 rfl hl (by decide) rfl (fun ls hl => ?_)
          exact c33 (p_X4_owedTo_5 gd n) ih x1 x2 (x3 + v5.toInt64) x5 H locs ls h hP hD hS (lv_sub hl [1, 2, 3, 0, 4] rfl)
  obtain ⟨H, hH⟩ : ∃ H : Heap, H = s.heap := ⟨_, rfl⟩
  obtain ⟨locs, hlocs⟩ : ∃ locs : List Loc, locs = [] := ⟨_, rfl⟩
  have hS : va_S A s.heap H locs := by rw [hH, hlocs]; exact hS
  rw [← hH] at hP
  suffices hg : W p l e rm_X4_owedTo s m aa below meth c H locs 0 0 (MQ below qq aa s 0 0 A) (F0 m 0 ls []) by subst hH; subst hlocs; exact hg
  unfold p_X4_owedTo at h
  refine lv_lconst (v := (0 : Int64)) hx hb dX4_owedTo_0 (by decide) ?_
  refine lv_lstore_n (lv' := [(3, .long (0 : Int64)), (0, .ref (a0 0)), (1, .int x1), (2, .int x2)]) hx hb dX4_owedTo_1 rfl hl (by decide) rfl (fun ls hl => ?_)
  refine lv_iconst (v := (0 : Int32)) hx hb dX4_owedTo_2 (by decide) ?_
  refine lv_istore (lv' := [(5, .int (0 : Int32)), (3, .long (0 : Int64)), (0, .ref (a0 0)), (1, .int x1), (2, .int x2)]) hx hb dX4_owedTo_3 hl (by decide) rfl (fun ls hl => ?_)
  exact c5 fu x1 x2 (0 : Int64) (0 : Int32) H locs ls h hP hD hS (lv_sub hl [2, 3, 4, 1, 0] rfl)

abbrev w_X4_netOf (cy : Nat → ClassId) (a0 : Nat → Nat) (gd : Int32 × Int32 × (Nat → Int32) × (Nat → Int32) × (Nat → Int32) × (Nat → Int32)) : va_W := [(a0 0, .inr (2, [.int (gd.1), .int (gd.2.1), .ref (a0 1), .ref (a0 2), .ref (a0 3), .ref (a0 4)])), (a0 1, .inl (cy 1, 10, .inl (gd.2.2.1))), (a0 2, .inl (cy 1, 10, .inl (gd.2.2.2.1))), (a0 3, .inl (cy 1, 10, .inl (gd.2.2.2.2.1))), (a0 4, .inl (cy 1, 50, .inl (gd.2.2.2.2.2)))]
abbrev rm_X4_netOf : Room := { frames := 5, cells := 0, slots := 0, locals := 118 }
set_option maxHeartbeats 1000000 in
set_option maxRecDepth 100000 in
theorem c_X4_netOf (l : Launch) (dC : Nat → ClassId) (dI : Nat → Nat → Nat) (cy : Nat → ClassId) (a0 : Nat → Nat) (gd : Int32 × Int32 × (Nat → Int32) × (Nat → Int32) × (Nat → Int32) × (Nat → Int32)) (x1 : Int32) (x2 : Int32) (sz : Nat) (R0 : Int64) (h : p_X4_netOf gd x1 x2 = some R0) : Met l yX4_netOf wsX4_netOf rm_X4_netOf (va_Pc [.ref (a0 0), .int x1, .int x2] (prC dC dI cy (w_X4_netOf cy a0 gd) sz)) (va_Ql (fun (r : Int64) (_ : Unit) => r = R0) (fun (_ : Unit) t => poC dC dI cy (w_X4_netOf cy a0 gd) t) (va_A (w_X4_netOf cy a0 gd) sz)) 0 0 (va_A (w_X4_netOf cy a0 gd) sz) := by
  refine Met.ofW (cc := cX4_netOf) (maxL := 3) (ret := (some .long)) (by decide) rfl ?_
  intro p e s m aa below meth c s₁ B hml hv
  obtain ⟨haa, hsz, hP, hK, hD0⟩ := hv
  have hx := B.exec
  have hb := B.bytes
  have hr := B.returns
  have hts := atoms_spec (ws := wsX4_netOf) B.pre
  have hown : s.vm.findClass RX4 = some m.cls := findClass_of_methodNamed B.named
  have hlocks := B.notSynchronized
  subst hsz
  have hD := hD0.self (sz := s.heap.size)
  obtain ⟨qq, hqq⟩ : ∃ qq, qq = (va_Ql (fun (r : Int64) (_ : Unit) => r = R0) (fun (_ : Unit) t => poC dC dI cy (w_X4_netOf cy a0 gd) t) (va_A (w_X4_netOf cy a0 gd) s.heap.size)) := ⟨_, rfl⟩
  rw [← hqq]
  generalize hAe : va_A (w_X4_netOf cy a0 gd) s.heap.size = A at hD hqq ⊢
  have hA : ∀ q : Nat, s.heap.size ≤ q → A q := fun q h => by rw [← hAe]; exact Or.inr h
  have hS : va_S A s.heap s.heap [] := va_S.rf
  have hl := lv_entry ([.ref (a0 0), .int x1, .int x2]) (n := 3) (Nat.le_of_ble_eq_true rfl)
  have hE : entryFrame m aa 3 = F0 m 0 ((lg_sl ([.ref (a0 0), .int x1, .int x2]) ++ List.replicate (3 - (lg_sl ([.ref (a0 0), .int x1, .int x2])).length) Slot.unset).toArray) [] := by rw [haa]; exact lg_entry_eq m _ 3
  refine W.eq hE ?_
  generalize (lg_sl ([.ref (a0 0), .int x1, .int x2]) ++ List.replicate (3 - (lg_sl ([.ref (a0 0), .int x1, .int x2])).length) Slot.unset).toArray = ls at hl ⊢
  have hl : lv_has ls 3 [(0, .ref (a0 0)), (1, .int x1), (2, .int x2)] := hl
  change W p l e rm_X4_netOf s m aa below meth c s.heap [] 0 0 (MQ below qq aa s 0 0 A) (F0 m 0 ls [])
  have hS0 := hS
  obtain ⟨H, hH⟩ : ∃ H : Heap, H = s.heap := ⟨_, rfl⟩
  obtain ⟨locs, hlocs⟩ : ∃ locs : List Loc, locs = [] := ⟨_, rfl⟩
  have hS : va_S A s.heap H locs := by rw [hH, hlocs]; exact hS
  rw [← hH] at hP
  suffices hg : W p l e rm_X4_netOf s m aa below meth c H locs 0 0 (MQ below qq aa s 0 0 A) (F0 m 0 ls []) by subst hH; subst hlocs; exact hg
  unfold p_X4_netOf at h
  refine lv_aload_n hx hb dX4_netOf_0 rfl (lv_at hl 0 rfl) ?_
  refine lv_iload_n hx hb dX4_netOf_1 rfl (lv_at hl 1 rfl) ?_
  refine lv_iload_n hx hb dX4_netOf_2 rfl (lv_at hl 2 rfl) ?_
  obtain ⟨v1, hv2, h⟩ := ok_bind h
  refine cl_vl (w2 := fun (_ : Unit) => w_X4_netOf cy a0 gd) (As := [.int x1, .int x2]) (rest := []) ⟨hx, hb, hml, hown, hts⟩ (c_X4_owedTo l dC dI cy a0 gd x1 x2 H.size v1 hv2) (cwV 2 hts gX4_netOf_X4_owedTo rfl rfl rfl (by decide +kernel) ⟨Nat.le_of_ble_eq_true rfl, Nat.le_of_ble_eq_true rfl⟩) (va_recv hK hP (ci := 2) (q0 := 0) rfl rfl) cl_blind (cl_pre hK hP hD [0, 1, 2, 3, 4] (by decide) rfl) hP hD hS hA [0, 1, 2, 3, 4] rfl rfl hl.1 rfl (lv_room (Nat.le_of_ble_eq_true rfl)) dX4_netOf_3 ⟨Nat.le_of_ble_eq_true rfl, Nat.le_of_ble_eq_true rfl⟩ ⟨rfl, rfl⟩ (fun _ => updR [0, 1, 2, 3, 4] rfl) (fun r u H locs hw hP hD hS => ?_)
  have hw := hw.symm
  subst hw
  have hP : va_P (dC, dI) vwCl (w_X4_netOf cy a0 gd) H := hP
  have hD : va_D A (w_X4_netOf cy a0 gd) := hD
  refine lv_aload_n hx hb dX4_netOf_6 rfl (lv_at hl 0 rfl) ?_
  refine lv_iload_n hx hb dX4_netOf_7 rfl (lv_at hl 1 rfl) ?_
  refine lv_iload_n hx hb dX4_netOf_8 rfl (lv_at hl 2 rfl) ?_
  obtain ⟨v3, hv4, h⟩ := ok_bind h
  refine cl_vl (w2 := fun (_ : Unit) => w_X4_netOf cy a0 gd) (As := [.int x1, .int x2]) (rest := [.long v1]) ⟨hx, hb, hml, hown, hts⟩ (c_X4_owedBy l dC dI cy a0 gd x1 x2 H.size v3 hv4) (cwV 2 hts gX4_netOf_X4_owedBy rfl rfl rfl (by decide +kernel) ⟨Nat.le_of_ble_eq_true rfl, Nat.le_of_ble_eq_true rfl⟩) (va_recv hK hP (ci := 2) (q0 := 0) rfl rfl) cl_blind (cl_pre hK hP hD [0, 1, 2, 3, 4] (by decide) rfl) hP hD hS hA [0, 1, 2, 3, 4] rfl rfl hl.1 rfl (lv_room (Nat.le_of_ble_eq_true rfl)) dX4_netOf_9 ⟨Nat.le_of_ble_eq_true rfl, Nat.le_of_ble_eq_true rfl⟩ ⟨rfl, rfl⟩ (fun _ => updR [0, 1, 2, 3, 4] rfl) (fun r u H locs hw hP hD hS => ?_)
  have hw := hw.symm
  subst hw
  have hP : va_P (dC, dI) vwCl (w_X4_netOf cy a0 gd) H := hP
  have hD : va_D A (w_X4_netOf cy a0 gd) := hD
  refine lv_lsub hx hb dX4_netOf_12 ?_
  exact W.lret (v := (v1 - v3)) hx hb hr (fun t ht hW => by rw [hqq]; have hh := Option.some.inj h; exact ⟨⟨(v1 - v3), (()), rfl, Option.some.inj h, by rw [ht]; exact hP, va_K.moved hW.alike hK⟩, hS.F ht⟩) hS.2.2 dX4_netOf_13

abbrev w_X4_bitsWithout (cy : Nat → ClassId) (a0 : Nat → Nat) (gd : Int32 × Int32 × (Nat → Int32) × (Nat → Int32) × (Nat → Int32) × (Nat → Int32)) : va_W := [(a0 0, .inr (2, [.int (gd.1), .int (gd.2.1), .ref (a0 1), .ref (a0 2), .ref (a0 3), .ref (a0 4)])), (a0 1, .inl (cy 1, 10, .inl (gd.2.2.1))), (a0 2, .inl (cy 1, 10, .inl (gd.2.2.2.1))), (a0 3, .inl (cy 1, 10, .inl (gd.2.2.2.2.1))), (a0 4, .inl (cy 1, 50, .inl (gd.2.2.2.2.2)))]
abbrev rm_X4_bitsWithout : Room := { frames := 2, cells := 0, slots := 0, locals := 42 }
set_option maxHeartbeats 1000000 in
set_option maxRecDepth 100000 in
theorem c_X4_bitsWithout (l : Launch) (dC : Nat → ClassId) (dI : Nat → Nat → Nat) (cy : Nat → ClassId) (a0 : Nat → Nat) (gd : Int32 × Int32 × (Nat → Int32) × (Nat → Int32) × (Nat → Int32) × (Nat → Int32)) (x1 : Int32) (sz : Nat) (R0 : Int32) (h : p_X4_bitsWithout gd x1 = some R0) : Met l yX4_bitsWithout wsX4_bitsWithout rm_X4_bitsWithout (va_Pc [.ref (a0 0), .int x1] (prC dC dI cy (w_X4_bitsWithout cy a0 gd) sz)) (va_Qi (fun (r : Int32) (_ : Unit) => r = R0) (fun (_ : Unit) t => poC dC dI cy (w_X4_bitsWithout cy a0 gd) t) (va_A (w_X4_bitsWithout cy a0 gd) sz)) 0 0 (va_A (w_X4_bitsWithout cy a0 gd) sz) := by
  refine Met.ofW (cc := cX4_bitsWithout) (maxL := 4) (ret := (some .int)) (by decide) rfl ?_
  intro p e s m aa below meth c s₁ B hml hv
  obtain ⟨haa, hsz, hP, hK, hD0⟩ := hv
  have hx := B.exec
  have hb := B.bytes
  have hr := B.returns
  have hts := atoms_spec (ws := wsX4_bitsWithout) B.pre
  have hown : s.vm.findClass RX4 = some m.cls := findClass_of_methodNamed B.named
  have hlocks := B.notSynchronized
  subst hsz
  have hD := hD0.self (sz := s.heap.size)
  obtain ⟨qq, hqq⟩ : ∃ qq, qq = (va_Qi (fun (r : Int32) (_ : Unit) => r = R0) (fun (_ : Unit) t => poC dC dI cy (w_X4_bitsWithout cy a0 gd) t) (va_A (w_X4_bitsWithout cy a0 gd) s.heap.size)) := ⟨_, rfl⟩
  rw [← hqq]
  generalize hAe : va_A (w_X4_bitsWithout cy a0 gd) s.heap.size = A at hD hqq ⊢
  have hA : ∀ q : Nat, s.heap.size ≤ q → A q := fun q h => by rw [← hAe]; exact Or.inr h
  have hS : va_S A s.heap s.heap [] := va_S.rf
  have hl := lv_entry ([.ref (a0 0), .int x1]) (n := 4) (Nat.le_of_ble_eq_true rfl)
  have hE : entryFrame m aa 4 = F0 m 0 ((lg_sl ([.ref (a0 0), .int x1]) ++ List.replicate (4 - (lg_sl ([.ref (a0 0), .int x1])).length) Slot.unset).toArray) [] := by rw [haa]; exact lg_entry_eq m _ 4
  refine W.eq hE ?_
  generalize (lg_sl ([.ref (a0 0), .int x1]) ++ List.replicate (4 - (lg_sl ([.ref (a0 0), .int x1])).length) Slot.unset).toArray = ls at hl ⊢
  have hl : lv_has ls 4 [(0, .ref (a0 0)), (1, .int x1)] := hl
  change W p l e rm_X4_bitsWithout s m aa below meth c s.heap [] 0 0 (MQ below qq aa s 0 0 A) (F0 m 0 ls [])
  have hS0 := hS
  have c42 : ∀ (k4 : Int32 → Int32 → Int32 → Option (Int32)) (hk4 : ∀ (x1 : Int32) (x2 : Int32) (x3 : Int32) (H : Heap) (locs : List Loc) (ls : Array Slot), k4 x1 x2 x3 = some R0 → va_P (dC, dI) vwCl (w_X4_bitsWithout cy a0 gd) H → va_D A (w_X4_bitsWithout cy a0 gd) → va_S A s.heap H locs → lv_has ls 4 [(0, .ref (a0 0)), (1, .int x1), (2, .int x2), (3, .int x3)] → W p l e rm_X4_bitsWithout s m aa below meth c H locs 0 0 (MQ below qq aa s 0 0 A) (F0 m 4 ls [])), ∀ (x1 : Int32) (x2 : Int32) (x3 : Int32) (H : Heap) (locs : List Loc) (ls : Array Slot), p_X4_bitsWithout_42 k4 gd x1 x2 x3 = some R0 → va_P (dC, dI) vwCl (w_X4_bitsWithout cy a0 gd) H → va_D A (w_X4_bitsWithout cy a0 gd) → va_S A s.heap H locs → lv_has ls 4 [(0, .ref (a0 0)), (1, .int x1), (2, .int x2), (3, .int x3)] → W p l e rm_X4_bitsWithout s m aa below meth c H locs 0 0 (MQ below qq aa s 0 0 A) (F0 m 42 ls []) := by
    intro k4 hk4 x1 x2 x3 H locs ls h hP hD hS hl
    unfold p_X4_bitsWithout_42 at h
    refine lv_iinc (v := (x3 + (1 : Int32))) (lv' := [(3, .int (x3 + (1 : Int32))), (0, .ref (a0 0)), (1, .int x1), (2, .int x2)]) hx hb dX4_bitsWithout_42 hl (k := 3) rfl rfl (by decide) rfl (fun ls hl => ?_)
    refine lv_goto (tgt := 4) hx hb dX4_bitsWithout_45 (by decide) ?_
    exact hk4 x1 x2 (x3 + (1 : Int32)) H locs ls h hP hD hS (lv_sub hl [1, 2, 3, 0] rfl)
  have c4 : ∀ (n : Nat), ∀ (x1 : Int32) (x2 : Int32) (x3 : Int32) (H : Heap) (locs : List Loc) (ls : Array Slot), p_X4_bitsWithout_4 gd n x1 x2 x3 = some R0 → va_P (dC, dI) vwCl (w_X4_bitsWithout cy a0 gd) H → va_D A (w_X4_bitsWithout cy a0 gd) → va_S A s.heap H locs → lv_has ls 4 [(0, .ref (a0 0)), (1, .int x1), (2, .int x2), (3, .int x3)] → W p l e rm_X4_bitsWithout s m aa below meth c H locs 0 0 (MQ below qq aa s 0 0 A) (F0 m 4 ls []) := by
    intro  n
    induction n with
    | zero => intro x1 x2 x3 H locs ls h; exact no_some h
    | succ n ih =>
      intro x1 x2 x3 H locs ls h hP hD hS hl
      rw [p_X4_bitsWithout_4.eq_2] at h
      refine lv_iload_n hx hb dX4_bitsWithout_4 rfl (lv_at hl 3 rfl) ?_
      refine lv_bipush (v := (10 : Int32)) hx hb dX4_bitsWithout_5 (by decide) ?_
      refine lv_icmp_ge (tgt := 48) hx hb dX4_bitsWithout_7 (by decide) (fun c1 => ?_) (fun c1 => ?_)
      · rw [if_pos c1] at h
        refine lv_iload_n hx hb dX4_bitsWithout_48 rfl (lv_at hl 2 rfl) ?_
        exact W.iret (v := x2) hx hb hr (fun t ht hW => by rw [hqq]; have hh := Option.some.inj h; exact ⟨⟨x2, (()), rfl, Option.some.inj h, by rw [ht]; exact hP, va_K.moved hW.alike hK⟩, hS.F ht⟩) hS.2.2 dX4_bitsWithout_49
      · rw [if_neg c1] at h
        refine lv_aload_n hx hb dX4_bitsWithout_10 rfl (lv_at hl 0 rfl) ?_
        refine lv_iload_n hx hb dX4_bitsWithout_11 rfl (lv_at hl 3 rfl) ?_
        obtain ⟨v2, hv3, h⟩ := ok_bind h
        refine cl_vi (w2 := fun (_ : Unit) => w_X4_bitsWithout cy a0 gd) (As := [.int x3]) (rest := []) ⟨hx, hb, hml, hown, hts⟩ (c_X4_has l dC dI cy a0 gd x3 H.size v2 hv3) (cwV 1 hts gX4_bitsWithout_X4_has rfl rfl rfl (by decide +kernel) ⟨Nat.le_of_ble_eq_true rfl, Nat.le_of_ble_eq_true rfl⟩) (va_recv hK hP (ci := 2) (q0 := 0) rfl rfl) cl_blind (cl_pre hK hP hD [0, 1, 2, 3, 4] (by decide) rfl) hP hD hS hA [0, 1, 2, 3, 4] rfl rfl hl.1 rfl (lv_room (Nat.le_of_ble_eq_true rfl)) dX4_bitsWithout_12 ⟨Nat.le_of_ble_eq_true rfl, Nat.le_of_ble_eq_true rfl⟩ ⟨rfl, rfl⟩ (fun _ => updR [0, 1, 2, 3, 4] rfl) (fun r u H locs hw hP hD hS => ?_)
        have hw := hw.symm
        subst hw
        have hP : va_P (dC, dI) vwCl (w_X4_bitsWithout cy a0 gd) H := hP
        have hD : va_D A (w_X4_bitsWithout cy a0 gd) := hD
        refine lv_if_eq (tgt := 42) hx hb dX4_bitsWithout_15 (by decide) (fun c4 => ?_) (fun c4 => ?_)
        · rw [if_pos c4] at h
          exact c42 (p_X4_bitsWithout_4 gd n) ih x1 x2 x3 H locs ls h hP hD hS (lv_sub hl [0, 1, 2, 3] rfl)
        · rw [if_neg c4] at h
          refine lv_aload_n hx hb dX4_bitsWithout_18 rfl (lv_at hl 0 rfl) ?_
          refine lv_iload_n hx hb dX4_bitsWithout_19 rfl (lv_at hl 3 rfl) ?_
          obtain ⟨v5, hv6, h⟩ := ok_bind h
          refine cl_vi (w2 := fun (_ : Unit) => w_X4_bitsWithout cy a0 gd) (As := [.int x3]) (rest := []) ⟨hx, hb, hml, hown, hts⟩ (c_X4_debtorOf l dC dI cy a0 gd x3 H.size v5 hv6) (cwV 1 hts gX4_bitsWithout_X4_debtorOf rfl rfl rfl (by decide +kernel) ⟨Nat.le_of_ble_eq_true rfl, Nat.le_of_ble_eq_true rfl⟩) (va_recv hK hP (ci := 2) (q0 := 0) rfl rfl) cl_blind (cl_pre hK hP hD [0, 1, 2, 3, 4] (by decide) rfl) hP hD hS hA [0, 1, 2, 3, 4] rfl rfl hl.1 rfl (lv_room (Nat.le_of_ble_eq_true rfl)) dX4_bitsWithout_20 ⟨Nat.le_of_ble_eq_true rfl, Nat.le_of_ble_eq_true rfl⟩ ⟨rfl, rfl⟩ (fun _ => updR [0, 1, 2, 3, 4] rfl) (fun r u H locs hw hP hD hS => ?_)
          have hw := hw.symm
          subst hw
          have hP : va_P (dC, dI) vwCl (w_X4_bitsWithout cy a0 gd) H := hP
          have hD : va_D A (w_X4_bitsWithout cy a0 gd) := hD
          refine lv_iload_n hx hb dX4_bitsWithout_23 rfl (lv_at hl 1 rfl) ?_
          refine lv_icmp_eq (tgt := 42) hx hb dX4_bitsWithout_24 (by decide) (fun c7 => ?_) (fun c7 => ?_)
          · rw [if_pos c7] at h
            exact c42 (p_X4_bitsWithout_4 gd n) ih x1 x2 x3 H locs ls h hP hD hS (lv_sub hl [0, 1, 2, 3] rfl)
          · rw [if_neg c7] at h
            refine lv_aload_n hx hb dX4_bitsWithout_27 rfl (lv_at hl 0 rfl) ?_
            refine lv_iload_n hx hb dX4_bitsWithout_28 rfl (lv_at hl 3 rfl) ?_
            obtain ⟨v8, hv9, h⟩ := ok_bind h
            refine cl_vi (w2 := fun (_ : Unit) => w_X4_bitsWithout cy a0 gd) (As := [.int x3]) (rest := []) ⟨hx, hb, hml, hown, hts⟩ (c_X4_lenderOf l dC dI cy a0 gd x3 H.size v8 hv9) (cwV 1 hts gX4_bitsWithout_X4_lenderOf rfl rfl rfl (by decide +kernel) ⟨Nat.le_of_ble_eq_true rfl, Nat.le_of_ble_eq_true rfl⟩) (va_recv hK hP (ci := 2) (q0 := 0) rfl rfl) cl_blind (cl_pre hK hP hD [0, 1, 2, 3, 4] (by decide) rfl) hP hD hS hA [0, 1, 2, 3, 4] rfl rfl hl.1 rfl (lv_room (Nat.le_of_ble_eq_true rfl)) dX4_bitsWithout_29 ⟨Nat.le_of_ble_eq_true rfl, Nat.le_of_ble_eq_true rfl⟩ ⟨rfl, rfl⟩ (fun _ => updR [0, 1, 2, 3, 4] rfl) (fun r u H locs hw hP hD hS => ?_)
            have hw := hw.symm
            subst hw
            have hP : va_P (dC, dI) vwCl (w_X4_bitsWithout cy a0 gd) H := hP
            have hD : va_D A (w_X4_bitsWithout cy a0 gd) := hD
            refine lv_iload_n hx hb dX4_bitsWithout_32 rfl (lv_at hl 1 rfl) ?_
            refine lv_icmp_eq (tgt := 42) hx hb dX4_bitsWithout_33 (by decide) (fun c10 => ?_) (fun c10 => ?_)
            · rw [if_pos c10] at h
              exact c42 (p_X4_bitsWithout_4 gd n) ih x1 x2 x3 H locs ls h hP hD hS (lv_sub hl [0, 1, 2, 3] rfl)
            · rw [if_neg c10] at h
              refine lv_iload_n hx hb dX4_bitsWithout_36 rfl (lv_at hl 2 rfl) ?_
              refine lv_iconst (v := (1 : Int32)) hx hb dX4_bitsWithout_37 (by decide) ?_
              refine lv_iload_n hx hb dX4_bitsWithout_38 rfl (lv_at hl 3 rfl) ?_
              refine lv_ishl hx hb dX4_bitsWithout_39 ?_
              refine lv_ior hx hb dX4_bitsWithout_40 ?_
              refine lv_istore_n (lv' := [(2, .int (x2 ||| ((1 : Int32) <<< (x3 &&& 31)))), (0, .ref (a0 0)), (1, .int x1), (3, .int x3)]) hx hb dX4_bitsWithout_41 rfl hl (by decide) rfl (fun ls hl => ?_)
              exact c42 (p_X4_bitsWithout_4 gd n) ih x1 (x2 ||| ((1 : Int32) <<< (x3 &&& 31))) x3 H locs ls h hP hD hS (lv_sub hl [1, 2, 0, 3] rfl)
  obtain ⟨H, hH⟩ : ∃ H : Heap, H = s.heap := ⟨_, rfl⟩
  obtain ⟨locs, hlocs⟩ : ∃ locs : List Loc, locs = [] := ⟨_, rfl⟩
  have hS : va_S A s.heap H locs := by rw [hH, hlocs]; exact hS
  rw [← hH] at hP
  suffices hg : W p l e rm_X4_bitsWithout s m aa below meth c H locs 0 0 (MQ below qq aa s 0 0 A) (F0 m 0 ls []) by subst hH; subst hlocs; exact hg
  unfold p_X4_bitsWithout at h
  refine lv_iconst (v := (0 : Int32)) hx hb dX4_bitsWithout_0 (by decide) ?_
  refine lv_istore_n (lv' := [(2, .int (0 : Int32)), (0, .ref (a0 0)), (1, .int x1)]) hx hb dX4_bitsWithout_1 rfl hl (by decide) rfl (fun ls hl => ?_)
  refine lv_iconst (v := (0 : Int32)) hx hb dX4_bitsWithout_2 (by decide) ?_
  refine lv_istore_n (lv' := [(3, .int (0 : Int32)), (2, .int (0 : Int32)), (0, .ref (a0 0)), (1, .int x1)]) hx hb dX4_bitsWithout_3 rfl hl (by decide) rfl (fun ls hl => ?_)
  exact c4 fu x1 (0 : Int32) (0 : Int32) H locs ls h hP hD hS (lv_sub hl [2, 3, 1, 0] rfl)
