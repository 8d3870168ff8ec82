abbrev w_X3_readKind (cy : Nat → ClassId) (z : Nat → Nat) (a0 : Nat → Nat) (gdr : Nat × Int32 × Int32 × Int32 × Int32) (gr : Int32 × Int32 × Int32 × Int32 × Int32 × Int32 × Int32 × Int32 × Int32) (gtx : (Nat → Int32)) : va_W := [(a0 0, .inr (1, [.ref (a0 1), .ref (z (200 + gdr.1)), .int (gdr.2.1), .int (gdr.2.2.1), .int (gdr.2.2.2.1), .int (gdr.2.2.2.2)])), (a0 1, .inr (5, [.ref (a0 2), .int (gr.1), .int (gr.2.1), .int (gr.2.2.1), .int (gr.2.2.2.1), .int (gr.2.2.2.2.1), .int (gr.2.2.2.2.2.1), .int (gr.2.2.2.2.2.2.1), .int (gr.2.2.2.2.2.2.2.1), .int (gr.2.2.2.2.2.2.2.2)])), (a0 2, .inl (cy 0, 600, .inl (gtx)))]
abbrev rm_X3_readKind : Room := { frames := 5, cells := 0, slots := 0, locals := 107 }
set_option maxHeartbeats 1000000 in
set_option maxRecDepth 100000 in
theorem c_X3_readKind (l : Launch) (dC : Nat → ClassId) (dI : Nat → Nat → Nat) (cy : Nat → ClassId) (z : Nat → Nat) (a0 : Nat → Nat) (gdr : Nat × Int32 × Int32 × Int32 × Int32) (gr : Int32 × Int32 × Int32 × Int32 × Int32 × Int32 × Int32 × Int32 × Int32) (gtx : (Nat → Int32)) (sz : Nat) (R0 : Int32 × (Nat × Int32 × Int32 × Int32 × Int32)) (h : p_X3_readKind gdr gr gtx = some R0) : Met l yX3_readKind wsX3_readKind rm_X3_readKind (va_Pc [.ref (a0 0)] (prS dC dI cy z (w_X3_readKind cy z a0 gdr gr gtx) sz)) (va_Qi (fun (r : Int32) (u : (Nat × Int32 × Int32 × Int32 × Int32)) => r = R0.1 ∧ u = R0.2) (fun (u : (Nat × Int32 × Int32 × Int32 × Int32)) t => poC dC dI cy (w_X3_readKind cy z a0 u gr gtx) t) (va_A (w_X3_readKind cy z a0 gdr gr gtx) sz)) 0 0 (va_A (w_X3_readKind cy z a0 gdr gr gtx) sz) := by
  refine Met.ofW (cc := cX3_readKind) (maxL := 2) (ret := (some .boolean)) (by decide) rfl ?_
  intro p e s m aa below meth c s₁ B hml hv
  obtain ⟨haa, ⟨hsz, hP, hK, hD0⟩, hX⟩ := hv
  have hx := B.exec
  have hb := B.bytes
  have hr := B.returns
  have hts := atoms_spec (ws := wsX3_readKind) B.pre
  have hown : s.vm.findClass RX3 = some m.cls := findClass_of_methodNamed B.named
  have hlocks := B.notSynchronized
  subst hsz
  have hD := hD0.self (sz := s.heap.size)
  obtain ⟨qq, hqq⟩ : ∃ qq, qq = (va_Qi (fun (r : Int32) (u : (Nat × Int32 × Int32 × Int32 × Int32)) => r = R0.1 ∧ u = R0.2) (fun (u : (Nat × Int32 × Int32 × Int32 × Int32)) t => poC dC dI cy (w_X3_readKind cy z a0 u gr gtx) t) (va_A (w_X3_readKind cy z a0 gdr gr gtx) s.heap.size)) := ⟨_, rfl⟩
  rw [← hqq]
  generalize hAe : va_A (w_X3_readKind cy z a0 gdr gr gtx) s.heap.size = A at hD hqq hX ⊢
  have hA : ∀ q : Nat, s.heap.size ≤ q → A q := fun q h => by rw [← hAe]; exact Or.inr h
  have hS : va_S A s.heap s.heap [] := va_S.rf
  have hl := lv_entry ([.ref (a0 0)]) (n := 2) (Nat.le_of_ble_eq_true rfl)
  have hE : entryFrame m aa 2 = F0 m 0 ((lg_sl ([.ref (a0 0)]) ++ List.replicate (2 - (lg_sl ([.ref (a0 0)])).length) Slot.unset).toArray) [] := by rw [haa]; exact lg_entry_eq m _ 2
  refine W.eq hE ?_
  generalize (lg_sl ([.ref (a0 0)]) ++ List.replicate (2 - (lg_sl ([.ref (a0 0)])).length) Slot.unset).toArray = ls at hl ⊢
  have hl : lv_has ls 2 [(0, .ref (a0 0))] := hl
  change W p l e rm_X3_readKind s m aa below meth c s.heap [] 0 0 (MQ below qq aa s 0 0 A) (F0 m 0 ls [])
  have hS0 := hS
  have lk0 := hts (.fieldLink RX3 9 "GoatDoors$DayReader" "reader" "LGoatDoors$Reader;") (by decide +kernel)
  have lk1 := hts (.fieldLink RX3 88 "GoatDoors$Day" "word" "Ljava/lang/String;") (by decide +kernel)
  have lk2 := hts (.fieldLink RX3 21 "GoatDoors$DayReader" "day" "LGoatDoors$Day;") (by decide +kernel)
  have in_X3 : ∀ w ∈ wsX30, w ∈ wsX3_readKind := by decide +kernel
  have c2 : ∀ (n : Nat), ∀ (gdr : Nat × Int32 × Int32 × Int32 × Int32) (x1 : Int32) (H : Heap) (locs : List Loc) (ls : Array Slot), p_X3_readKind_2 gr gtx n gdr x1 = some R0 → va_P (dC, dI) vwCl (w_X3_readKind cy z a0 gdr gr gtx) H → va_D A (w_X3_readKind cy z a0 gdr gr gtx) → va_S A s.heap H locs → lv_has ls 2 [(0, .ref (a0 0)), (1, .int x1)] → W p l e rm_X3_readKind s m aa below meth c H locs 0 0 (MQ below qq aa s 0 0 A) (F0 m 2 ls []) := by
    intro  n
    induction n with
    | zero => intro gdr x1 H locs ls h; exact no_some h
    | succ n ih =>
      intro gdr x1 H locs ls h hP hD hS hl
      rw [p_X3_readKind_2.eq_2] at h
      refine lv_iload_n hx hb dX3_readKind_2 rfl (lv_at hl 1 rfl) ?_
      refine va_getsN hx hb hX.2.2.2.1.2.2.2.2.1 hS hown (va_Nw.use rfl hX.2.2.2.2.2.2.2) (fun _ h => h) dX3_readKind_3 ?_
      refine va_tlen (v := (8 : Int32)) hx hb hX.2.2.2.1.2.2.2.2.2.1 hS (by decide) dX3_readKind_6 ?_
      refine lv_icmp_ge (tgt := 45) hx hb dX3_readKind_7 (by decide) (fun c1 => ?_) (fun c1 => ?_)
      · rw [if_pos c1] at h
        refine lv_iconst (v := (0 : Int32)) hx hb dX3_readKind_45 (by decide) ?_
        exact W.zret (v := (0 : Int32)) (ty := .boolean) hx hb hr rfl (fun t ht hW => by rw [hqq]; have hh := Option.some.inj h; exact ⟨⟨(0 : Int32), (gdr), rfl, ⟨fst_of hh, snd_of hh⟩, by rw [ht]; exact hP, va_K.moved hW.alike hK⟩, hS.F ht⟩) hS.2.2 dX3_readKind_46
      · rw [if_neg c1] at h
        refine lv_aload_n hx hb dX3_readKind_10 rfl (lv_at hl 0 rfl) ?_
        refine va_get (D := (dC, dI)) (ci := 1) (v := .ref (a0 1)) (C := RX3) (T := TX3) (N := 6) hx hb hts in_X3 hown hK hP 0 rfl rfl 0 (by decide) lk0 (fun _ h9 => h9) rfl dX3_readKind_11 ?_
        refine va_getsN hx hb hX.2.2.2.1.2.2.2.2.1 hS hown (va_Nw.use rfl hX.2.2.2.2.2.2.2) (fun _ h => h) dX3_readKind_14 ?_
        refine lv_iload_n hx hb dX3_readKind_17 rfl (lv_at hl 1 rfl) ?_
        obtain ⟨hi2, h⟩ := ok_if h
        refine vb_tq (v := .ref (z (200 + x1.toNatClampNeg))) hx hb hX.2.2.2.1.2.2.2.2.2.1 hS (ix_in hi2) rfl dX3_readKind_18 ?_
        obtain ⟨hd3, h⟩ := ok_if h
        refine vk_getf hx hb (hX.2.2.2.1.2.2.2.1 x1.toNatClampNeg hd3) hS hown lk1 (fun _ h => h) dX3_readKind_19 ?_
        obtain ⟨v4, hv5, h⟩ := ok_bind h
        refine cl_vi (w2 := fun (_ : Unit) => w_X3_readKind cy z a0 gdr gr gtx) (As := [.ref (z (7 + x1.toNatClampNeg))]) (rest := []) ⟨hx, hb, hml, hown, hts⟩ (c_X7_isWord l dC dI cy z (fun k => a0 (k + 1)) gr gtx (7 + x1.toNatClampNeg) H.size v4 hv5) (cwV 1 hts gX3_readKind_X7_isWord rfl rfl rfl (by decide +kernel) ⟨Nat.le_of_ble_eq_true rfl, Nat.le_of_ble_eq_true rfl⟩) (va_recv hK hP (ci := 5) (q0 := 1) rfl rfl) cl_blindS (cl_preS hK hP hD hS hA hX [1, 2] (by decide) rfl) hP hD hS hA [1, 2] rfl rfl hl.1 rfl (lv_room (Nat.le_of_ble_eq_true rfl)) dX3_readKind_22 ⟨Nat.le_of_ble_eq_true rfl, Nat.le_of_ble_eq_true rfl⟩ ⟨rfl, rfl⟩ (fun _ => updR [1, 2] rfl) (fun r u H locs hw hP hD hS => ?_)
        have hw := hw.symm
        subst hw
        have hP : va_P (dC, dI) vwCl (w_X3_readKind cy z a0 gdr gr gtx) H := hP
        have hD : va_D A (w_X3_readKind cy z a0 gdr gr gtx) := hD
        refine lv_if_eq (tgt := 39) hx hb dX3_readKind_25 (by decide) (fun c6 => ?_) (fun c6 => ?_)
        · rw [if_pos c6] at h
          refine lv_iinc (v := (x1 + (1 : Int32))) (lv' := [(1, .int (x1 + (1 : Int32))), (0, .ref (a0 0))]) hx hb dX3_readKind_39 hl (k := 1) rfl rfl (by decide) rfl (fun ls hl => ?_)
          refine lv_goto (tgt := 2) hx hb dX3_readKind_42 (by decide) ?_
          exact ih gdr (x1 + (1 : Int32)) H locs ls h hP hD hS (lv_sub hl [1, 0] rfl)
        · rw [if_neg c6] at h
          refine lv_aload_n hx hb dX3_readKind_28 rfl (lv_at hl 0 rfl) ?_
          refine va_getsN hx hb hX.2.2.2.1.2.2.2.2.1 hS hown (va_Nw.use rfl hX.2.2.2.2.2.2.2) (fun _ h => h) dX3_readKind_29 ?_
          refine lv_iload_n hx hb dX3_readKind_32 rfl (lv_at hl 1 rfl) ?_
          obtain ⟨hi7, h⟩ := ok_if h
          refine vb_tq (v := .ref (z (200 + x1.toNatClampNeg))) hx hb hX.2.2.2.1.2.2.2.2.2.1 hS (ix_in hi7) rfl dX3_readKind_33 ?_
          refine va_put (D := (dC, dI)) (ci := 1) (v := .ref (z (200 + x1.toNatClampNeg))) (ty := .object "GoatDoors$Day") (C := RX3) (T := TX3) (N := 6) hx hb hts in_X3 tyX3 tyX3_ok nmX3 hown hK hP hD hS 0 rfl rfl 1 (by decide) lk2 (fun _ h9 => h9) rfl (by decide +kernel) rfl rfl (Nat.le_of_ble_eq_true rfl) dX3_readKind_34 (fun H locs hP hD hS => ?_)
          have hP : va_P (dC, dI) vwCl (w_X3_readKind cy z a0 ((x1.toNatClampNeg, gdr.2)) gr gtx) H := hP
          have hD : va_D A (w_X3_readKind cy z a0 ((x1.toNatClampNeg, gdr.2)) gr gtx) := hD
          refine lv_iconst (v := (1 : Int32)) hx hb dX3_readKind_37 (by decide) ?_
          exact W.zret (v := (1 : Int32)) (ty := .boolean) hx hb hr rfl (fun t ht hW => by rw [hqq]; have hh := Option.some.inj h; exact ⟨⟨(1 : Int32), ((x1.toNatClampNeg, gdr.2)), rfl, ⟨fst_of hh, snd_of hh⟩, by rw [ht]; exact hP, va_K.moved hW.alike hK⟩, hS.F ht⟩) hS.2.2 dX3_readKind_38
  obtain ⟨H, hH⟩ : ∃ H : Heap, H = s.heap := ⟨_, rfl⟩
  obtain ⟨locs, hlocs⟩ : ∃ locs : List Loc, locs = [] := ⟨_, rfl⟩
  have hS : va_S A s.heap H locs := by rw [hH, hlocs]; exact hS
  rw [← hH] at hP
  suffices hg : W p l e rm_X3_readKind s m aa below meth c H locs 0 0 (MQ below qq aa s 0 0 A) (F0 m 0 ls []) by subst hH; subst hlocs; exact hg
  unfold p_X3_readKind at h
  refine lv_iconst (v := (0 : Int32)) hx hb dX3_readKind_0 (by decide) ?_
  refine lv_istore_n (lv' := [(1, .int (0 : Int32)), (0, .ref (a0 0))]) hx hb dX3_readKind_1 rfl hl (by decide) rfl (fun ls hl => ?_)
  exact c2 fu gdr (0 : Int32) H locs ls h hP hD hS (lv_sub hl [1, 0] rfl)

abbrev w_X3_readAllOf (cy : Nat → ClassId) (z : Nat → Nat) (a0 : Nat → Nat) (gdr : Nat × Int32 × Int32 × Int32 × Int32) (gr : Int32 × Int32 × Int32 × Int32 × Int32 × Int32 × Int32 × Int32 × Int32) (gtx : (Nat → Int32)) : va_W := [(a0 0, .inr (1, [.ref (a0 1), .ref (z (200 + gdr.1)), .int (gdr.2.1), .int (gdr.2.2.1), .int (gdr.2.2.2.1), .int (gdr.2.2.2.2)])), (a0 1, .inr (5, [.ref (a0 2), .int (gr.1), .int (gr.2.1), .int (gr.2.2.1), .int (gr.2.2.2.1), .int (gr.2.2.2.2.1), .int (gr.2.2.2.2.2.1), .int (gr.2.2.2.2.2.2.1), .int (gr.2.2.2.2.2.2.2.1), .int (gr.2.2.2.2.2.2.2.2)])), (a0 2, .inl (cy 0, 600, .inl (gtx)))]
abbrev rm_X3_readAllOf : Room := { frames := 3, cells := 0, slots := 0, locals := 68 }
set_option maxHeartbeats 1000000 in
set_option maxRecDepth 100000 in
theorem c_X3_readAllOf (l : Launch) (dC : Nat → ClassId) (dI : Nat → Nat → Nat) (cy : Nat → ClassId) (z : Nat → Nat) (a0 : Nat → Nat) (gdr : Nat × Int32 × Int32 × Int32 × Int32) (gr : Int32 × Int32 × Int32 × Int32 × Int32 × Int32 × Int32 × Int32 × Int32) (gtx : (Nat → Int32)) (x1 : Int32) (x2 : Int32) (sz : Nat) (R0 : Int32 × (Nat × Int32 × Int32 × Int32 × Int32) × (Int32 × Int32 × Int32 × Int32 × Int32 × Int32 × Int32 × Int32 × Int32)) (h : p_X3_readAllOf gdr gr gtx x1 x2 = some R0) : Met l yX3_readAllOf wsX3_readAllOf rm_X3_readAllOf (va_Pc [.ref (a0 0), .int x1, .int x2] (prC dC dI cy (w_X3_readAllOf cy z a0 gdr gr gtx) sz)) (va_Qi (fun (r : Int32) (u : (Nat × Int32 × Int32 × Int32 × Int32) × (Int32 × Int32 × Int32 × Int32 × Int32 × Int32 × Int32 × Int32 × Int32)) => r = R0.1 ∧ u = R0.2) (fun (u : (Nat × Int32 × Int32 × Int32 × Int32) × (Int32 × Int32 × Int32 × Int32 × Int32 × Int32 × Int32 × Int32 × Int32)) t => poC dC dI cy (w_X3_readAllOf cy z a0 u.1 u.2 gtx) t) (va_A (w_X3_readAllOf cy z a0 gdr gr gtx) sz)) 0 0 (va_A (w_X3_readAllOf cy z a0 gdr gr gtx) sz) := by
  refine Met.ofW (cc := cX3_readAllOf) (maxL := 3) (ret := (some .boolean)) (by decide) rfl ?_
  intro p e s m aa below meth c s₁ B hml hv
  obtain ⟨haa, hsz, hP, hK, hD0⟩ := hv
  have hx := B.exec
  have hb := B.bytes
  have hr := B.returns
  have hts := atoms_spec (ws := wsX3_readAllOf) B.pre
  have hown : s.vm.findClass RX3 = some m.cls := findClass_of_methodNamed B.named
  have hlocks := B.notSynchronized
  subst hsz
  have hD := hD0.self (sz := s.heap.size)
  obtain ⟨qq, hqq⟩ : ∃ qq, qq = (va_Qi (fun (r : Int32) (u : (Nat × Int32 × Int32 × Int32 × Int32) × (Int32 × Int32 × Int32 × Int32 × Int32 × Int32 × Int32 × Int32 × Int32)) => r = R0.1 ∧ u = R0.2) (fun (u : (Nat × Int32 × Int32 × Int32 × Int32) × (Int32 × Int32 × Int32 × Int32 × Int32 × Int32 × Int32 × Int32 × Int32)) t => poC dC dI cy (w_X3_readAllOf cy z a0 u.1 u.2 gtx) t) (va_A (w_X3_readAllOf cy z a0 gdr gr gtx) s.heap.size)) := ⟨_, rfl⟩
  rw [← hqq]
  generalize hAe : va_A (w_X3_readAllOf cy z a0 gdr gr gtx) s.heap.size = A at hD hqq ⊢
  have hA : ∀ q : Nat, s.heap.size ≤ q → A q := fun q h => by rw [← hAe]; exact Or.inr h
  have hS : va_S A s.heap s.heap [] := va_S.rf
  have hl := lv_entry ([.ref (a0 0), .int x1, .int x2]) (n := 3) (Nat.le_of_ble_eq_true rfl)
  have hE : entryFrame m aa 3 = F0 m 0 ((lg_sl ([.ref (a0 0), .int x1, .int x2]) ++ List.replicate (3 - (lg_sl ([.ref (a0 0), .int x1, .int x2])).length) Slot.unset).toArray) [] := by rw [haa]; exact lg_entry_eq m _ 3
  refine W.eq hE ?_
  generalize (lg_sl ([.ref (a0 0), .int x1, .int x2]) ++ List.replicate (3 - (lg_sl ([.ref (a0 0), .int x1, .int x2])).length) Slot.unset).toArray = ls at hl ⊢
  have hl : lv_has ls 3 [(0, .ref (a0 0)), (1, .int x1), (2, .int x2)] := hl
  change W p l e rm_X3_readAllOf s m aa below meth c s.heap [] 0 0 (MQ below qq aa s 0 0 A) (F0 m 0 ls [])
  have hS0 := hS
  have lk0 := hts (.fieldLink RX3 9 "GoatDoors$DayReader" "reader" "LGoatDoors$Reader;") (by decide +kernel)
  have lk1 := hts (.fieldLink RX3 99 "GoatDoors$Reader" "value" "I") (by decide +kernel)
  have lk2 := hts (.fieldLink RX3 102 "GoatDoors$DayReader" "first" "I") (by decide +kernel)
  have lk3 := hts (.fieldLink RX3 105 "GoatDoors$DayReader" "second" "I") (by decide +kernel)
  have in_X3 : ∀ w ∈ wsX30, w ∈ wsX3_readAllOf := by decide +kernel
  have in_X7 : ∀ w ∈ wsX70, w ∈ wsX3_readAllOf := by decide +kernel
  obtain ⟨H, hH⟩ : ∃ H : Heap, H = s.heap := ⟨_, rfl⟩
  obtain ⟨locs, hlocs⟩ : ∃ locs : List Loc, locs = [] := ⟨_, rfl⟩
  have hS : va_S A s.heap H locs := by rw [hH, hlocs]; exact hS
  rw [← hH] at hP
  suffices hg : W p l e rm_X3_readAllOf s m aa below meth c H locs 0 0 (MQ below qq aa s 0 0 A) (F0 m 0 ls []) by subst hH; subst hlocs; exact hg
  unfold p_X3_readAllOf at h
  refine lv_iload_n hx hb dX3_readAllOf_0 rfl (lv_at hl 1 rfl) ?_
  refine lv_if_ne (tgt := 6) hx hb dX3_readAllOf_1 (by decide) (fun c1 => ?_) (fun c1 => ?_)
  · rw [if_neg c1] at h
    refine lv_aload_n hx hb dX3_readAllOf_6 rfl (lv_at hl 0 rfl) ?_
    refine va_get (D := (dC, dI)) (ci := 1) (v := .ref (a0 1)) (C := RX3) (T := TX3) (N := 6) hx hb hts in_X3 hown hK hP 0 rfl rfl 0 (by decide) lk0 (fun _ h9 => h9) rfl dX3_readAllOf_7 ?_
    refine lv_iload_n hx hb dX3_readAllOf_10 rfl (lv_at hl 2 rfl) ?_
    refine lv_iconst (v := (-1 : Int32)) hx hb dX3_readAllOf_11 (by decide) ?_
    obtain ⟨v2, hv3, h⟩ := ok_bind h
    refine cl_vi (w2 := fun (u : (Int32 × Int32 × Int32 × Int32 × Int32 × Int32 × Int32 × Int32 × Int32)) => w_X3_readAllOf cy z a0 gdr u gtx) (As := [.int x2, .int (-1 : Int32)]) (rest := []) ⟨hx, hb, hml, hown, hts⟩ (c_X7_takeOneOf l dC dI cy (fun k => a0 (k + 1)) gr gtx x2 (-1 : Int32) H.size v2 hv3) (cwV 2 hts gX3_readAllOf_X7_takeOneOf rfl rfl rfl (by decide +kernel) ⟨Nat.le_of_ble_eq_true rfl, Nat.le_of_ble_eq_true rfl⟩) (va_recv hK hP (ci := 5) (q0 := 1) rfl rfl) cl_blind (cl_pre hK hP hD [1, 2] (by decide) rfl) hP hD hS hA [1, 2] rfl rfl hl.1 rfl (lv_room (Nat.le_of_ble_eq_true rfl)) dX3_readAllOf_12 ⟨Nat.le_of_ble_eq_true rfl, Nat.le_of_ble_eq_true rfl⟩ ⟨rfl, rfl⟩ (fun _ => updM [1, 2] [0] [(a0 0, .inr (1, [.ref (a0 1), .ref (z (200 + gdr.1)), .int (gdr.2.1), .int (gdr.2.2.1), .int (gdr.2.2.2.1), .int (gdr.2.2.2.2)]))] 3 rfl rfl rfl rfl rfl (by decide +kernel) (by decide +kernel) rfl) (fun r u H locs hw hP hD hS => ?_)
    obtain ⟨rfl, rfl⟩ := hw
    have hP : va_P (dC, dI) vwCl (w_X3_readAllOf cy z a0 gdr v2.2 gtx) H := hP
    have hD : va_D A (w_X3_readAllOf cy z a0 gdr v2.2 gtx) := hD
    refine lv_if_ne (tgt := 20) hx hb dX3_readAllOf_15 (by decide) (fun c4 => ?_) (fun c4 => ?_)
    · rw [if_neg c4] at h
      refine lv_aload_n hx hb dX3_readAllOf_20 rfl (lv_at hl 0 rfl) ?_
      refine lv_aload_n hx hb dX3_readAllOf_21 rfl (lv_at hl 0 rfl) ?_
      refine va_get (D := (dC, dI)) (ci := 1) (v := .ref (a0 1)) (C := RX3) (T := TX3) (N := 6) hx hb hts in_X3 hown hK hP 0 rfl rfl 0 (by decide) lk0 (fun _ h9 => h9) rfl dX3_readAllOf_22 ?_
      refine va_get (D := (dC, dI)) (ci := 5) (v := .int v2.2.2.2.2.2.2.2.1) (C := RX7) (T := TX7) (N := 10) hx hb hts in_X7 hown hK hP 1 rfl rfl 7 (by decide) lk1 (fun _ h9 => h9) rfl dX3_readAllOf_25 ?_
      refine va_put (D := (dC, dI)) (ci := 1) (v := .int v2.2.2.2.2.2.2.2.1) (ty := .int) (C := RX3) (T := TX3) (N := 6) hx hb hts in_X3 tyX3 tyX3_ok nmX3 hown hK hP hD hS 0 rfl rfl 2 (by decide) lk2 (fun _ h9 => h9) rfl (by decide +kernel) rfl rfl (Nat.le_of_ble_eq_true rfl) dX3_readAllOf_28 (fun H locs hP hD hS => ?_)
      have hP : va_P (dC, dI) vwCl (w_X3_readAllOf cy z a0 ((gdr.1, v2.2.2.2.2.2.2.2.1, gdr.2.2)) v2.2 gtx) H := hP
      have hD : va_D A (w_X3_readAllOf cy z a0 ((gdr.1, v2.2.2.2.2.2.2.2.1, gdr.2.2)) v2.2 gtx) := hD
      refine lv_iload_n hx hb dX3_readAllOf_31 rfl (lv_at hl 1 rfl) ?_
      refine lv_iconst (v := (1 : Int32)) hx hb dX3_readAllOf_32 (by decide) ?_
      refine lv_icmp_ne (tgt := 38) hx hb dX3_readAllOf_33 (by decide) (fun c5 => ?_) (fun c5 => ?_)
      · rw [if_neg c5] at h
        refine lv_aload_n hx hb dX3_readAllOf_38 rfl (lv_at hl 0 rfl) ?_
        refine va_get (D := (dC, dI)) (ci := 1) (v := .ref (a0 1)) (C := RX3) (T := TX3) (N := 6) hx hb hts in_X3 hown hK hP 0 rfl rfl 0 (by decide) lk0 (fun _ h9 => h9) rfl dX3_readAllOf_39 ?_
        refine lv_iload_n hx hb dX3_readAllOf_42 rfl (lv_at hl 2 rfl) ?_
        refine lv_aload_n hx hb dX3_readAllOf_43 rfl (lv_at hl 0 rfl) ?_
        refine va_get (D := (dC, dI)) (ci := 1) (v := .int v2.2.2.2.2.2.2.2.1) (C := RX3) (T := TX3) (N := 6) hx hb hts in_X3 hown hK hP 0 rfl rfl 2 (by decide) lk2 (fun _ h9 => h9) rfl dX3_readAllOf_44 ?_
        obtain ⟨v6, hv7, h⟩ := ok_bind h
        refine cl_vi (w2 := fun (u : (Int32 × Int32 × Int32 × Int32 × Int32 × Int32 × Int32 × Int32 × Int32)) => w_X3_readAllOf cy z a0 ((gdr.1, v2.2.2.2.2.2.2.2.1, gdr.2.2)) u gtx) (As := [.int x2, .int v2.2.2.2.2.2.2.2.1]) (rest := []) ⟨hx, hb, hml, hown, hts⟩ (c_X7_takeOneOf l dC dI cy (fun k => a0 (k + 1)) v2.2 gtx x2 v2.2.2.2.2.2.2.2.1 H.size v6 hv7) (cwV 2 hts gX3_readAllOf_X7_takeOneOf rfl rfl rfl (by decide +kernel) ⟨Nat.le_of_ble_eq_true rfl, Nat.le_of_ble_eq_true rfl⟩) (va_recv hK hP (ci := 5) (q0 := 1) rfl rfl) cl_blind (cl_pre hK hP hD [1, 2] (by decide) rfl) hP hD hS hA [1, 2] rfl rfl hl.1 rfl (lv_room (Nat.le_of_ble_eq_true rfl)) dX3_readAllOf_47 ⟨Nat.le_of_ble_eq_true rfl, Nat.le_of_ble_eq_true rfl⟩ ⟨rfl, rfl⟩ (fun _ => updM [1, 2] [0] [(a0 0, .inr (1, [.ref (a0 1), .ref (z (200 + gdr.1)), .int (v2.2.2.2.2.2.2.2.1), .int (gdr.2.2.1), .int (gdr.2.2.2.1), .int (gdr.2.2.2.2)]))] 3 rfl rfl rfl rfl rfl (by decide +kernel) (by decide +kernel) rfl) (fun r u H locs hw hP hD hS => ?_)
        obtain ⟨rfl, rfl⟩ := hw
        have hP : va_P (dC, dI) vwCl (w_X3_readAllOf cy z a0 ((gdr.1, v2.2.2.2.2.2.2.2.1, gdr.2.2)) v6.2 gtx) H := hP
        have hD : va_D A (w_X3_readAllOf cy z a0 ((gdr.1, v2.2.2.2.2.2.2.2.1, gdr.2.2)) v6.2 gtx) := hD
        refine lv_if_ne (tgt := 55) hx hb dX3_readAllOf_50 (by decide) (fun c8 => ?_) (fun c8 => ?_)
        · rw [if_neg c8] at h
          refine lv_aload_n hx hb dX3_readAllOf_55 rfl (lv_at hl 0 rfl) ?_
          refine lv_aload_n hx hb dX3_readAllOf_56 rfl (lv_at hl 0 rfl) ?_
          refine va_get (D := (dC, dI)) (ci := 1) (v := .ref (a0 1)) (C := RX3) (T := TX3) (N := 6) hx hb hts in_X3 hown hK hP 0 rfl rfl 0 (by decide) lk0 (fun _ h9 => h9) rfl dX3_readAllOf_57 ?_
          refine va_get (D := (dC, dI)) (ci := 5) (v := .int v6.2.2.2.2.2.2.2.1) (C := RX7) (T := TX7) (N := 10) hx hb hts in_X7 hown hK hP 1 rfl rfl 7 (by decide) lk1 (fun _ h9 => h9) rfl dX3_readAllOf_60 ?_
          refine va_put (D := (dC, dI)) (ci := 1) (v := .int v6.2.2.2.2.2.2.2.1) (ty := .int) (C := RX3) (T := TX3) (N := 6) hx hb hts in_X3 tyX3 tyX3_ok nmX3 hown hK hP hD hS 0 rfl rfl 3 (by decide) lk3 (fun _ h9 => h9) rfl (by decide +kernel) rfl rfl (Nat.le_of_ble_eq_true rfl) dX3_readAllOf_63 (fun H locs hP hD hS => ?_)
          have hP : va_P (dC, dI) vwCl (w_X3_readAllOf cy z a0 ((gdr.1, v2.2.2.2.2.2.2.2.1, v6.2.2.2.2.2.2.2.1, gdr.2.2.2)) v6.2 gtx) H := hP
          have hD : va_D A (w_X3_readAllOf cy z a0 ((gdr.1, v2.2.2.2.2.2.2.2.1, v6.2.2.2.2.2.2.2.1, gdr.2.2.2)) v6.2 gtx) := hD
          refine lv_iconst (v := (1 : Int32)) hx hb dX3_readAllOf_66 (by decide) ?_
          exact W.zret (v := (1 : Int32)) (ty := .boolean) hx hb hr rfl (fun t ht hW => by rw [hqq]; have hh := Option.some.inj h; exact ⟨⟨(1 : Int32), (((gdr.1, v2.2.2.2.2.2.2.2.1, v6.2.2.2.2.2.2.2.1, gdr.2.2.2), v6.2)), rfl, ⟨fst_of hh, snd_of hh⟩, by rw [ht]; exact hP, va_K.moved hW.alike hK⟩, hS.F ht⟩) hS.2.2 dX3_readAllOf_67
        · rw [if_pos c8] at h
          refine lv_iconst (v := (0 : Int32)) hx hb dX3_readAllOf_53 (by decide) ?_
          exact W.zret (v := (0 : Int32)) (ty := .boolean) hx hb hr rfl (fun t ht hW => by rw [hqq]; have hh := Option.some.inj h; exact ⟨⟨(0 : Int32), (((gdr.1, v2.2.2.2.2.2.2.2.1, gdr.2.2), v6.2)), rfl, ⟨fst_of hh, snd_of hh⟩, by rw [ht]; exact hP, va_K.moved hW.alike hK⟩, hS.F ht⟩) hS.2.2 dX3_readAllOf_54
      · rw [if_pos c5] at h
        refine lv_iconst (v := (1 : Int32)) hx hb dX3_readAllOf_36 (by decide) ?_
        exact W.zret (v := (1 : Int32)) (ty := .boolean) hx hb hr rfl (fun t ht hW => by rw [hqq]; have hh := Option.some.inj h; exact ⟨⟨(1 : Int32), (((gdr.1, v2.2.2.2.2.2.2.2.1, gdr.2.2), v2.2)), rfl, ⟨fst_of hh, snd_of hh⟩, by rw [ht]; exact hP, va_K.moved hW.alike hK⟩, hS.F ht⟩) hS.2.2 dX3_readAllOf_37
    · rw [if_pos c4] at h
      refine lv_iconst (v := (0 : Int32)) hx hb dX3_readAllOf_18 (by decide) ?_
      exact W.zret (v := (0 : Int32)) (ty := .boolean) hx hb hr rfl (fun t ht hW => by rw [hqq]; have hh := Option.some.inj h; exact ⟨⟨(0 : Int32), ((gdr, v2.2)), rfl, ⟨fst_of hh, snd_of hh⟩, by rw [ht]; exact hP, va_K.moved hW.alike hK⟩, hS.F ht⟩) hS.2.2 dX3_readAllOf_19
  · rw [if_pos c1] at h
    refine lv_iconst (v := (1 : Int32)) hx hb dX3_readAllOf_4 (by decide) ?_
    exact W.zret (v := (1 : Int32)) (ty := .boolean) hx hb hr rfl (fun t ht hW => by rw [hqq]; have hh := Option.some.inj h; exact ⟨⟨(1 : Int32), ((gdr, gr)), rfl, ⟨fst_of hh, snd_of hh⟩, by rw [ht]; exact hP, va_K.moved hW.alike hK⟩, hS.F ht⟩) hS.2.2 dX3_readAllOf_5

abbrev w_X3_readAmount (cy : Nat → ClassId) (z : Nat → Nat) (a0 : Nat → Nat) (gdr : Nat × Int32 × Int32 × Int32 × Int32) (gr : Int32 × Int32 × Int32 × Int32 × Int32 × Int32 × Int32 × Int32 × Int32) (gtx : (Nat → Int32)) : va_W := [(a0 0, .inr (1, [.ref (a0 1), .ref (z (200 + gdr.1)), .int (gdr.2.1), .int (gdr.2.2.1), .int (gdr.2.2.2.1), .int (gdr.2.2.2.2)])), (a0 1, .inr (5, [.ref (a0 2), .int (gr.1), .int (gr.2.1), .int (gr.2.2.1), .int (gr.2.2.2.1), .int (gr.2.2.2.2.1), .int (gr.2.2.2.2.2.1), .int (gr.2.2.2.2.2.2.1), .int (gr.2.2.2.2.2.2.2.1), .int (gr.2.2.2.2.2.2.2.2)])), (a0 2, .inl (cy 0, 600, .inl (gtx)))]
abbrev rm_X3_readAmount : Room := { frames := 3, cells := 0, slots := 0, locals := 68 }
set_option maxHeartbeats 1000000 in
set_option maxRecDepth 100000 in
theorem c_X3_readAmount (l : Launch) (dC : Nat → ClassId) (dI : Nat → Nat → Nat) (cy : Nat → ClassId) (z : Nat → Nat) (a0 : Nat → Nat) (gdr : Nat × Int32 × Int32 × Int32 × Int32) (gr : Int32 × Int32 × Int32 × Int32 × Int32 × Int32 × Int32 × Int32 × Int32) (gtx : (Nat → Int32)) (sz : Nat) (R0 : Int32 × (Nat × Int32 × Int32 × Int32 × Int32) × (Int32 × Int32 × Int32 × Int32 × Int32 × Int32 × Int32 × Int32 × Int32)) (h : p_X3_readAmount gdr gr gtx = some R0) : Met l yX3_readAmount wsX3_readAmount rm_X3_readAmount (va_Pc [.ref (a0 0)] (prS dC dI cy z (w_X3_readAmount cy z a0 gdr gr gtx) sz)) (va_Qi (fun (r : Int32) (u : (Nat × Int32 × Int32 × Int32 × Int32) × (Int32 × Int32 × Int32 × Int32 × Int32 × Int32 × Int32 × Int32 × Int32)) => r = R0.1 ∧ u = R0.2) (fun (u : (Nat × Int32 × Int32 × Int32 × Int32) × (Int32 × Int32 × Int32 × Int32 × Int32 × Int32 × Int32 × Int32 × Int32)) t => poC dC dI cy (w_X3_readAmount cy z a0 u.1 u.2 gtx) t) (va_A (w_X3_readAmount cy z a0 gdr gr gtx) sz)) 0 0 (va_A (w_X3_readAmount cy z a0 gdr gr gtx) sz) := by
  refine Met.ofW (cc := cX3_readAmount) (maxL := 1) (ret := (some .boolean)) (by decide) rfl ?_
  intro p e s m aa below meth c s₁ B hml hv
  obtain ⟨haa, ⟨hsz, hP, hK, hD0⟩, hX⟩ := hv
  have hx := B.exec
  have hb := B.bytes
  have hr := B.returns
  have hts := atoms_spec (ws := wsX3_readAmount) B.pre
  have hown : s.vm.findClass RX3 = some m.cls := findClass_of_methodNamed B.named
  have hlocks := B.notSynchronized
  subst hsz
  have hD := hD0.self (sz := s.heap.size)
  obtain ⟨qq, hqq⟩ : ∃ qq, qq = (va_Qi (fun (r : Int32) (u : (Nat × Int32 × Int32 × Int32 × Int32) × (Int32 × Int32 × Int32 × Int32 × Int32 × Int32 × Int32 × Int32 × Int32)) => r = R0.1 ∧ u = R0.2) (fun (u : (Nat × Int32 × Int32 × Int32 × Int32) × (Int32 × Int32 × Int32 × Int32 × Int32 × Int32 × Int32 × Int32 × Int32)) t => poC dC dI cy (w_X3_readAmount cy z a0 u.1 u.2 gtx) t) (va_A (w_X3_readAmount cy z a0 gdr gr gtx) s.heap.size)) := ⟨_, rfl⟩
  rw [← hqq]
  generalize hAe : va_A (w_X3_readAmount cy z a0 gdr gr gtx) s.heap.size = A at hD hqq hX ⊢
  have hA : ∀ q : Nat, s.heap.size ≤ q → A q := fun q h => by rw [← hAe]; exact Or.inr h
  have hS : va_S A s.heap s.heap [] := va_S.rf
  have hl := lv_entry ([.ref (a0 0)]) (n := 1) (Nat.le_of_ble_eq_true rfl)
  have hE : entryFrame m aa 1 = F0 m 0 ((lg_sl ([.ref (a0 0)]) ++ List.replicate (1 - (lg_sl ([.ref (a0 0)])).length) Slot.unset).toArray) [] := by rw [haa]; exact lg_entry_eq m _ 1
  refine W.eq hE ?_
  generalize (lg_sl ([.ref (a0 0)]) ++ List.replicate (1 - (lg_sl ([.ref (a0 0)])).length) Slot.unset).toArray = ls at hl ⊢
  have hl : lv_has ls 1 [(0, .ref (a0 0))] := hl
  change W p l e rm_X3_readAmount s m aa below meth c s.heap [] 0 0 (MQ below qq aa s 0 0 A) (F0 m 0 ls [])
  have hS0 := hS
  have lk0 := hts (.fieldLink RX3 9 "GoatDoors$DayReader" "reader" "LGoatDoors$Reader;") (by decide +kernel)
  have lk1 := hts (.fieldLink RX3 21 "GoatDoors$DayReader" "day" "LGoatDoors$Day;") (by decide +kernel)
  have lk2 := hts (.fieldLink RX3 69 "GoatDoors$Day" "leastNumber" "I") (by decide +kernel)
  have lk3 := hts (.fieldLink RX3 99 "GoatDoors$Reader" "value" "I") (by decide +kernel)
  have lk4 := hts (.fieldLink RX3 111 "GoatDoors$DayReader" "amount" "I") (by decide +kernel)
  have in_X3 : ∀ w ∈ wsX30, w ∈ wsX3_readAmount := by decide +kernel
  have in_X7 : ∀ w ∈ wsX70, w ∈ wsX3_readAmount := by decide +kernel
  obtain ⟨H, hH⟩ : ∃ H : Heap, H = s.heap := ⟨_, rfl⟩
  obtain ⟨locs, hlocs⟩ : ∃ locs : List Loc, locs = [] := ⟨_, rfl⟩
  have hS : va_S A s.heap H locs := by rw [hH, hlocs]; exact hS
  rw [← hH] at hP
  suffices hg : W p l e rm_X3_readAmount s m aa below meth c H locs 0 0 (MQ below qq aa s 0 0 A) (F0 m 0 ls []) by subst hH; subst hlocs; exact hg
  unfold p_X3_readAmount at h
  refine lv_aload_n hx hb dX3_readAmount_0 rfl (lv_at hl 0 rfl) ?_
  refine va_get (D := (dC, dI)) (ci := 1) (v := .ref (a0 1)) (C := RX3) (T := TX3) (N := 6) hx hb hts in_X3 hown hK hP 0 rfl rfl 0 (by decide) lk0 (fun _ h9 => h9) rfl dX3_readAmount_1 ?_
  refine lv_aload_n hx hb dX3_readAmount_4 rfl (lv_at hl 0 rfl) ?_
  refine va_get (D := (dC, dI)) (ci := 1) (v := .ref (z (200 + gdr.1))) (C := RX3) (T := TX3) (N := 6) hx hb hts in_X3 hown hK hP 0 rfl rfl 1 (by decide) lk1 (fun _ h9 => h9) rfl dX3_readAmount_5 ?_
  obtain ⟨hd1, h⟩ := ok_if h
  refine va_getEc (q := dq_leastNumber) hx hb hX.2.2.2.1.2.2.1 (i := gdr.1) hd1 hS hown (by decide) lk2 (fun _ h => h) dX3_readAmount_8 ?_
  refine lv_bipush (v := (20 : Int32)) hx hb dX3_readAmount_11 (by decide) ?_
  obtain ⟨v2, hv3, h⟩ := ok_bind h
  refine cl_vi (w2 := fun (u : (Int32 × Int32 × Int32 × Int32 × Int32 × Int32 × Int32 × Int32 × Int32)) => w_X3_readAmount cy z a0 gdr u gtx) (As := [.int (dq_leastNumber.2.2.2.getD gdr.1 0), .int (20 : Int32)]) (rest := []) ⟨hx, hb, hml, hown, hts⟩ (c_X7_takeNumber l dC dI cy (fun k => a0 (k + 1)) gr gtx (dq_leastNumber.2.2.2.getD gdr.1 0) (20 : Int32) H.size v2 hv3) (cwV 2 hts gX3_readAmount_X7_takeNumber rfl rfl rfl (by decide +kernel) ⟨Nat.le_of_ble_eq_true rfl, Nat.le_of_ble_eq_true rfl⟩) (va_recv hK hP (ci := 5) (q0 := 1) rfl rfl) cl_blind (cl_pre hK hP hD [1, 2] (by decide) rfl) hP hD hS hA [1, 2] rfl rfl hl.1 rfl (lv_room (Nat.le_of_ble_eq_true rfl)) dX3_readAmount_13 ⟨Nat.le_of_ble_eq_true rfl, Nat.le_of_ble_eq_true rfl⟩ ⟨rfl, rfl⟩ (fun _ => updM [1, 2] [0] [(a0 0, .inr (1, [.ref (a0 1), .ref (z (200 + gdr.1)), .int (gdr.2.1), .int (gdr.2.2.1), .int (gdr.2.2.2.1), .int (gdr.2.2.2.2)]))] 3 rfl rfl rfl rfl rfl (by decide +kernel) (by decide +kernel) rfl) (fun r u H locs hw hP hD hS => ?_)
  obtain ⟨rfl, rfl⟩ := hw
  have hP : va_P (dC, dI) vwCl (w_X3_readAmount cy z a0 gdr v2.2 gtx) H := hP
  have hD : va_D A (w_X3_readAmount cy z a0 gdr v2.2 gtx) := hD
  refine lv_if_ne (tgt := 21) hx hb dX3_readAmount_16 (by decide) (fun c4 => ?_) (fun c4 => ?_)
  · rw [if_neg c4] at h
    refine lv_aload_n hx hb dX3_readAmount_21 rfl (lv_at hl 0 rfl) ?_
    refine lv_aload_n hx hb dX3_readAmount_22 rfl (lv_at hl 0 rfl) ?_
    refine va_get (D := (dC, dI)) (ci := 1) (v := .ref (a0 1)) (C := RX3) (T := TX3) (N := 6) hx hb hts in_X3 hown hK hP 0 rfl rfl 0 (by decide) lk0 (fun _ h9 => h9) rfl dX3_readAmount_23 ?_
    refine va_get (D := (dC, dI)) (ci := 5) (v := .int v2.2.2.2.2.2.2.2.1) (C := RX7) (T := TX7) (N := 10) hx hb hts in_X7 hown hK hP 1 rfl rfl 7 (by decide) lk3 (fun _ h9 => h9) rfl dX3_readAmount_26 ?_
    refine va_put (D := (dC, dI)) (ci := 1) (v := .int v2.2.2.2.2.2.2.2.1) (ty := .int) (C := RX3) (T := TX3) (N := 6) hx hb hts in_X3 tyX3 tyX3_ok nmX3 hown hK hP hD hS 0 rfl rfl 4 (by decide) lk4 (fun _ h9 => h9) rfl (by decide +kernel) rfl rfl (Nat.le_of_ble_eq_true rfl) dX3_readAmount_29 (fun H locs hP hD hS => ?_)
    have hP : va_P (dC, dI) vwCl (w_X3_readAmount cy z a0 ((gdr.1, gdr.2.1, gdr.2.2.1, v2.2.2.2.2.2.2.2.1, gdr.2.2.2.2)) v2.2 gtx) H := hP
    have hD : va_D A (w_X3_readAmount cy z a0 ((gdr.1, gdr.2.1, gdr.2.2.1, v2.2.2.2.2.2.2.2.1, gdr.2.2.2.2)) v2.2 gtx) := hD
    refine lv_iconst (v := (1 : Int32)) hx hb dX3_readAmount_32 (by decide) ?_
    exact W.zret (v := (1 : Int32)) (ty := .boolean) hx hb hr rfl (fun t ht hW => by rw [hqq]; have hh := Option.some.inj h; exact ⟨⟨(1 : Int32), (((gdr.1, gdr.2.1, gdr.2.2.1, v2.2.2.2.2.2.2.2.1, gdr.2.2.2.2), v2.2)), rfl, ⟨fst_of hh, snd_of hh⟩, by rw [ht]; exact hP, va_K.moved hW.alike hK⟩, hS.F ht⟩) hS.2.2 dX3_readAmount_33
  · rw [if_pos c4] at h
    refine lv_iconst (v := (0 : Int32)) hx hb dX3_readAmount_19 (by decide) ?_
    exact W.zret (v := (0 : Int32)) (ty := .boolean) hx hb hr rfl (fun t ht hW => by rw [hqq]; have hh := Option.some.inj h; exact ⟨⟨(0 : Int32), ((gdr, v2.2)), rfl, ⟨fst_of hh, snd_of hh⟩, by rw [ht]; exact hP, va_K.moved hW.alike hK⟩, hS.F ht⟩) hS.2.2 dX3_readAmount_20

abbrev w_X3_readDay (cy : Nat → ClassId) (z : Nat → Nat) (a0 : Nat → Nat) (gdr : Nat × Int32 × Int32 × Int32 × Int32) (gr : Int32 × Int32 × Int32 × Int32 × Int32 × Int32 × Int32 × Int32 × Int32) (gtx : (Nat → Int32)) : va_W := [(a0 0, .inr (1, [.ref (a0 1), .ref (z (200 + gdr.1)), .int (gdr.2.1), .int (gdr.2.2.1), .int (gdr.2.2.2.1), .int (gdr.2.2.2.2)])), (a0 1, .inr (5, [.ref (a0 2), .int (gr.1), .int (gr.2.1), .int (gr.2.2.1), .int (gr.2.2.2.1), .int (gr.2.2.2.2.1), .int (gr.2.2.2.2.2.1), .int (gr.2.2.2.2.2.2.1), .int (gr.2.2.2.2.2.2.2.1), .int (gr.2.2.2.2.2.2.2.2)])), (a0 2, .inl (cy 0, 600, .inl (gtx)))]
abbrev rm_X3_readDay : Room := { frames := 6, cells := 0, slots := 0, locals := 128 }
set_option maxHeartbeats 1000000 in
set_option maxRecDepth 100000 in
theorem c_X3_readDay (l : Launch) (dC : Nat → ClassId) (dI : Nat → Nat → Nat) (cy : Nat → ClassId) (z : Nat → Nat) (a0 : Nat → Nat) (gdr : Nat × Int32 × Int32 × Int32 × Int32) (gr : Int32 × Int32 × Int32 × Int32 × Int32 × Int32 × Int32 × Int32 × Int32) (gtx : (Nat → Int32)) (x1 : Int32) (sz : Nat) (R0 : Int32 × (Nat × Int32 × Int32 × Int32 × Int32) × (Int32 × Int32 × Int32 × Int32 × Int32 × Int32 × Int32 × Int32 × Int32)) (h : p_X3_readDay gdr gr gtx x1 = some R0) : Met l yX3_readDay wsX3_readDay rm_X3_readDay (va_Pc [.ref (a0 0), .int x1] (prS dC dI cy z (w_X3_readDay cy z a0 gdr gr gtx) sz)) (va_Qi (fun (r : Int32) (u : (Nat × Int32 × Int32 × Int32 × Int32) × (Int32 × Int32 × Int32 × Int32 × Int32 × Int32 × Int32 × Int32 × Int32)) => r = R0.1 ∧ u = R0.2) (fun (u : (Nat × Int32 × Int32 × Int32 × Int32) × (Int32 × Int32 × Int32 × Int32 × Int32 × Int32 × Int32 × Int32 × Int32)) t => poC dC dI cy (w_X3_readDay cy z a0 u.1 u.2 gtx) t) (va_A (w_X3_readDay cy z a0 gdr gr gtx) sz)) 0 0 (va_A (w_X3_readDay cy z a0 gdr gr gtx) sz) := by
  refine Met.ofW (cc := cX3_readDay) (maxL := 2) (ret := (some .boolean)) (by decide) rfl ?_
  intro p e s m aa below meth c s₁ B hml hv
  obtain ⟨haa, ⟨hsz, hP, hK, hD0⟩, hX⟩ := hv
  have hx := B.exec
  have hb := B.bytes
  have hr := B.returns
  have hts := atoms_spec (ws := wsX3_readDay) B.pre
  have hown : s.vm.findClass RX3 = some m.cls := findClass_of_methodNamed B.named
  have hlocks := B.notSynchronized
  subst hsz
  have hD := hD0.self (sz := s.heap.size)
  obtain ⟨qq, hqq⟩ : ∃ qq, qq = (va_Qi (fun (r : Int32) (u : (Nat × Int32 × Int32 × Int32 × Int32) × (Int32 × Int32 × Int32 × Int32 × Int32 × Int32 × Int32 × Int32 × Int32)) => r = R0.1 ∧ u = R0.2) (fun (u : (Nat × Int32 × Int32 × Int32 × Int32) × (Int32 × Int32 × Int32 × Int32 × Int32 × Int32 × Int32 × Int32 × Int32)) t => poC dC dI cy (w_X3_readDay cy z a0 u.1 u.2 gtx) t) (va_A (w_X3_readDay cy z a0 gdr gr gtx) s.heap.size)) := ⟨_, rfl⟩
  rw [← hqq]
  generalize hAe : va_A (w_X3_readDay cy z a0 gdr gr gtx) s.heap.size = A at hD hqq hX ⊢
  have hA : ∀ q : Nat, s.heap.size ≤ q → A q := fun q h => by rw [← hAe]; exact Or.inr h
  have hS : va_S A s.heap s.heap [] := va_S.rf
  have hl := lv_entry ([.ref (a0 0), .int x1]) (n := 2) (Nat.le_of_ble_eq_true rfl)
  have hE : entryFrame m aa 2 = F0 m 0 ((lg_sl ([.ref (a0 0), .int x1]) ++ List.replicate (2 - (lg_sl ([.ref (a0 0), .int x1])).length) Slot.unset).toArray) [] := by rw [haa]; exact lg_entry_eq m _ 2
  refine W.eq hE ?_
  generalize (lg_sl ([.ref (a0 0), .int x1]) ++ List.replicate (2 - (lg_sl ([.ref (a0 0), .int x1])).length) Slot.unset).toArray = ls at hl ⊢
  have hl : lv_has ls 2 [(0, .ref (a0 0)), (1, .int x1)] := hl
  change W p l e rm_X3_readDay s m aa below meth c s.heap [] 0 0 (MQ below qq aa s 0 0 A) (F0 m 0 ls [])
  have hS0 := hS
  have lk0 := hts (.fieldLink RX3 9 "GoatDoors$DayReader" "reader" "LGoatDoors$Reader;") (by decide +kernel)
  have lk1 := hts (.fieldLink RX3 21 "GoatDoors$DayReader" "day" "LGoatDoors$Day;") (by decide +kernel)
  have lk2 := hts (.fieldLink RX3 75 "GoatDoors$Day" "row" "Z") (by decide +kernel)
  have lk3 := hts (.fieldLink RX3 61 "GoatDoors$Day" "owners" "I") (by decide +kernel)
  have lk4 := hts (.fieldLink RX3 66 "GoatDoors$Day" "doors" "I") (by decide +kernel)
  have lk5 := hts (.fieldLink RX3 69 "GoatDoors$Day" "leastNumber" "I") (by decide +kernel)
  have in_X3 : ∀ w ∈ wsX30, w ∈ wsX3_readDay := by decide +kernel
  have c92 : ∀ (_u : Unit), ∀ (gdr : Nat × Int32 × Int32 × Int32 × Int32) (gr : Int32 × Int32 × Int32 × Int32 × Int32 × Int32 × Int32 × Int32 × Int32) (H : Heap) (locs : List Loc) (ls : Array Slot), p_X3_readDay_92 gtx gdr gr = some R0 → va_P (dC, dI) vwCl (w_X3_readDay cy z a0 gdr gr gtx) H → va_D A (w_X3_readDay cy z a0 gdr gr gtx) → va_S A s.heap H locs → lv_has ls 2 [(0, .ref (a0 0))] → W p l e rm_X3_readDay s m aa below meth c H locs 0 0 (MQ below qq aa s 0 0 A) (F0 m 92 ls []) := by
    intro _ gdr gr H locs ls h hP hD hS hl
    unfold p_X3_readDay_92 at h
    refine lv_aload_n hx hb dX3_readDay_92 rfl (lv_at hl 0 rfl) ?_
    refine va_get (D := (dC, dI)) (ci := 1) (v := .ref (a0 1)) (C := RX3) (T := TX3) (N := 6) hx hb hts in_X3 hown hK hP 0 rfl rfl 0 (by decide) lk0 (fun _ h9 => h9) rfl dX3_readDay_93 ?_
    obtain ⟨v1, hv2, h⟩ := ok_bind h
    refine cl_vi (w2 := fun (u : (Int32 × Int32 × Int32 × Int32 × Int32 × Int32 × Int32 × Int32 × Int32)) => w_X3_readDay cy z a0 gdr u gtx) (As := []) (rest := []) ⟨hx, hb, hml, hown, hts⟩ (c_X7_takeStop l dC dI cy (fun k => a0 (k + 1)) gr gtx H.size v1 hv2) (cwV 0 hts gX3_readDay_X7_takeStop rfl rfl rfl (by decide +kernel) ⟨Nat.le_of_ble_eq_true rfl, Nat.le_of_ble_eq_true rfl⟩) (va_recv hK hP (ci := 5) (q0 := 1) rfl rfl) cl_blind (cl_pre hK hP hD [1, 2] (by decide) rfl) hP hD hS hA [1, 2] rfl rfl hl.1 rfl (lv_room (Nat.le_of_ble_eq_true rfl)) dX3_readDay_96 ⟨Nat.le_of_ble_eq_true rfl, Nat.le_of_ble_eq_true rfl⟩ ⟨rfl, rfl⟩ (fun _ => updM [1, 2] [0] [(a0 0, .inr (1, [.ref (a0 1), .ref (z (200 + gdr.1)), .int (gdr.2.1), .int (gdr.2.2.1), .int (gdr.2.2.2.1), .int (gdr.2.2.2.2)]))] 3 rfl rfl rfl rfl rfl (by decide +kernel) (by decide +kernel) rfl) (fun r u H locs hw hP hD hS => ?_)
    obtain ⟨rfl, rfl⟩ := hw
    have hP : va_P (dC, dI) vwCl (w_X3_readDay cy z a0 gdr v1.2 gtx) H := hP
    have hD : va_D A (w_X3_readDay cy z a0 gdr v1.2 gtx) := hD
    refine lv_if_eq (tgt := 106) hx hb dX3_readDay_99 (by decide) (fun c3 => ?_) (fun c3 => ?_)
    · rw [if_pos c3] at h
      refine lv_iconst (v := (0 : Int32)) hx hb dX3_readDay_106 (by decide) ?_
      exact W.zret (v := (0 : Int32)) (ty := .boolean) hx hb hr rfl (fun t ht hW => by rw [hqq]; have hh := Option.some.inj h; exact ⟨⟨(0 : Int32), ((gdr, v1.2)), rfl, ⟨fst_of hh, snd_of hh⟩, by rw [ht]; exact hP, va_K.moved hW.alike hK⟩, hS.F ht⟩) hS.2.2 dX3_readDay_107
    · rw [if_neg c3] at h
      refine lv_iconst (v := (1 : Int32)) hx hb dX3_readDay_102 (by decide) ?_
      refine lv_goto (tgt := 107) hx hb dX3_readDay_103 (by decide) ?_
      exact W.zret (v := (1 : Int32)) (ty := .boolean) hx hb hr rfl (fun t ht hW => by rw [hqq]; have hh := Option.some.inj h; exact ⟨⟨(1 : Int32), ((gdr, v1.2)), rfl, ⟨fst_of hh, snd_of hh⟩, by rw [ht]; exact hP, va_K.moved hW.alike hK⟩, hS.F ht⟩) hS.2.2 dX3_readDay_107
  have c72 : ∀ (_u : Unit), ∀ (gdr : Nat × Int32 × Int32 × Int32 × Int32) (gr : Int32 × Int32 × Int32 × Int32 × Int32 × Int32 × Int32 × Int32 × Int32) (H : Heap) (locs : List Loc) (ls : Array Slot), p_X3_readDay_72 gtx gdr gr = some R0 → va_P (dC, dI) vwCl (w_X3_readDay cy z a0 gdr gr gtx) H → va_D A (w_X3_readDay cy z a0 gdr gr gtx) → va_S A s.heap H locs → lv_has ls 2 [(0, .ref (a0 0))] → W p l e rm_X3_readDay s m aa below meth c H locs 0 0 (MQ below qq aa s 0 0 A) (F0 m 72 ls []) := by
    intro _ gdr gr H locs ls h hP hD hS hl
    unfold p_X3_readDay_72 at h
    refine lv_aload_n hx hb dX3_readDay_72 rfl (lv_at hl 0 rfl) ?_
    refine va_get (D := (dC, dI)) (ci := 1) (v := .ref (z (200 + gdr.1))) (C := RX3) (T := TX3) (N := 6) hx hb hts in_X3 hown hK hP 0 rfl rfl 1 (by decide) lk1 (fun _ h9 => h9) rfl dX3_readDay_73 ?_
    obtain ⟨hd1, h⟩ := ok_if h
    refine va_getEc (q := dq_row) hx hb hX.2.2.2.1.2.2.1 (i := gdr.1) hd1 hS hown (by decide) lk2 (fun _ h => h) dX3_readDay_76 ?_
    refine lv_if_eq (tgt := 92) hx hb dX3_readDay_79 (by decide) (fun c2 => ?_) (fun c2 => ?_)
    · rw [if_pos c2] at h
      exact c92 () gdr gr H locs ls h hP hD hS (lv_sub hl [0] rfl)
    · rw [if_neg c2] at h
      refine lv_aload_n hx hb dX3_readDay_82 rfl (lv_at hl 0 rfl) ?_
      refine va_get (D := (dC, dI)) (ci := 1) (v := .ref (a0 1)) (C := RX3) (T := TX3) (N := 6) hx hb hts in_X3 hown hK hP 0 rfl rfl 0 (by decide) lk0 (fun _ h9 => h9) rfl dX3_readDay_83 ?_
      obtain ⟨v3, hv4, h⟩ := ok_bind h
      refine cl_vi (w2 := fun (u : (Int32 × Int32 × Int32 × Int32 × Int32 × Int32 × Int32 × Int32 × Int32)) => w_X3_readDay cy z a0 gdr u gtx) (As := []) (rest := []) ⟨hx, hb, hml, hown, hts⟩ (c_X7_takeRow l dC dI cy (fun k => a0 (k + 1)) gr gtx H.size v3 hv4) (cwV 0 hts gX3_readDay_X7_takeRow rfl rfl rfl (by decide +kernel) ⟨Nat.le_of_ble_eq_true rfl, Nat.le_of_ble_eq_true rfl⟩) (va_recv hK hP (ci := 5) (q0 := 1) rfl rfl) cl_blind (cl_pre hK hP hD [1, 2] (by decide) rfl) hP hD hS hA [1, 2] rfl rfl hl.1 rfl (lv_room (Nat.le_of_ble_eq_true rfl)) dX3_readDay_86 ⟨Nat.le_of_ble_eq_true rfl, Nat.le_of_ble_eq_true rfl⟩ ⟨rfl, rfl⟩ (fun _ => updM [1, 2] [0] [(a0 0, .inr (1, [.ref (a0 1), .ref (z (200 + gdr.1)), .int (gdr.2.1), .int (gdr.2.2.1), .int (gdr.2.2.2.1), .int (gdr.2.2.2.2)]))] 3 rfl rfl rfl rfl rfl (by decide +kernel) (by decide +kernel) rfl) (fun r u H locs hw hP hD hS => ?_)
      obtain ⟨rfl, rfl⟩ := hw
      have hP : va_P (dC, dI) vwCl (w_X3_readDay cy z a0 gdr v3.2 gtx) H := hP
      have hD : va_D A (w_X3_readDay cy z a0 gdr v3.2 gtx) := hD
      refine lv_if_eq (tgt := 106) hx hb dX3_readDay_89 (by decide) (fun c5 => ?_) (fun c5 => ?_)
      · rw [if_pos c5] at h
        refine lv_iconst (v := (0 : Int32)) hx hb dX3_readDay_106 (by decide) ?_
        exact W.zret (v := (0 : Int32)) (ty := .boolean) hx hb hr rfl (fun t ht hW => by rw [hqq]; have hh := Option.some.inj h; exact ⟨⟨(0 : Int32), ((gdr, v3.2)), rfl, ⟨fst_of hh, snd_of hh⟩, by rw [ht]; exact hP, va_K.moved hW.alike hK⟩, hS.F ht⟩) hS.2.2 dX3_readDay_107
      · rw [if_neg c5] at h
        exact c92 () gdr v3.2 H locs ls h hP hD hS (lv_sub hl [0] rfl)
  obtain ⟨H, hH⟩ : ∃ H : Heap, H = s.heap := ⟨_, rfl⟩
  obtain ⟨locs, hlocs⟩ : ∃ locs : List Loc, locs = [] := ⟨_, rfl⟩
  have hS : va_S A s.heap H locs := by rw [hH, hlocs]; exact hS
  rw [← hH] at hP
  suffices hg : W p l e rm_X3_readDay s m aa below meth c H locs 0 0 (MQ below qq aa s 0 0 A) (F0 m 0 ls []) by subst hH; subst hlocs; exact hg
  unfold p_X3_readDay at h
  refine lv_aload_n hx hb dX3_readDay_0 rfl (lv_at hl 0 rfl) ?_
  obtain ⟨v1, hv2, h⟩ := ok_bind h
  refine cl_vi (w2 := fun (u : (Nat × Int32 × Int32 × Int32 × Int32)) => w_X3_readDay cy z a0 u gr gtx) (As := []) (rest := []) ⟨hx, hb, hml, hown, hts⟩ (c_X3_readKind l dC dI cy z a0 gdr gr gtx H.size v1 hv2) (cwV 0 hts gX3_readDay_X3_readKind rfl rfl rfl (by decide +kernel) ⟨Nat.le_of_ble_eq_true rfl, Nat.le_of_ble_eq_true rfl⟩) (va_recv hK hP (ci := 1) (q0 := 0) rfl rfl) cl_blindS (cl_preS hK hP hD hS hA hX [0, 1, 2] (by decide) rfl) hP hD hS hA [0, 1, 2] rfl rfl hl.1 rfl (lv_room (Nat.le_of_ble_eq_true rfl)) dX3_readDay_1 ⟨Nat.le_of_ble_eq_true rfl, Nat.le_of_ble_eq_true rfl⟩ ⟨rfl, rfl⟩ (fun _ => updM [0, 1, 2] [] [] 3 rfl rfl rfl rfl rfl (by decide +kernel) (by decide +kernel) rfl) (fun r u H locs hw hP hD hS => ?_)
  obtain ⟨rfl, rfl⟩ := hw
  have hP : va_P (dC, dI) vwCl (w_X3_readDay cy z a0 v1.2 gr gtx) H := hP
  have hD : va_D A (w_X3_readDay cy z a0 v1.2 gr gtx) := hD
  refine lv_if_ne (tgt := 16) hx hb dX3_readDay_4 (by decide) (fun c3 => ?_) (fun c3 => ?_)
  · rw [if_neg c3] at h
    refine lv_aload_n hx hb dX3_readDay_16 rfl (lv_at hl 0 rfl) ?_
    refine va_get (D := (dC, dI)) (ci := 1) (v := .ref (a0 1)) (C := RX3) (T := TX3) (N := 6) hx hb hts in_X3 hown hK hP 0 rfl rfl 0 (by decide) lk0 (fun _ h9 => h9) rfl dX3_readDay_17 ?_
    obtain ⟨v4, hv5, h⟩ := ok_bind h
    refine cl_vv (w2 := fun (u : (Int32 × Int32 × Int32 × Int32 × Int32 × Int32 × Int32 × Int32 × Int32)) => w_X3_readDay cy z a0 v1.2 u gtx) (As := []) (rest := []) ⟨hx, hb, hml, hown, hts⟩ (c_X7_step l dC dI cy (fun k => a0 (k + 1)) gr gtx H.size v4 hv5) (cwV 0 hts gX3_readDay_X7_step rfl rfl rfl (by decide +kernel) ⟨Nat.le_of_ble_eq_true rfl, Nat.le_of_ble_eq_true rfl⟩) (va_recv hK hP (ci := 5) (q0 := 1) rfl rfl) cl_blind (cl_pre hK hP hD [1, 2] (by decide) rfl) hP hD hS hA [1, 2] rfl rfl hl.1 rfl (lv_room (Nat.le_of_ble_eq_true rfl)) dX3_readDay_20 ⟨Nat.le_of_ble_eq_true rfl, Nat.le_of_ble_eq_true rfl⟩ ⟨rfl, rfl⟩ (fun _ => updM [1, 2] [0] [(a0 0, .inr (1, [.ref (a0 1), .ref (z (200 + v1.2.1)), .int (v1.2.2.1), .int (v1.2.2.2.1), .int (v1.2.2.2.2.1), .int (v1.2.2.2.2.2)]))] 3 rfl rfl rfl rfl rfl (by decide +kernel) (by decide +kernel) rfl) (fun u H locs hw hP hD hS => ?_)
    have hw := hw.symm
    subst hw
    have hP : va_P (dC, dI) vwCl (w_X3_readDay cy z a0 v1.2 v4 gtx) H := hP
    have hD : va_D A (w_X3_readDay cy z a0 v1.2 v4 gtx) := hD
    refine lv_aload_n hx hb dX3_readDay_23 rfl (lv_at hl 0 rfl) ?_
    refine lv_aload_n hx hb dX3_readDay_24 rfl (lv_at hl 0 rfl) ?_
    refine va_get (D := (dC, dI)) (ci := 1) (v := .ref (z (200 + v1.2.1))) (C := RX3) (T := TX3) (N := 6) hx hb hts in_X3 hown hK hP 0 rfl rfl 1 (by decide) lk1 (fun _ h9 => h9) rfl dX3_readDay_25 ?_
    obtain ⟨hd6, h⟩ := ok_if h
    refine va_getEc (q := dq_owners) hx hb hX.2.2.2.1.2.2.1 (i := v1.2.1) hd6 hS hown (by decide) lk3 (fun _ h => h) dX3_readDay_28 ?_
    refine lv_iload_n hx hb dX3_readDay_31 rfl (lv_at hl 1 rfl) ?_
    obtain ⟨v7, hv8, h⟩ := ok_bind h
    refine cl_vi (w2 := fun (u : (Nat × Int32 × Int32 × Int32 × Int32) × (Int32 × Int32 × Int32 × Int32 × Int32 × Int32 × Int32 × Int32 × Int32)) => w_X3_readDay cy z a0 u.1 u.2 gtx) (As := [.int (dq_owners.2.2.2.getD v1.2.1 0), .int x1]) (rest := []) ⟨hx, hb, hml, hown, hts⟩ (c_X3_readAllOf l dC dI cy z a0 v1.2 v4 gtx (dq_owners.2.2.2.getD v1.2.1 0) x1 H.size v7 hv8) (cwV 2 hts gX3_readDay_X3_readAllOf rfl rfl rfl (by decide +kernel) ⟨Nat.le_of_ble_eq_true rfl, Nat.le_of_ble_eq_true rfl⟩) (va_recv hK hP (ci := 1) (q0 := 0) rfl rfl) cl_blind (cl_pre hK hP hD [0, 1, 2] (by decide) rfl) hP hD hS hA [0, 1, 2] rfl rfl hl.1 rfl (lv_room (Nat.le_of_ble_eq_true rfl)) dX3_readDay_32 ⟨Nat.le_of_ble_eq_true rfl, Nat.le_of_ble_eq_true rfl⟩ ⟨rfl, rfl⟩ (fun _ => updM [0, 1, 2] [] [] 3 rfl rfl rfl rfl rfl (by decide +kernel) (by decide +kernel) rfl) (fun r u H locs hw hP hD hS => ?_)
    obtain ⟨rfl, rfl⟩ := hw
    have hP : va_P (dC, dI) vwCl (w_X3_readDay cy z a0 v7.2.1 v7.2.2 gtx) H := hP
    have hD : va_D A (w_X3_readDay cy z a0 v7.2.1 v7.2.2 gtx) := hD
    refine lv_if_eq (tgt := 106) hx hb dX3_readDay_35 (by decide) (fun c9 => ?_) (fun c9 => ?_)
    · rw [if_pos c9] at h
      refine lv_iconst (v := (0 : Int32)) hx hb dX3_readDay_106 (by decide) ?_
      exact W.zret (v := (0 : Int32)) (ty := .boolean) hx hb hr rfl (fun t ht hW => by rw [hqq]; have hh := Option.some.inj h; exact ⟨⟨(0 : Int32), (v7.2), rfl, ⟨fst_of hh, snd_of hh⟩, by rw [ht]; exact hP, va_K.moved hW.alike hK⟩, hS.F ht⟩) hS.2.2 dX3_readDay_107
    · rw [if_neg c9] at h
      refine lv_aload_n hx hb dX3_readDay_38 rfl (lv_at hl 0 rfl) ?_
      refine lv_aload_n hx hb dX3_readDay_39 rfl (lv_at hl 0 rfl) ?_
      refine va_get (D := (dC, dI)) (ci := 1) (v := .ref (z (200 + v7.2.1.1))) (C := RX3) (T := TX3) (N := 6) hx hb hts in_X3 hown hK hP 0 rfl rfl 1 (by decide) lk1 (fun _ h9 => h9) rfl dX3_readDay_40 ?_
      obtain ⟨hd10, h⟩ := ok_if h
      refine va_getEc (q := dq_doors) hx hb hX.2.2.2.1.2.2.1 (i := v7.2.1.1) hd10 hS hown (by decide) lk4 (fun _ h => h) dX3_readDay_43 ?_
      refine lv_bipush (v := (10 : Int32)) hx hb dX3_readDay_46 (by decide) ?_
      obtain ⟨v11, hv12, h⟩ := ok_bind h
      refine cl_vi (w2 := fun (u : (Nat × Int32 × Int32 × Int32 × Int32) × (Int32 × Int32 × Int32 × Int32 × Int32 × Int32 × Int32 × Int32 × Int32)) => w_X3_readDay cy z a0 u.1 u.2 gtx) (As := [.int (dq_doors.2.2.2.getD v7.2.1.1 0), .int (10 : Int32)]) (rest := []) ⟨hx, hb, hml, hown, hts⟩ (c_X3_readAllOf l dC dI cy z a0 v7.2.1 v7.2.2 gtx (dq_doors.2.2.2.getD v7.2.1.1 0) (10 : Int32) H.size v11 hv12) (cwV 2 hts gX3_readDay_X3_readAllOf rfl rfl rfl (by decide +kernel) ⟨Nat.le_of_ble_eq_true rfl, Nat.le_of_ble_eq_true rfl⟩) (va_recv hK hP (ci := 1) (q0 := 0) rfl rfl) cl_blind (cl_pre hK hP hD [0, 1, 2] (by decide) rfl) hP hD hS hA [0, 1, 2] rfl rfl hl.1 rfl (lv_room (Nat.le_of_ble_eq_true rfl)) dX3_readDay_48 ⟨Nat.le_of_ble_eq_true rfl, Nat.le_of_ble_eq_true rfl⟩ ⟨rfl, rfl⟩ (fun _ => updM [0, 1, 2] [] [] 3 rfl rfl rfl rfl rfl (by decide +kernel) (by decide +kernel) rfl) (fun r u H locs hw hP hD hS => ?_)
      obtain ⟨rfl, rfl⟩ := hw
      have hP : va_P (dC, dI) vwCl (w_X3_readDay cy z a0 v11.2.1 v11.2.2 gtx) H := hP
      have hD : va_D A (w_X3_readDay cy z a0 v11.2.1 v11.2.2 gtx) := hD
      refine lv_if_eq (tgt := 106) hx hb dX3_readDay_51 (by decide) (fun c13 => ?_) (fun c13 => ?_)
      · rw [if_pos c13] at h
        refine lv_iconst (v := (0 : Int32)) hx hb dX3_readDay_106 (by decide) ?_
        exact W.zret (v := (0 : Int32)) (ty := .boolean) hx hb hr rfl (fun t ht hW => by rw [hqq]; have hh := Option.some.inj h; exact ⟨⟨(0 : Int32), (v11.2), rfl, ⟨fst_of hh, snd_of hh⟩, by rw [ht]; exact hP, va_K.moved hW.alike hK⟩, hS.F ht⟩) hS.2.2 dX3_readDay_107
      · rw [if_neg c13] at h
        refine lv_aload_n hx hb dX3_readDay_54 rfl (lv_at hl 0 rfl) ?_
        refine va_get (D := (dC, dI)) (ci := 1) (v := .ref (z (200 + v11.2.1.1))) (C := RX3) (T := TX3) (N := 6) hx hb hts in_X3 hown hK hP 0 rfl rfl 1 (by decide) lk1 (fun _ h9 => h9) rfl dX3_readDay_55 ?_
        obtain ⟨hd14, h⟩ := ok_if h
        refine va_getEc (q := dq_leastNumber) hx hb hX.2.2.2.1.2.2.1 (i := v11.2.1.1) hd14 hS hown (by decide) lk5 (fun _ h => h) dX3_readDay_58 ?_
        refine lv_iconst (v := (-1 : Int32)) hx hb dX3_readDay_61 (by decide) ?_
        refine lv_icmp_eq (tgt := 72) hx hb dX3_readDay_62 (by decide) (fun c15 => ?_) (fun c15 => ?_)
        · rw [if_pos c15] at h
          exact c72 () v11.2.1 v11.2.2 H locs ls h hP hD hS (lv_sub hl [0] rfl)
        · rw [if_neg c15] at h
          refine lv_aload_n hx hb dX3_readDay_65 rfl (lv_at hl 0 rfl) ?_
          obtain ⟨v16, hv17, h⟩ := ok_bind h
          refine cl_vi (w2 := fun (u : (Nat × Int32 × Int32 × Int32 × Int32) × (Int32 × Int32 × Int32 × Int32 × Int32 × Int32 × Int32 × Int32 × Int32)) => w_X3_readDay cy z a0 u.1 u.2 gtx) (As := []) (rest := []) ⟨hx, hb, hml, hown, hts⟩ (c_X3_readAmount l dC dI cy z a0 v11.2.1 v11.2.2 gtx H.size v16 hv17) (cwV 0 hts gX3_readDay_X3_readAmount rfl rfl rfl (by decide +kernel) ⟨Nat.le_of_ble_eq_true rfl, Nat.le_of_ble_eq_true rfl⟩) (va_recv hK hP (ci := 1) (q0 := 0) rfl rfl) cl_blindS (cl_preS hK hP hD hS hA hX [0, 1, 2] (by decide) rfl) hP hD hS hA [0, 1, 2] rfl rfl hl.1 rfl (lv_room (Nat.le_of_ble_eq_true rfl)) dX3_readDay_66 ⟨Nat.le_of_ble_eq_true rfl, Nat.le_of_ble_eq_true rfl⟩ ⟨rfl, rfl⟩ (fun _ => updM [0, 1, 2] [] [] 3 rfl rfl rfl rfl rfl (by decide +kernel) (by decide +kernel) rfl) (fun r u H locs hw hP hD hS => ?_)
          obtain ⟨rfl, rfl⟩ := hw
          have hP : va_P (dC, dI) vwCl (w_X3_readDay cy z a0 v16.2.1 v16.2.2 gtx) H := hP
          have hD : va_D A (w_X3_readDay cy z a0 v16.2.1 v16.2.2 gtx) := hD
          refine lv_if_eq (tgt := 106) hx hb dX3_readDay_69 (by decide) (fun c18 => ?_) (fun c18 => ?_)
          · rw [if_pos c18] at h
            refine lv_iconst (v := (0 : Int32)) hx hb dX3_readDay_106 (by decide) ?_
            exact W.zret (v := (0 : Int32)) (ty := .boolean) hx hb hr rfl (fun t ht hW => by rw [hqq]; have hh := Option.some.inj h; exact ⟨⟨(0 : Int32), (v16.2), rfl, ⟨fst_of hh, snd_of hh⟩, by rw [ht]; exact hP, va_K.moved hW.alike hK⟩, hS.F ht⟩) hS.2.2 dX3_readDay_107
          · rw [if_neg c18] at h
            exact c72 () v16.2.1 v16.2.2 H locs ls h hP hD hS (lv_sub hl [0] rfl)
  · rw [if_pos c3] at h
    refine lv_aload_n hx hb dX3_readDay_7 rfl (lv_at hl 0 rfl) ?_
    refine va_get (D := (dC, dI)) (ci := 1) (v := .ref (a0 1)) (C := RX3) (T := TX3) (N := 6) hx hb hts in_X3 hown hK hP 0 rfl rfl 0 (by decide) lk0 (fun _ h9 => h9) rfl dX3_readDay_8 ?_
    refine lv_iconst (v := (1 : Int32)) hx hb dX3_readDay_11 (by decide) ?_
    obtain ⟨v19, hv20, h⟩ := ok_bind h
    refine cl_vi (w2 := fun (u : (Int32 × Int32 × Int32 × Int32 × Int32 × Int32 × Int32 × Int32 × Int32)) => w_X3_readDay cy z a0 v1.2 u gtx) (As := [.int (1 : Int32)]) (rest := []) ⟨hx, hb, hml, hown, hts⟩ (c_X7_refuse l dC dI cy (fun k => a0 (k + 1)) gr (1 : Int32) H.size v19 hv20) (cwV 1 hts gX3_readDay_X7_refuse rfl rfl rfl (by decide +kernel) ⟨Nat.le_of_ble_eq_true rfl, Nat.le_of_ble_eq_true rfl⟩) (va_recv hK hP (ci := 5) (q0 := 1) rfl rfl) cl_blind (cl_pre hK hP hD [1] (by decide) rfl) hP hD hS hA [1] rfl rfl hl.1 rfl (lv_room (Nat.le_of_ble_eq_true rfl)) dX3_readDay_12 ⟨Nat.le_of_ble_eq_true rfl, Nat.le_of_ble_eq_true rfl⟩ ⟨rfl, rfl⟩ (fun _ => updM [1] [0, 2] [(a0 0, .inr (1, [.ref (a0 1), .ref (z (200 + v1.2.1)), .int (v1.2.2.1), .int (v1.2.2.2.1), .int (v1.2.2.2.2.1), .int (v1.2.2.2.2.2)])), (a0 2, .inl (cy 0, 600, .inl (gtx)))] 3 rfl rfl rfl rfl rfl (by decide +kernel) (by decide +kernel) rfl) (fun r u H locs hw hP hD hS => ?_)
    obtain ⟨rfl, rfl⟩ := hw
    have hP : va_P (dC, dI) vwCl (w_X3_readDay cy z a0 v1.2 v19.2 gtx) H := hP
    have hD : va_D A (w_X3_readDay cy z a0 v1.2 v19.2 gtx) := hD
    obtain ⟨hz21, h⟩ := ok_if h
    exact W.zret (v := v19.1) (ty := .boolean) hx hb hr (isZ_nar hz21) (fun t ht hW => by rw [hqq]; have hh := Option.some.inj h; exact ⟨⟨v19.1, ((v1.2, v19.2)), rfl, ⟨fst_of hh, snd_of hh⟩, by rw [ht]; exact hP, va_K.moved hW.alike hK⟩, hS.F ht⟩) hS.2.2 dX3_readDay_15

abbrev w_X3_readAll (cy : Nat → ClassId) (z : Nat → Nat) (a0 : Nat → Nat) (gdr : Nat × Int32 × Int32 × Int32 × Int32) (gr : Int32 × Int32 × Int32 × Int32 × Int32 × Int32 × Int32 × Int32 × Int32) (gtx : (Nat → Int32)) : va_W := [(a0 0, .inr (1, [.ref (a0 1), .ref (z (200 + gdr.1)), .int (gdr.2.1), .int (gdr.2.2.1), .int (gdr.2.2.2.1), .int (gdr.2.2.2.2)])), (a0 1, .inr (5, [.ref (a0 2), .int (gr.1), .int (gr.2.1), .int (gr.2.2.1), .int (gr.2.2.2.1), .int (gr.2.2.2.2.1), .int (gr.2.2.2.2.2.1), .int (gr.2.2.2.2.2.2.1), .int (gr.2.2.2.2.2.2.2.1), .int (gr.2.2.2.2.2.2.2.2)])), (a0 2, .inl (cy 0, 600, .inl (gtx)))]
abbrev rm_X3_readAll : Room := { frames := 7, cells := 0, slots := 0, locals := 149 }
set_option maxHeartbeats 1000000 in
set_option maxRecDepth 100000 in
theorem c_X3_readAll (l : Launch) (dC : Nat → ClassId) (dI : Nat → Nat → Nat) (cy : Nat → ClassId) (z : Nat → Nat) (a0 : Nat → Nat) (gdr : Nat × Int32 × Int32 × Int32 × Int32) (gr : Int32 × Int32 × Int32 × Int32 × Int32 × Int32 × Int32 × Int32 × Int32) (gtx : (Nat → Int32)) (x1 : Int32) (x2 : Int32) (sz : Nat) (R0 : Int32 × (Nat × Int32 × Int32 × Int32 × Int32) × (Int32 × Int32 × Int32 × Int32 × Int32 × Int32 × Int32 × Int32 × Int32)) (h : p_X3_readAll gdr gr gtx x1 x2 = some R0) : Met l yX3_readAll wsX3_readAll rm_X3_readAll (va_Pc [.ref (a0 0), .int x1, .int x2] (prS dC dI cy z (w_X3_readAll cy z a0 gdr gr gtx) sz)) (va_Qi (fun (r : Int32) (u : (Nat × Int32 × Int32 × Int32 × Int32) × (Int32 × Int32 × Int32 × Int32 × Int32 × Int32 × Int32 × Int32 × Int32)) => r = R0.1 ∧ u = R0.2) (fun (u : (Nat × Int32 × Int32 × Int32 × Int32) × (Int32 × Int32 × Int32 × Int32 × Int32 × Int32 × Int32 × Int32 × Int32)) t => poC dC dI cy (w_X3_readAll cy z a0 u.1 u.2 gtx) t) (va_A (w_X3_readAll cy z a0 gdr gr gtx) sz)) 0 0 (va_A (w_X3_readAll cy z a0 gdr gr gtx) sz) := by
  refine Met.ofW (cc := cX3_readAll) (maxL := 4) (ret := (some .boolean)) (by decide) rfl ?_
  intro p e s m aa below meth c s₁ B hml hv
  obtain ⟨haa, ⟨hsz, hP, hK, hD0⟩, hX⟩ := hv
  have hx := B.exec
  have hb := B.bytes
  have hr := B.returns
  have hts := atoms_spec (ws := wsX3_readAll) B.pre
  have hown : s.vm.findClass RX3 = some m.cls := findClass_of_methodNamed B.named
  have hlocks := B.notSynchronized
  subst hsz
  have hD := hD0.self (sz := s.heap.size)
  obtain ⟨qq, hqq⟩ : ∃ qq, qq = (va_Qi (fun (r : Int32) (u : (Nat × Int32 × Int32 × Int32 × Int32) × (Int32 × Int32 × Int32 × Int32 × Int32 × Int32 × Int32 × Int32 × Int32)) => r = R0.1 ∧ u = R0.2) (fun (u : (Nat × Int32 × Int32 × Int32 × Int32) × (Int32 × Int32 × Int32 × Int32 × Int32 × Int32 × Int32 × Int32 × Int32)) t => poC dC dI cy (w_X3_readAll cy z a0 u.1 u.2 gtx) t) (va_A (w_X3_readAll cy z a0 gdr gr gtx) s.heap.size)) := ⟨_, rfl⟩
  rw [← hqq]
  generalize hAe : va_A (w_X3_readAll cy z a0 gdr gr gtx) s.heap.size = A at hD hqq hX ⊢
  have hA : ∀ q : Nat, s.heap.size ≤ q → A q := fun q h => by rw [← hAe]; exact Or.inr h
  have hS : va_S A s.heap s.heap [] := va_S.rf
  have hl := lv_entry ([.ref (a0 0), .int x1, .int x2]) (n := 4) (Nat.le_of_ble_eq_true rfl)
  have hE : entryFrame m aa 4 = F0 m 0 ((lg_sl ([.ref (a0 0), .int x1, .int x2]) ++ List.replicate (4 - (lg_sl ([.ref (a0 0), .int x1, .int x2])).length) Slot.unset).toArray) [] := by rw [haa]; exact lg_entry_eq m _ 4
  refine W.eq hE ?_
  generalize (lg_sl ([.ref (a0 0), .int x1, .int x2]) ++ List.replicate (4 - (lg_sl ([.ref (a0 0), .int x1, .int x2])).length) Slot.unset).toArray = ls at hl ⊢
  have hl : lv_has ls 4 [(0, .ref (a0 0)), (1, .int x1), (2, .int x2)] := hl
  change W p l e rm_X3_readAll s m aa below meth c s.heap [] 0 0 (MQ below qq aa s 0 0 A) (F0 m 0 ls [])
  have hS0 := hS
  have lk0 := hts (.fieldLink RX3 9 "GoatDoors$DayReader" "reader" "LGoatDoors$Reader;") (by decide +kernel)
  have in_X3 : ∀ w ∈ wsX30, w ∈ wsX3_readAll := by decide +kernel
  have c10 : ∀ (n : Nat), ∀ (gdr : Nat × Int32 × Int32 × Int32 × Int32) (gr : Int32 × Int32 × Int32 × Int32 × Int32 × Int32 × Int32 × Int32 × Int32) (x2 : Int32) (x3 : Int32) (H : Heap) (locs : List Loc) (ls : Array Slot), p_X3_readAll_10 gtx n gdr gr x2 x3 = some R0 → va_P (dC, dI) vwCl (w_X3_readAll cy z a0 gdr gr gtx) H → va_D A (w_X3_readAll cy z a0 gdr gr gtx) → va_S A s.heap H locs → lv_has ls 4 [(0, .ref (a0 0)), (2, .int x2), (3, .int x3)] → W p l e rm_X3_readAll s m aa below meth c H locs 0 0 (MQ below qq aa s 0 0 A) (F0 m 10 ls []) := by
    intro  n
    induction n with
    | zero => intro gdr gr x2 x3 H locs ls h; exact no_some h
    | succ n ih =>
      intro gdr gr x2 x3 H locs ls h hP hD hS hl
      rw [p_X3_readAll_10.eq_2] at h
      refine lv_iload_n hx hb dX3_readAll_10 rfl (lv_at hl 2 rfl) ?_
      refine lv_sipush (v := (600 : Int32)) hx hb dX3_readAll_11 (by decide) ?_
      refine lv_icmp_ge (tgt := 43) hx hb dX3_readAll_14 (by decide) (fun c1 => ?_) (fun c1 => ?_)
      · rw [if_pos c1] at h
        refine lv_iconst (v := (1 : Int32)) hx hb dX3_readAll_43 (by decide) ?_
        exact W.zret (v := (1 : Int32)) (ty := .boolean) hx hb hr rfl (fun t ht hW => by rw [hqq]; have hh := Option.some.inj h; exact ⟨⟨(1 : Int32), ((gdr, gr)), rfl, ⟨fst_of hh, snd_of hh⟩, by rw [ht]; exact hP, va_K.moved hW.alike hK⟩, hS.F ht⟩) hS.2.2 dX3_readAll_44
      · rw [if_neg c1] at h
        refine lv_aload_n hx hb dX3_readAll_17 rfl (lv_at hl 0 rfl) ?_
        refine va_get (D := (dC, dI)) (ci := 1) (v := .ref (a0 1)) (C := RX3) (T := TX3) (N := 6) hx hb hts in_X3 hown hK hP 0 rfl rfl 0 (by decide) lk0 (fun _ h9 => h9) rfl dX3_readAll_18 ?_
        obtain ⟨v2, hv3, h⟩ := ok_bind h
        refine cl_vi (w2 := fun (_ : Unit) => w_X3_readAll cy z a0 gdr gr gtx) (As := []) (rest := []) ⟨hx, hb, hml, hown, hts⟩ (c_X7_hasMore l dC dI cy (fun k => a0 (k + 1)) gr H.size v2 hv3) (cwV 0 hts gX3_readAll_X7_hasMore rfl rfl rfl (by decide +kernel) ⟨Nat.le_of_ble_eq_true rfl, Nat.le_of_ble_eq_true rfl⟩) (va_recv hK hP (ci := 5) (q0 := 1) rfl rfl) cl_blind (cl_pre hK hP hD [1] (by decide) rfl) hP hD hS hA [1] rfl rfl hl.1 rfl (lv_room (Nat.le_of_ble_eq_true rfl)) dX3_readAll_21 ⟨Nat.le_of_ble_eq_true rfl, Nat.le_of_ble_eq_true rfl⟩ ⟨rfl, rfl⟩ (fun _ => updR [1] rfl) (fun r u H locs hw hP hD hS => ?_)
        have hw := hw.symm
        subst hw
        have hP : va_P (dC, dI) vwCl (w_X3_readAll cy z a0 gdr gr gtx) H := hP
        have hD : va_D A (w_X3_readAll cy z a0 gdr gr gtx) := hD
        refine lv_if_eq (tgt := 43) hx hb dX3_readAll_24 (by decide) (fun c4 => ?_) (fun c4 => ?_)
        · rw [if_pos c4] at h
          refine lv_iconst (v := (1 : Int32)) hx hb dX3_readAll_43 (by decide) ?_
          exact W.zret (v := (1 : Int32)) (ty := .boolean) hx hb hr rfl (fun t ht hW => by rw [hqq]; have hh := Option.some.inj h; exact ⟨⟨(1 : Int32), ((gdr, gr)), rfl, ⟨fst_of hh, snd_of hh⟩, by rw [ht]; exact hP, va_K.moved hW.alike hK⟩, hS.F ht⟩) hS.2.2 dX3_readAll_44
        · rw [if_neg c4] at h
          refine lv_aload_n hx hb dX3_readAll_27 rfl (lv_at hl 0 rfl) ?_
          refine lv_iload_n hx hb dX3_readAll_28 rfl (lv_at hl 1 rfl) ?_
          obtain ⟨v5, hv6, h⟩ := ok_bind h
          refine cl_vi (w2 := fun (u : (Nat × Int32 × Int32 × Int32 × Int32) × (Int32 × Int32 × Int32 × Int32 × Int32 × Int32 × Int32 × Int32 × Int32)) => w_X3_readAll cy z a0 u.1 u.2 gtx) (As := [.int x2]) (rest := []) ⟨hx, hb, hml, hown, hts⟩ (c_X3_readDay l dC dI cy z a0 gdr gr gtx x2 H.size v5 hv6) (cwV 1 hts gX3_readAll_X3_readDay rfl rfl rfl (by decide +kernel) ⟨Nat.le_of_ble_eq_true rfl, Nat.le_of_ble_eq_true rfl⟩) (va_recv hK hP (ci := 1) (q0 := 0) rfl rfl) cl_blindS (cl_preS hK hP hD hS hA hX [0, 1, 2] (by decide) rfl) hP hD hS hA [0, 1, 2] rfl rfl hl.1 rfl (lv_room (Nat.le_of_ble_eq_true rfl)) dX3_readAll_29 ⟨Nat.le_of_ble_eq_true rfl, Nat.le_of_ble_eq_true rfl⟩ ⟨rfl, rfl⟩ (fun _ => updM [0, 1, 2] [] [] 3 rfl rfl rfl rfl rfl (by decide +kernel) (by decide +kernel) rfl) (fun r u H locs hw hP hD hS => ?_)
          obtain ⟨rfl, rfl⟩ := hw
          have hP : va_P (dC, dI) vwCl (w_X3_readAll cy z a0 v5.2.1 v5.2.2 gtx) H := hP
          have hD : va_D A (w_X3_readAll cy z a0 v5.2.1 v5.2.2 gtx) := hD
          refine lv_if_ne (tgt := 37) hx hb dX3_readAll_32 (by decide) (fun c7 => ?_) (fun c7 => ?_)
          · rw [if_neg c7] at h
            refine lv_iinc (v := (x3 + (1 : Int32))) (lv' := [(3, .int (x3 + (1 : Int32))), (0, .ref (a0 0)), (2, .int x2)]) hx hb dX3_readAll_37 hl (k := 2) rfl rfl (by decide) rfl (fun ls hl => ?_)
            refine lv_goto (tgt := 10) hx hb dX3_readAll_40 (by decide) ?_
            exact ih v5.2.1 v5.2.2 x2 (x3 + (1 : Int32)) H locs ls h hP hD hS (lv_sub hl [1, 2, 0] rfl)
          · rw [if_pos c7] at h
            refine lv_iconst (v := (0 : Int32)) hx hb dX3_readAll_35 (by decide) ?_
            exact W.zret (v := (0 : Int32)) (ty := .boolean) hx hb hr rfl (fun t ht hW => by rw [hqq]; have hh := Option.some.inj h; exact ⟨⟨(0 : Int32), (v5.2), rfl, ⟨fst_of hh, snd_of hh⟩, by rw [ht]; exact hP, va_K.moved hW.alike hK⟩, hS.F ht⟩) hS.2.2 dX3_readAll_36
  obtain ⟨H, hH⟩ : ∃ H : Heap, H = s.heap := ⟨_, rfl⟩
  obtain ⟨locs, hlocs⟩ : ∃ locs : List Loc, locs = [] := ⟨_, rfl⟩
  have hS : va_S A s.heap H locs := by rw [hH, hlocs]; exact hS
  rw [← hH] at hP
  suffices hg : W p l e rm_X3_readAll s m aa below meth c H locs 0 0 (MQ below qq aa s 0 0 A) (F0 m 0 ls []) by subst hH; subst hlocs; exact hg
  unfold p_X3_readAll at h
  refine lv_aload_n hx hb dX3_readAll_0 rfl (lv_at hl 0 rfl) ?_
  refine va_get (D := (dC, dI)) (ci := 1) (v := .ref (a0 1)) (C := RX3) (T := TX3) (N := 6) hx hb hts in_X3 hown hK hP 0 rfl rfl 0 (by decide) lk0 (fun _ h9 => h9) rfl dX3_readAll_1 ?_
  refine lv_iload_n hx hb dX3_readAll_4 rfl (lv_at hl 1 rfl) ?_
  obtain ⟨v1, hv2, h⟩ := ok_bind h
  refine cl_vv (w2 := fun (u : (Int32 × Int32 × Int32 × Int32 × Int32 × Int32 × Int32 × Int32 × Int32)) => w_X3_readAll cy z a0 gdr u gtx) (As := [.int x1]) (rest := []) ⟨hx, hb, hml, hown, hts⟩ (c_X7_open l dC dI cy (fun k => a0 (k + 1)) gr gtx x1 H.size v1 hv2) (cwV 1 hts gX3_readAll_X7_open rfl rfl rfl (by decide +kernel) ⟨Nat.le_of_ble_eq_true rfl, Nat.le_of_ble_eq_true rfl⟩) (va_recv hK hP (ci := 5) (q0 := 1) rfl rfl) cl_blind (cl_pre hK hP hD [1, 2] (by decide) rfl) hP hD hS hA [1, 2] rfl rfl hl.1 rfl (lv_room (Nat.le_of_ble_eq_true rfl)) dX3_readAll_5 ⟨Nat.le_of_ble_eq_true rfl, Nat.le_of_ble_eq_true rfl⟩ ⟨rfl, rfl⟩ (fun _ => updM [1, 2] [0] [(a0 0, .inr (1, [.ref (a0 1), .ref (z (200 + gdr.1)), .int (gdr.2.1), .int (gdr.2.2.1), .int (gdr.2.2.2.1), .int (gdr.2.2.2.2)]))] 3 rfl rfl rfl rfl rfl (by decide +kernel) (by decide +kernel) rfl) (fun u H locs hw hP hD hS => ?_)
  have hw := hw.symm
  subst hw
  have hP : va_P (dC, dI) vwCl (w_X3_readAll cy z a0 gdr v1 gtx) H := hP
  have hD : va_D A (w_X3_readAll cy z a0 gdr v1 gtx) := hD
  refine lv_iconst (v := (0 : Int32)) hx hb dX3_readAll_8 (by decide) ?_
  refine lv_istore_n (lv' := [(3, .int (0 : Int32)), (0, .ref (a0 0)), (1, .int x1), (2, .int x2)]) hx hb dX3_readAll_9 rfl hl (by decide) rfl (fun ls hl => ?_)
  exact c10 fu gdr v1 x2 (0 : Int32) H locs ls h hP hD hS (lv_sub hl [1, 3, 0] rfl)

abbrev w_X3_doDay (cy : Nat → ClassId) (z : Nat → Nat) (a0 : Nat → Nat) (a1 : Nat → Nat) (gdr_0 : Nat × Int32 × Int32 × Int32 × Int32) (gr_0 : Int32 × Int32 × Int32 × Int32 × Int32 × Int32 × Int32 × Int32 × Int32) (gtx_0 : (Nat → Int32)) (gv_1 : Int32 × Int32 × (Nat → Int32) × (Nat → Int32) × (Nat → Int32) × (Nat → Int32) × (Nat → Int32)) (gd_1 : Int32 × Int32 × (Nat → Int32) × (Nat → Int32) × (Nat → Int32) × (Nat → Int32)) : va_W := [(a0 0, .inr (1, [.ref (a0 1), .ref (z (200 + gdr_0.1)), .int (gdr_0.2.1), .int (gdr_0.2.2.1), .int (gdr_0.2.2.2.1), .int (gdr_0.2.2.2.2)])), (a0 1, .inr (5, [.ref (a0 2), .int (gr_0.1), .int (gr_0.2.1), .int (gr_0.2.2.1), .int (gr_0.2.2.2.1), .int (gr_0.2.2.2.2.1), .int (gr_0.2.2.2.2.2.1), .int (gr_0.2.2.2.2.2.2.1), .int (gr_0.2.2.2.2.2.2.2.1), .int (gr_0.2.2.2.2.2.2.2.2)])), (a0 2, .inl (cy 0, 600, .inl (gtx_0))), (a1 0, .inr (7, [.int (gv_1.1), .int (gv_1.2.1), .ref (a1 1), .ref (a1 6), .ref (a1 10), .ref (a1 11), .ref (a1 12), .ref (a1 13), .ref (a1 14)])), (a1 1, .inr (2, [.int (gd_1.1), .int (gd_1.2.1), .ref (a1 2), .ref (a1 3), .ref (a1 4), .ref (a1 5)])), (a1 2, .inl (cy 1, 10, .inl (gd_1.2.2.1))), (a1 3, .inl (cy 1, 10, .inl (gd_1.2.2.2.1))), (a1 4, .inl (cy 1, 10, .inl (gd_1.2.2.2.2.1))), (a1 5, .inl (cy 1, 50, .inl (gd_1.2.2.2.2.2))), (a1 10, .inl (cy 1, 5, .inl (gv_1.2.2.1))), (a1 11, .inl (cy 1, 5, .inl (gv_1.2.2.2.1))), (a1 12, .inl (cy 1, 5, .inl (gv_1.2.2.2.2.1))), (a1 13, .inl (cy 1, 5, .inl (gv_1.2.2.2.2.2.1))), (a1 14, .inl (cy 1, 5, .inl (gv_1.2.2.2.2.2.2)))]
abbrev rm_X3_doDay : Room := { frames := 4, cells := 0, slots := 0, locals := 86 }
set_option maxHeartbeats 1000000 in
set_option maxRecDepth 100000 in
theorem c_X3_doDay (l : Launch) (dC : Nat → ClassId) (dI : Nat → Nat → Nat) (cy : Nat → ClassId) (z : Nat → Nat) (a0 : Nat → Nat) (a1 : Nat → Nat) (gdr_0 : Nat × Int32 × Int32 × Int32 × Int32) (gr_0 : Int32 × Int32 × Int32 × Int32 × Int32 × Int32 × Int32 × Int32 × Int32) (gtx_0 : (Nat → Int32)) (gv_1 : Int32 × Int32 × (Nat → Int32) × (Nat → Int32) × (Nat → Int32) × (Nat → Int32) × (Nat → Int32)) (gd_1 : Int32 × Int32 × (Nat → Int32) × (Nat → Int32) × (Nat → Int32) × (Nat → Int32)) (sz : Nat) (R0 : Int32 × (Int32 × Int32 × (Nat → Int32) × (Nat → Int32) × (Nat → Int32) × (Nat → Int32) × (Nat → Int32)) × (Int32 × Int32 × (Nat → Int32) × (Nat → Int32) × (Nat → Int32) × (Nat → Int32))) (h : p_X3_doDay gdr_0 gr_0 gtx_0 gv_1 gd_1 = some R0) : Met l yX3_doDay wsX3_doDay rm_X3_doDay (va_Pc [.ref (a0 0), .ref (a1 0)] (prS dC dI cy z (w_X3_doDay cy z a0 a1 gdr_0 gr_0 gtx_0 gv_1 gd_1) sz)) (va_Qi (fun (r : Int32) (u : (Int32 × Int32 × (Nat → Int32) × (Nat → Int32) × (Nat → Int32) × (Nat → Int32) × (Nat → Int32)) × (Int32 × Int32 × (Nat → Int32) × (Nat → Int32) × (Nat → Int32) × (Nat → Int32))) => r = R0.1 ∧ u = R0.2) (fun (u : (Int32 × Int32 × (Nat → Int32) × (Nat → Int32) × (Nat → Int32) × (Nat → Int32) × (Nat → Int32)) × (Int32 × Int32 × (Nat → Int32) × (Nat → Int32) × (Nat → Int32) × (Nat → Int32))) t => poC dC dI cy (w_X3_doDay cy z a0 a1 gdr_0 gr_0 gtx_0 u.1 u.2) t) (va_A (w_X3_doDay cy z a0 a1 gdr_0 gr_0 gtx_0 gv_1 gd_1) sz)) 0 0 (va_A (w_X3_doDay cy z a0 a1 gdr_0 gr_0 gtx_0 gv_1 gd_1) sz) := by
  refine Met.ofW (cc := cX3_doDay) (maxL := 2) (ret := (some .boolean)) (by decide) rfl ?_
  intro p e s m aa below meth c s₁ B hml hv
  obtain ⟨haa, ⟨hsz, hP, hK, hD0⟩, hX⟩ := hv
  have hx := B.exec
  have hb := B.bytes
  have hr := B.returns
  have hts := atoms_spec (ws := wsX3_doDay) B.pre
  have hown : s.vm.findClass RX3 = some m.cls := findClass_of_methodNamed B.named
  have hlocks := B.notSynchronized
  subst hsz
  have hD := hD0.self (sz := s.heap.size)
  obtain ⟨qq, hqq⟩ : ∃ qq, qq = (va_Qi (fun (r : Int32) (u : (Int32 × Int32 × (Nat → Int32) × (Nat → Int32) × (Nat → Int32) × (Nat → Int32) × (Nat → Int32)) × (Int32 × Int32 × (Nat → Int32) × (Nat → Int32) × (Nat → Int32) × (Nat → Int32))) => r = R0.1 ∧ u = R0.2) (fun (u : (Int32 × Int32 × (Nat → Int32) × (Nat → Int32) × (Nat → Int32) × (Nat → Int32) × (Nat → Int32)) × (Int32 × Int32 × (Nat → Int32) × (Nat → Int32) × (Nat → Int32) × (Nat → Int32))) t => poC dC dI cy (w_X3_doDay cy z a0 a1 gdr_0 gr_0 gtx_0 u.1 u.2) t) (va_A (w_X3_doDay cy z a0 a1 gdr_0 gr_0 gtx_0 gv_1 gd_1) s.heap.size)) := ⟨_, rfl⟩
  rw [← hqq]
  generalize hAe : va_A (w_X3_doDay cy z a0 a1 gdr_0 gr_0 gtx_0 gv_1 gd_1) s.heap.size = A at hD hqq hX ⊢
  have hA : ∀ q : Nat, s.heap.size ≤ q → A q := fun q h => by rw [← hAe]; exact Or.inr h
  have hS : va_S A s.heap s.heap [] := va_S.rf
  have hl := lv_entry ([.ref (a0 0), .ref (a1 0)]) (n := 2) (Nat.le_of_ble_eq_true rfl)
  have hE : entryFrame m aa 2 = F0 m 0 ((lg_sl ([.ref (a0 0), .ref (a1 0)]) ++ List.replicate (2 - (lg_sl ([.ref (a0 0), .ref (a1 0)])).length) Slot.unset).toArray) [] := by rw [haa]; exact lg_entry_eq m _ 2
  refine W.eq hE ?_
  generalize (lg_sl ([.ref (a0 0), .ref (a1 0)]) ++ List.replicate (2 - (lg_sl ([.ref (a0 0), .ref (a1 0)])).length) Slot.unset).toArray = ls at hl ⊢
  have hl : lv_has ls 2 [(0, .ref (a0 0)), (1, .ref (a1 0))] := hl
  change W p l e rm_X3_doDay s m aa below meth c s.heap [] 0 0 (MQ below qq aa s 0 0 A) (F0 m 0 ls [])
  have hS0 := hS
  have lk0 := hts (.fieldLink RX3 114 "GoatDoors$1" "$SwitchMap$GoatDoors$Day" "[I") (by decide +kernel)
  have lk1 := hts (.fieldLink RX3 21 "GoatDoors$DayReader" "day" "LGoatDoors$Day;") (by decide +kernel)
  have lk2 := hts (.fieldLink RX3 102 "GoatDoors$DayReader" "first" "I") (by decide +kernel)
  have lk3 := hts (.fieldLink RX3 111 "GoatDoors$DayReader" "amount" "I") (by decide +kernel)
  have lk4 := hts (.fieldLink RX3 105 "GoatDoors$DayReader" "second" "I") (by decide +kernel)
  have lk5 := hts (.fieldLink RX3 140 "GoatDoors$Village" "doors" "LGoatDoors$Doors;") (by decide +kernel)
  have lk6 := hts (.fieldLink RX3 9 "GoatDoors$DayReader" "reader" "LGoatDoors$Reader;") (by decide +kernel)
  have in_X3 : ∀ w ∈ wsX30, w ∈ wsX3_doDay := by decide +kernel
  have in_X9 : ∀ w ∈ wsX90, w ∈ wsX3_doDay := by decide +kernel
  obtain ⟨H, hH⟩ : ∃ H : Heap, H = s.heap := ⟨_, rfl⟩
  obtain ⟨locs, hlocs⟩ : ∃ locs : List Loc, locs = [] := ⟨_, rfl⟩
  have hS : va_S A s.heap H locs := by rw [hH, hlocs]; exact hS
  rw [← hH] at hP
  suffices hg : W p l e rm_X3_doDay s m aa below meth c H locs 0 0 (MQ below qq aa s 0 0 A) (F0 m 0 ls []) by subst hH; subst hlocs; exact hg
  unfold p_X3_doDay at h
  refine va_gets hx hb hX.2.2.2.1.2.2.2.2.2.2.1 hS hown lk0 (fun _ h => h) dX3_doDay_0 ?_
  refine lv_aload_n hx hb dX3_doDay_3 rfl (lv_at hl 0 rfl) ?_
  refine va_get (D := (dC, dI)) (ci := 1) (v := .ref (z (200 + gdr_0.1))) (C := RX3) (T := TX3) (N := 6) hx hb hts in_X3 hown hK hP 0 rfl rfl 1 (by decide) lk1 (fun _ h9 => h9) rfl dX3_doDay_4 ?_
  obtain ⟨hd1, h⟩ := ok_if h
  refine cl_ui (w2 := fun (_ : Unit) => w_X3_doDay cy z a0 a1 gdr_0 gr_0 gtx_0 gv_1 gd_1) (As := []) (rest := [.ref (z 301)]) ⟨hx, hb, hml, hown, hts⟩ (c_ordinal l dC dI cy z gdr_0.1 H.size hd1) (va_cwU 0 hts gX3_doDay_Jx29ce0_ordinal_8abf5_u120X2 rfl rfl rfl rfl (by decide +kernel) ⟨Nat.le_of_ble_eq_true rfl, Nat.le_of_ble_eq_true rfl⟩) (va_recvEc hX.2.2.2.1.2.2.1 (i := gdr_0.1) hd1 hS) cl_blindS (cl_preS hK hP hD hS hA hX [] rfl rfl) hP hD hS hA [] rfl rfl hl.1 rfl (lv_room (Nat.le_of_ble_eq_true rfl)) dX3_doDay_7 ⟨Nat.le_of_ble_eq_true rfl, Nat.le_of_ble_eq_true rfl⟩ ⟨rfl, rfl⟩ (fun _ => updR [] rfl) (fun r u H locs hw hP hD hS => ?_)
  have hw := hw.symm
  subst hw
  have hP : va_P (dC, dI) vwCl (w_X3_doDay cy z a0 a1 gdr_0 gr_0 gtx_0 gv_1 gd_1) H := hP
  have hD : va_D A (w_X3_doDay cy z a0 a1 gdr_0 gr_0 gtx_0 gv_1 gd_1) := hD
  obtain ⟨hi2, h⟩ := ok_if h
  refine va_ti (v := .int (nI ((nI gdr_0.1).toNatClampNeg + 1))) hx hb hX.2.2.2.1.2.2.2.2.2.2.2.1 hS (ix_in hi2) rfl dX3_doDay_10 ?_
  by_cases c3 : (nI ((nI gdr_0.1).toNatClampNeg + 1)) = (1 : Int32)
  · rw [if_pos c3] at h
    refine lv_tableIn (off := 45) (tgt := 56) hx hb dX3_doDay_11 (by rw [c3]; decide) (by rw [c3]; decide) (by rw [c3]; decide) (by decide) ?_
    refine lv_aload_n hx hb dX3_doDay_56 rfl (lv_at hl 1 rfl) ?_
    refine lv_aload_n hx hb dX3_doDay_57 rfl (lv_at hl 0 rfl) ?_
    refine va_get (D := (dC, dI)) (ci := 1) (v := .int gdr_0.2.1) (C := RX3) (T := TX3) (N := 6) hx hb hts in_X3 hown hK hP 0 rfl rfl 2 (by decide) lk2 (fun _ h9 => h9) rfl dX3_doDay_58 ?_
    refine lv_aload_n hx hb dX3_doDay_61 rfl (lv_at hl 0 rfl) ?_
    refine va_get (D := (dC, dI)) (ci := 1) (v := .int gdr_0.2.2.2.1) (C := RX3) (T := TX3) (N := 6) hx hb hts in_X3 hown hK hP 0 rfl rfl 4 (by decide) lk3 (fun _ h9 => h9) rfl dX3_doDay_62 ?_
    obtain ⟨v4, hv5, h⟩ := ok_bind h
    refine cl_vi (w2 := fun (u : (Int32 × Int32 × (Nat → Int32) × (Nat → Int32) × (Nat → Int32) × (Nat → Int32) × (Nat → Int32))) => w_X3_doDay cy z a0 a1 gdr_0 gr_0 gtx_0 u gd_1) (As := [.int gdr_0.2.1, .int gdr_0.2.2.2.1]) (rest := []) ⟨hx, hb, hml, hown, hts⟩ (c_X9_bear l dC dI cy a1 gv_1 gdr_0.2.1 gdr_0.2.2.2.1 H.size v4 hv5) (cwV 2 hts gX3_doDay_X9_bear rfl rfl rfl (by decide +kernel) ⟨Nat.le_of_ble_eq_true rfl, Nat.le_of_ble_eq_true rfl⟩) (va_recv hK hP (ci := 7) (q0 := 3) rfl rfl) cl_blind (cl_pre hK hP hD [3, 9, 10, 11, 12, 13] (by decide) rfl) hP hD hS hA [3, 9, 10, 11, 12, 13] rfl rfl hl.1 rfl (lv_room (Nat.le_of_ble_eq_true rfl)) dX3_doDay_65 ⟨Nat.le_of_ble_eq_true rfl, Nat.le_of_ble_eq_true rfl⟩ ⟨rfl, rfl⟩ (fun _ => updM [3, 9, 10, 11, 12, 13] [0, 1, 2, 4, 5, 6, 7, 8] [(a0 0, .inr (1, [.ref (a0 1), .ref (z (200 + gdr_0.1)), .int (gdr_0.2.1), .int (gdr_0.2.2.1), .int (gdr_0.2.2.2.1), .int (gdr_0.2.2.2.2)])), (a0 1, .inr (5, [.ref (a0 2), .int (gr_0.1), .int (gr_0.2.1), .int (gr_0.2.2.1), .int (gr_0.2.2.2.1), .int (gr_0.2.2.2.2.1), .int (gr_0.2.2.2.2.2.1), .int (gr_0.2.2.2.2.2.2.1), .int (gr_0.2.2.2.2.2.2.2.1), .int (gr_0.2.2.2.2.2.2.2.2)])), (a0 2, .inl (cy 0, 600, .inl (gtx_0))), (a1 1, .inr (2, [.int (gd_1.1), .int (gd_1.2.1), .ref (a1 2), .ref (a1 3), .ref (a1 4), .ref (a1 5)])), (a1 2, .inl (cy 1, 10, .inl (gd_1.2.2.1))), (a1 3, .inl (cy 1, 10, .inl (gd_1.2.2.2.1))), (a1 4, .inl (cy 1, 10, .inl (gd_1.2.2.2.2.1))), (a1 5, .inl (cy 1, 50, .inl (gd_1.2.2.2.2.2)))] 14 rfl rfl rfl rfl rfl (by decide +kernel) (by decide +kernel) rfl) (fun r u H locs hw hP hD hS => ?_)
    obtain ⟨rfl, rfl⟩ := hw
    have hP : va_P (dC, dI) vwCl (w_X3_doDay cy z a0 a1 gdr_0 gr_0 gtx_0 v4.2 gd_1) H := hP
    have hD : va_D A (w_X3_doDay cy z a0 a1 gdr_0 gr_0 gtx_0 v4.2 gd_1) := hD
    obtain ⟨hz6, h⟩ := ok_if h
    exact W.zret (v := v4.1) (ty := .boolean) hx hb hr (isZ_nar hz6) (fun t ht hW => by rw [hqq]; have hh := Option.some.inj h; exact ⟨⟨v4.1, ((v4.2, gd_1)), rfl, ⟨fst_of hh, snd_of hh⟩, by rw [ht]; exact hP, va_K.moved hW.alike hK⟩, hS.F ht⟩) hS.2.2 dX3_doDay_68
  rw [if_neg c3] at h
  by_cases c7 : (nI ((nI gdr_0.1).toNatClampNeg + 1)) = (2 : Int32)
  · rw [if_pos c7] at h
    refine lv_tableIn (off := 58) (tgt := 69) hx hb dX3_doDay_11 (by rw [c7]; decide) (by rw [c7]; decide) (by rw [c7]; decide) (by decide) ?_
    refine lv_aload_n hx hb dX3_doDay_69 rfl (lv_at hl 1 rfl) ?_
    refine lv_aload_n hx hb dX3_doDay_70 rfl (lv_at hl 0 rfl) ?_
    refine va_get (D := (dC, dI)) (ci := 1) (v := .int gdr_0.2.1) (C := RX3) (T := TX3) (N := 6) hx hb hts in_X3 hown hK hP 0 rfl rfl 2 (by decide) lk2 (fun _ h9 => h9) rfl dX3_doDay_71 ?_
    refine lv_aload_n hx hb dX3_doDay_74 rfl (lv_at hl 0 rfl) ?_
    refine va_get (D := (dC, dI)) (ci := 1) (v := .int gdr_0.2.2.2.1) (C := RX3) (T := TX3) (N := 6) hx hb hts in_X3 hown hK hP 0 rfl rfl 4 (by decide) lk3 (fun _ h9 => h9) rfl dX3_doDay_75 ?_
    obtain ⟨v8, hv9, h⟩ := ok_bind h
    refine cl_vi (w2 := fun (u : (Int32 × Int32 × (Nat → Int32) × (Nat → Int32) × (Nat → Int32) × (Nat → Int32) × (Nat → Int32))) => w_X3_doDay cy z a0 a1 gdr_0 gr_0 gtx_0 u gd_1) (As := [.int gdr_0.2.1, .int gdr_0.2.2.2.1]) (rest := []) ⟨hx, hb, hml, hown, hts⟩ (c_X9_eat l dC dI cy a1 gv_1 gdr_0.2.1 gdr_0.2.2.2.1 H.size v8 hv9) (cwV 2 hts gX3_doDay_X9_eat rfl rfl rfl (by decide +kernel) ⟨Nat.le_of_ble_eq_true rfl, Nat.le_of_ble_eq_true rfl⟩) (va_recv hK hP (ci := 7) (q0 := 3) rfl rfl) cl_blind (cl_pre hK hP hD [3, 9, 10, 11, 12, 13] (by decide) rfl) hP hD hS hA [3, 9, 10, 11, 12, 13] rfl rfl hl.1 rfl (lv_room (Nat.le_of_ble_eq_true rfl)) dX3_doDay_78 ⟨Nat.le_of_ble_eq_true rfl, Nat.le_of_ble_eq_true rfl⟩ ⟨rfl, rfl⟩ (fun _ => updM [3, 9, 10, 11, 12, 13] [0, 1, 2, 4, 5, 6, 7, 8] [(a0 0, .inr (1, [.ref (a0 1), .ref (z (200 + gdr_0.1)), .int (gdr_0.2.1), .int (gdr_0.2.2.1), .int (gdr_0.2.2.2.1), .int (gdr_0.2.2.2.2)])), (a0 1, .inr (5, [.ref (a0 2), .int (gr_0.1), .int (gr_0.2.1), .int (gr_0.2.2.1), .int (gr_0.2.2.2.1), .int (gr_0.2.2.2.2.1), .int (gr_0.2.2.2.2.2.1), .int (gr_0.2.2.2.2.2.2.1), .int (gr_0.2.2.2.2.2.2.2.1), .int (gr_0.2.2.2.2.2.2.2.2)])), (a0 2, .inl (cy 0, 600, .inl (gtx_0))), (a1 1, .inr (2, [.int (gd_1.1), .int (gd_1.2.1), .ref (a1 2), .ref (a1 3), .ref (a1 4), .ref (a1 5)])), (a1 2, .inl (cy 1, 10, .inl (gd_1.2.2.1))), (a1 3, .inl (cy 1, 10, .inl (gd_1.2.2.2.1))), (a1 4, .inl (cy 1, 10, .inl (gd_1.2.2.2.2.1))), (a1 5, .inl (cy 1, 50, .inl (gd_1.2.2.2.2.2)))] 14 rfl rfl rfl rfl rfl (by decide +kernel) (by decide +kernel) rfl) (fun r u H locs hw hP hD hS => ?_)
    obtain ⟨rfl, rfl⟩ := hw
    have hP : va_P (dC, dI) vwCl (w_X3_doDay cy z a0 a1 gdr_0 gr_0 gtx_0 v8.2 gd_1) H := hP
    have hD : va_D A (w_X3_doDay cy z a0 a1 gdr_0 gr_0 gtx_0 v8.2 gd_1) := hD
    obtain ⟨hz10, h⟩ := ok_if h
    exact W.zret (v := v8.1) (ty := .boolean) hx hb hr (isZ_nar hz10) (fun t ht hW => by rw [hqq]; have hh := Option.some.inj h; exact ⟨⟨v8.1, ((v8.2, gd_1)), rfl, ⟨fst_of hh, snd_of hh⟩, by rw [ht]; exact hP, va_K.moved hW.alike hK⟩, hS.F ht⟩) hS.2.2 dX3_doDay_81
  rw [if_neg c7] at h
  by_cases c11 : (nI ((nI gdr_0.1).toNatClampNeg + 1)) = (3 : Int32)
  · rw [if_pos c11] at h
    refine lv_tableIn (off := 71) (tgt := 82) hx hb dX3_doDay_11 (by rw [c11]; decide) (by rw [c11]; decide) (by rw [c11]; decide) (by decide) ?_
    refine lv_aload_n hx hb dX3_doDay_82 rfl (lv_at hl 1 rfl) ?_
    refine lv_aload_n hx hb dX3_doDay_83 rfl (lv_at hl 0 rfl) ?_
    refine va_get (D := (dC, dI)) (ci := 1) (v := .int gdr_0.2.1) (C := RX3) (T := TX3) (N := 6) hx hb hts in_X3 hown hK hP 0 rfl rfl 2 (by decide) lk2 (fun _ h9 => h9) rfl dX3_doDay_84 ?_
    refine lv_aload_n hx hb dX3_doDay_87 rfl (lv_at hl 0 rfl) ?_
    refine va_get (D := (dC, dI)) (ci := 1) (v := .int gdr_0.2.2.1) (C := RX3) (T := TX3) (N := 6) hx hb hts in_X3 hown hK hP 0 rfl rfl 3 (by decide) lk4 (fun _ h9 => h9) rfl dX3_doDay_88 ?_
    refine lv_aload_n hx hb dX3_doDay_91 rfl (lv_at hl 0 rfl) ?_
    refine va_get (D := (dC, dI)) (ci := 1) (v := .int gdr_0.2.2.2.1) (C := RX3) (T := TX3) (N := 6) hx hb hts in_X3 hown hK hP 0 rfl rfl 4 (by decide) lk3 (fun _ h9 => h9) rfl dX3_doDay_92 ?_
    obtain ⟨v12, hv13, h⟩ := ok_bind h
    refine cl_vi (w2 := fun (u : (Int32 × Int32 × (Nat → Int32) × (Nat → Int32) × (Nat → Int32) × (Nat → Int32) × (Nat → Int32))) => w_X3_doDay cy z a0 a1 gdr_0 gr_0 gtx_0 u gd_1) (As := [.int gdr_0.2.1, .int gdr_0.2.2.1, .int gdr_0.2.2.2.1]) (rest := []) ⟨hx, hb, hml, hown, hts⟩ (c_X9_lend l dC dI cy a1 gv_1 gdr_0.2.1 gdr_0.2.2.1 gdr_0.2.2.2.1 H.size v12 hv13) (cwV 3 hts gX3_doDay_X9_lend rfl rfl rfl (by decide +kernel) ⟨Nat.le_of_ble_eq_true rfl, Nat.le_of_ble_eq_true rfl⟩) (va_recv hK hP (ci := 7) (q0 := 3) rfl rfl) cl_blind (cl_pre hK hP hD [3, 9, 10, 11, 12, 13] (by decide) rfl) hP hD hS hA [3, 9, 10, 11, 12, 13] rfl rfl hl.1 rfl (lv_room (Nat.le_of_ble_eq_true rfl)) dX3_doDay_95 ⟨Nat.le_of_ble_eq_true rfl, Nat.le_of_ble_eq_true rfl⟩ ⟨rfl, rfl⟩ (fun _ => updM [3, 9, 10, 11, 12, 13] [0, 1, 2, 4, 5, 6, 7, 8] [(a0 0, .inr (1, [.ref (a0 1), .ref (z (200 + gdr_0.1)), .int (gdr_0.2.1), .int (gdr_0.2.2.1), .int (gdr_0.2.2.2.1), .int (gdr_0.2.2.2.2)])), (a0 1, .inr (5, [.ref (a0 2), .int (gr_0.1), .int (gr_0.2.1), .int (gr_0.2.2.1), .int (gr_0.2.2.2.1), .int (gr_0.2.2.2.2.1), .int (gr_0.2.2.2.2.2.1), .int (gr_0.2.2.2.2.2.2.1), .int (gr_0.2.2.2.2.2.2.2.1), .int (gr_0.2.2.2.2.2.2.2.2)])), (a0 2, .inl (cy 0, 600, .inl (gtx_0))), (a1 1, .inr (2, [.int (gd_1.1), .int (gd_1.2.1), .ref (a1 2), .ref (a1 3), .ref (a1 4), .ref (a1 5)])), (a1 2, .inl (cy 1, 10, .inl (gd_1.2.2.1))), (a1 3, .inl (cy 1, 10, .inl (gd_1.2.2.2.1))), (a1 4, .inl (cy 1, 10, .inl (gd_1.2.2.2.2.1))), (a1 5, .inl (cy 1, 50, .inl (gd_1.2.2.2.2.2)))] 14 rfl rfl rfl rfl rfl (by decide +kernel) (by decide +kernel) rfl) (fun r u H locs hw hP hD hS => ?_)
    obtain ⟨rfl, rfl⟩ := hw
    have hP : va_P (dC, dI) vwCl (w_X3_doDay cy z a0 a1 gdr_0 gr_0 gtx_0 v12.2 gd_1) H := hP
    have hD : va_D A (w_X3_doDay cy z a0 a1 gdr_0 gr_0 gtx_0 v12.2 gd_1) := hD
    obtain ⟨hz14, h⟩ := ok_if h
    exact W.zret (v := v12.1) (ty := .boolean) hx hb hr (isZ_nar hz14) (fun t ht hW => by rw [hqq]; have hh := Option.some.inj h; exact ⟨⟨v12.1, ((v12.2, gd_1)), rfl, ⟨fst_of hh, snd_of hh⟩, by rw [ht]; exact hP, va_K.moved hW.alike hK⟩, hS.F ht⟩) hS.2.2 dX3_doDay_98
  rw [if_neg c11] at h
  by_cases c15 : (nI ((nI gdr_0.1).toNatClampNeg + 1)) = (4 : Int32)
  · rw [if_pos c15] at h
    refine lv_tableIn (off := 88) (tgt := 99) hx hb dX3_doDay_11 (by rw [c15]; decide) (by rw [c15]; decide) (by rw [c15]; decide) (by decide) ?_
    refine lv_aload_n hx hb dX3_doDay_99 rfl (lv_at hl 1 rfl) ?_
    refine lv_aload_n hx hb dX3_doDay_100 rfl (lv_at hl 0 rfl) ?_
    refine va_get (D := (dC, dI)) (ci := 1) (v := .int gdr_0.2.1) (C := RX3) (T := TX3) (N := 6) hx hb hts in_X3 hown hK hP 0 rfl rfl 2 (by decide) lk2 (fun _ h9 => h9) rfl dX3_doDay_101 ?_
    refine lv_aload_n hx hb dX3_doDay_104 rfl (lv_at hl 0 rfl) ?_
    refine va_get (D := (dC, dI)) (ci := 1) (v := .int gdr_0.2.2.2.1) (C := RX3) (T := TX3) (N := 6) hx hb hts in_X3 hown hK hP 0 rfl rfl 4 (by decide) lk3 (fun _ h9 => h9) rfl dX3_doDay_105 ?_
    obtain ⟨v16, hv17, h⟩ := ok_bind h
    refine cl_vi (w2 := fun (u : (Int32 × Int32 × (Nat → Int32) × (Nat → Int32) × (Nat → Int32) × (Nat → Int32) × (Nat → Int32))) => w_X3_doDay cy z a0 a1 gdr_0 gr_0 gtx_0 u gd_1) (As := [.int gdr_0.2.1, .int gdr_0.2.2.2.1]) (rest := []) ⟨hx, hb, hml, hown, hts⟩ (c_X9_hide l dC dI cy a1 gv_1 gdr_0.2.1 gdr_0.2.2.2.1 H.size v16 hv17) (cwV 2 hts gX3_doDay_X9_hide rfl rfl rfl (by decide +kernel) ⟨Nat.le_of_ble_eq_true rfl, Nat.le_of_ble_eq_true rfl⟩) (va_recv hK hP (ci := 7) (q0 := 3) rfl rfl) cl_blind (cl_pre hK hP hD [3, 9, 10, 11, 12, 13] (by decide) rfl) hP hD hS hA [3, 9, 10, 11, 12, 13] rfl rfl hl.1 rfl (lv_room (Nat.le_of_ble_eq_true rfl)) dX3_doDay_108 ⟨Nat.le_of_ble_eq_true rfl, Nat.le_of_ble_eq_true rfl⟩ ⟨rfl, rfl⟩ (fun _ => updM [3, 9, 10, 11, 12, 13] [0, 1, 2, 4, 5, 6, 7, 8] [(a0 0, .inr (1, [.ref (a0 1), .ref (z (200 + gdr_0.1)), .int (gdr_0.2.1), .int (gdr_0.2.2.1), .int (gdr_0.2.2.2.1), .int (gdr_0.2.2.2.2)])), (a0 1, .inr (5, [.ref (a0 2), .int (gr_0.1), .int (gr_0.2.1), .int (gr_0.2.2.1), .int (gr_0.2.2.2.1), .int (gr_0.2.2.2.2.1), .int (gr_0.2.2.2.2.2.1), .int (gr_0.2.2.2.2.2.2.1), .int (gr_0.2.2.2.2.2.2.2.1), .int (gr_0.2.2.2.2.2.2.2.2)])), (a0 2, .inl (cy 0, 600, .inl (gtx_0))), (a1 1, .inr (2, [.int (gd_1.1), .int (gd_1.2.1), .ref (a1 2), .ref (a1 3), .ref (a1 4), .ref (a1 5)])), (a1 2, .inl (cy 1, 10, .inl (gd_1.2.2.1))), (a1 3, .inl (cy 1, 10, .inl (gd_1.2.2.2.1))), (a1 4, .inl (cy 1, 10, .inl (gd_1.2.2.2.2.1))), (a1 5, .inl (cy 1, 50, .inl (gd_1.2.2.2.2.2)))] 14 rfl rfl rfl rfl rfl (by decide +kernel) (by decide +kernel) rfl) (fun r u H locs hw hP hD hS => ?_)
    obtain ⟨rfl, rfl⟩ := hw
    have hP : va_P (dC, dI) vwCl (w_X3_doDay cy z a0 a1 gdr_0 gr_0 gtx_0 v16.2 gd_1) H := hP
    have hD : va_D A (w_X3_doDay cy z a0 a1 gdr_0 gr_0 gtx_0 v16.2 gd_1) := hD
    obtain ⟨hz18, h⟩ := ok_if h
    exact W.zret (v := v16.1) (ty := .boolean) hx hb hr (isZ_nar hz18) (fun t ht hW => by rw [hqq]; have hh := Option.some.inj h; exact ⟨⟨v16.1, ((v16.2, gd_1)), rfl, ⟨fst_of hh, snd_of hh⟩, by rw [ht]; exact hP, va_K.moved hW.alike hK⟩, hS.F ht⟩) hS.2.2 dX3_doDay_111
  rw [if_neg c15] at h
  by_cases c19 : (nI ((nI gdr_0.1).toNatClampNeg + 1)) = (5 : Int32)
  · rw [if_pos c19] at h
    refine lv_tableIn (off := 101) (tgt := 112) hx hb dX3_doDay_11 (by rw [c19]; decide) (by rw [c19]; decide) (by rw [c19]; decide) (by decide) ?_
    refine lv_aload_n hx hb dX3_doDay_112 rfl (lv_at hl 1 rfl) ?_
    obtain ⟨v20, hv21, h⟩ := ok_bind h
    refine cl_vi (w2 := fun (u : (Int32 × Int32 × (Nat → Int32) × (Nat → Int32) × (Nat → Int32) × (Nat → Int32) × (Nat → Int32))) => w_X3_doDay cy z a0 a1 gdr_0 gr_0 gtx_0 u gd_1) (As := []) (rest := []) ⟨hx, hb, hml, hown, hts⟩ (c_X9_takeCensus l dC dI cy a1 gv_1 H.size v20 hv21) (cwV 0 hts gX3_doDay_X9_takeCensus rfl rfl rfl (by decide +kernel) ⟨Nat.le_of_ble_eq_true rfl, Nat.le_of_ble_eq_true rfl⟩) (va_recv hK hP (ci := 7) (q0 := 3) rfl rfl) cl_blind (cl_pre hK hP hD [3, 9, 10, 11, 12, 13] (by decide) rfl) hP hD hS hA [3, 9, 10, 11, 12, 13] rfl rfl hl.1 rfl (lv_room (Nat.le_of_ble_eq_true rfl)) dX3_doDay_113 ⟨Nat.le_of_ble_eq_true rfl, Nat.le_of_ble_eq_true rfl⟩ ⟨rfl, rfl⟩ (fun _ => updM [3, 9, 10, 11, 12, 13] [0, 1, 2, 4, 5, 6, 7, 8] [(a0 0, .inr (1, [.ref (a0 1), .ref (z (200 + gdr_0.1)), .int (gdr_0.2.1), .int (gdr_0.2.2.1), .int (gdr_0.2.2.2.1), .int (gdr_0.2.2.2.2)])), (a0 1, .inr (5, [.ref (a0 2), .int (gr_0.1), .int (gr_0.2.1), .int (gr_0.2.2.1), .int (gr_0.2.2.2.1), .int (gr_0.2.2.2.2.1), .int (gr_0.2.2.2.2.2.1), .int (gr_0.2.2.2.2.2.2.1), .int (gr_0.2.2.2.2.2.2.2.1), .int (gr_0.2.2.2.2.2.2.2.2)])), (a0 2, .inl (cy 0, 600, .inl (gtx_0))), (a1 1, .inr (2, [.int (gd_1.1), .int (gd_1.2.1), .ref (a1 2), .ref (a1 3), .ref (a1 4), .ref (a1 5)])), (a1 2, .inl (cy 1, 10, .inl (gd_1.2.2.1))), (a1 3, .inl (cy 1, 10, .inl (gd_1.2.2.2.1))), (a1 4, .inl (cy 1, 10, .inl (gd_1.2.2.2.2.1))), (a1 5, .inl (cy 1, 50, .inl (gd_1.2.2.2.2.2)))] 14 rfl rfl rfl rfl rfl (by decide +kernel) (by decide +kernel) rfl) (fun r u H locs hw hP hD hS => ?_)
    obtain ⟨rfl, rfl⟩ := hw
    have hP : va_P (dC, dI) vwCl (w_X3_doDay cy z a0 a1 gdr_0 gr_0 gtx_0 v20.2 gd_1) H := hP
    have hD : va_D A (w_X3_doDay cy z a0 a1 gdr_0 gr_0 gtx_0 v20.2 gd_1) := hD
    obtain ⟨hz22, h⟩ := ok_if h
    exact W.zret (v := v20.1) (ty := .boolean) hx hb hr (isZ_nar hz22) (fun t ht hW => by rw [hqq]; have hh := Option.some.inj h; exact ⟨⟨v20.1, ((v20.2, gd_1)), rfl, ⟨fst_of hh, snd_of hh⟩, by rw [ht]; exact hP, va_K.moved hW.alike hK⟩, hS.F ht⟩) hS.2.2 dX3_doDay_116
  rw [if_neg c19] at h
  by_cases c23 : (nI ((nI gdr_0.1).toNatClampNeg + 1)) = (6 : Int32)
  · rw [if_pos c23] at h
    refine lv_tableIn (off := 106) (tgt := 117) hx hb dX3_doDay_11 (by rw [c23]; decide) (by rw [c23]; decide) (by rw [c23]; decide) (by decide) ?_
    refine lv_aload_n hx hb dX3_doDay_117 rfl (lv_at hl 1 rfl) ?_
    refine va_get (D := (dC, dI)) (ci := 7) (v := .ref (a1 1)) (C := RX9) (T := TX9) (N := 9) hx hb hts in_X9 hown hK hP 3 rfl rfl 2 (by decide) lk5 (fun _ h9 => h9) rfl dX3_doDay_118 ?_
    refine lv_aload_n hx hb dX3_doDay_121 rfl (lv_at hl 0 rfl) ?_
    refine va_get (D := (dC, dI)) (ci := 1) (v := .int gdr_0.2.1) (C := RX3) (T := TX3) (N := 6) hx hb hts in_X3 hown hK hP 0 rfl rfl 2 (by decide) lk2 (fun _ h9 => h9) rfl dX3_doDay_122 ?_
    obtain ⟨v24, hv25, h⟩ := ok_bind h
    refine cl_vi (w2 := fun (u : (Int32 × Int32 × (Nat → Int32) × (Nat → Int32) × (Nat → Int32) × (Nat → Int32))) => w_X3_doDay cy z a0 a1 gdr_0 gr_0 gtx_0 gv_1 u) (As := [.int gdr_0.2.1]) (rest := []) ⟨hx, hb, hml, hown, hts⟩ (c_X4_rub l dC dI cy (fun k => a1 (k + 1)) gd_1 gdr_0.2.1 H.size v24 hv25) (cwV 1 hts gX3_doDay_X4_rub rfl rfl rfl (by decide +kernel) ⟨Nat.le_of_ble_eq_true rfl, Nat.le_of_ble_eq_true rfl⟩) (va_recv hK hP (ci := 2) (q0 := 4) rfl rfl) cl_blind (cl_pre hK hP hD [4, 5, 6, 7, 8] (by decide) rfl) hP hD hS hA [4, 5, 6, 7, 8] rfl rfl hl.1 rfl (lv_room (Nat.le_of_ble_eq_true rfl)) dX3_doDay_125 ⟨Nat.le_of_ble_eq_true rfl, Nat.le_of_ble_eq_true rfl⟩ ⟨rfl, rfl⟩ (fun _ => updM [4, 5, 6, 7, 8] [0, 1, 2, 3, 9, 10, 11, 12, 13] [(a0 0, .inr (1, [.ref (a0 1), .ref (z (200 + gdr_0.1)), .int (gdr_0.2.1), .int (gdr_0.2.2.1), .int (gdr_0.2.2.2.1), .int (gdr_0.2.2.2.2)])), (a0 1, .inr (5, [.ref (a0 2), .int (gr_0.1), .int (gr_0.2.1), .int (gr_0.2.2.1), .int (gr_0.2.2.2.1), .int (gr_0.2.2.2.2.1), .int (gr_0.2.2.2.2.2.1), .int (gr_0.2.2.2.2.2.2.1), .int (gr_0.2.2.2.2.2.2.2.1), .int (gr_0.2.2.2.2.2.2.2.2)])), (a0 2, .inl (cy 0, 600, .inl (gtx_0))), (a1 0, .inr (7, [.int (gv_1.1), .int (gv_1.2.1), .ref (a1 1), .ref (a1 6), .ref (a1 10), .ref (a1 11), .ref (a1 12), .ref (a1 13), .ref (a1 14)])), (a1 10, .inl (cy 1, 5, .inl (gv_1.2.2.1))), (a1 11, .inl (cy 1, 5, .inl (gv_1.2.2.2.1))), (a1 12, .inl (cy 1, 5, .inl (gv_1.2.2.2.2.1))), (a1 13, .inl (cy 1, 5, .inl (gv_1.2.2.2.2.2.1))), (a1 14, .inl (cy 1, 5, .inl (gv_1.2.2.2.2.2.2)))] 14 rfl rfl rfl rfl rfl (by decide +kernel) (by decide +kernel) rfl) (fun r u H locs hw hP hD hS => ?_)
    obtain ⟨rfl, rfl⟩ := hw
    have hP : va_P (dC, dI) vwCl (w_X3_doDay cy z a0 a1 gdr_0 gr_0 gtx_0 gv_1 v24.2) H := hP
    have hD : va_D A (w_X3_doDay cy z a0 a1 gdr_0 gr_0 gtx_0 gv_1 v24.2) := hD
    obtain ⟨hz26, h⟩ := ok_if h
    exact W.zret (v := v24.1) (ty := .boolean) hx hb hr (isZ_nar hz26) (fun t ht hW => by rw [hqq]; have hh := Option.some.inj h; exact ⟨⟨v24.1, ((gv_1, v24.2)), rfl, ⟨fst_of hh, snd_of hh⟩, by rw [ht]; exact hP, va_K.moved hW.alike hK⟩, hS.F ht⟩) hS.2.2 dX3_doDay_128
  rw [if_neg c23] at h
  by_cases c27 : (nI ((nI gdr_0.1).toNatClampNeg + 1)) = (7 : Int32)
  · rw [if_pos c27] at h
    refine lv_tableIn (off := 118) (tgt := 129) hx hb dX3_doDay_11 (by rw [c27]; decide) (by rw [c27]; decide) (by rw [c27]; decide) (by decide) ?_
    refine lv_aload_n hx hb dX3_doDay_129 rfl (lv_at hl 1 rfl) ?_
    refine va_get (D := (dC, dI)) (ci := 7) (v := .ref (a1 1)) (C := RX9) (T := TX9) (N := 9) hx hb hts in_X9 hown hK hP 3 rfl rfl 2 (by decide) lk5 (fun _ h9 => h9) rfl dX3_doDay_130 ?_
    refine lv_aload_n hx hb dX3_doDay_133 rfl (lv_at hl 0 rfl) ?_
    refine va_get (D := (dC, dI)) (ci := 1) (v := .int gdr_0.2.1) (C := RX3) (T := TX3) (N := 6) hx hb hts in_X3 hown hK hP 0 rfl rfl 2 (by decide) lk2 (fun _ h9 => h9) rfl dX3_doDay_134 ?_
    refine lv_aload_n hx hb dX3_doDay_137 rfl (lv_at hl 0 rfl) ?_
    refine va_get (D := (dC, dI)) (ci := 1) (v := .int gdr_0.2.2.1) (C := RX3) (T := TX3) (N := 6) hx hb hts in_X3 hown hK hP 0 rfl rfl 3 (by decide) lk4 (fun _ h9 => h9) rfl dX3_doDay_138 ?_
    refine lv_aload_n hx hb dX3_doDay_141 rfl (lv_at hl 0 rfl) ?_
    refine va_get (D := (dC, dI)) (ci := 1) (v := .ref (a0 1)) (C := RX3) (T := TX3) (N := 6) hx hb hts in_X3 hown hK hP 0 rfl rfl 0 (by decide) lk6 (fun _ h9 => h9) rfl dX3_doDay_142 ?_
    obtain ⟨v28, hv29, h⟩ := ok_bind h
    refine cl_vi (w2 := fun (u : (Int32 × Int32 × (Nat → Int32) × (Nat → Int32) × (Nat → Int32) × (Nat → Int32))) => w_X3_doDay cy z a0 a1 gdr_0 gr_0 gtx_0 gv_1 u) (As := [.int gdr_0.2.1, .int gdr_0.2.2.1, .ref (a0 1)]) (rest := []) ⟨hx, hb, hml, hown, hts⟩ (c_X4_chalk l dC dI cy (fun k => a1 (k + 1)) (fun k => a0 (k + 1)) gd_1 gr_0 gtx_0 gdr_0.2.1 gdr_0.2.2.1 H.size v28 hv29) (cwV 3 hts gX3_doDay_X4_chalk rfl rfl rfl (by decide +kernel) ⟨Nat.le_of_ble_eq_true rfl, Nat.le_of_ble_eq_true rfl⟩) (va_recv hK hP (ci := 2) (q0 := 4) rfl rfl) cl_blind (cl_pre hK hP hD [4, 5, 6, 7, 8, 1, 2] (by decide) rfl) hP hD hS hA [4, 5, 6, 7, 8, 1, 2] rfl rfl hl.1 rfl (lv_room (Nat.le_of_ble_eq_true rfl)) dX3_doDay_145 ⟨Nat.le_of_ble_eq_true rfl, Nat.le_of_ble_eq_true rfl⟩ ⟨rfl, rfl⟩ (fun _ => updM [4, 5, 6, 7, 8, 1, 2] [0, 3, 9, 10, 11, 12, 13] [(a0 0, .inr (1, [.ref (a0 1), .ref (z (200 + gdr_0.1)), .int (gdr_0.2.1), .int (gdr_0.2.2.1), .int (gdr_0.2.2.2.1), .int (gdr_0.2.2.2.2)])), (a1 0, .inr (7, [.int (gv_1.1), .int (gv_1.2.1), .ref (a1 1), .ref (a1 6), .ref (a1 10), .ref (a1 11), .ref (a1 12), .ref (a1 13), .ref (a1 14)])), (a1 10, .inl (cy 1, 5, .inl (gv_1.2.2.1))), (a1 11, .inl (cy 1, 5, .inl (gv_1.2.2.2.1))), (a1 12, .inl (cy 1, 5, .inl (gv_1.2.2.2.2.1))), (a1 13, .inl (cy 1, 5, .inl (gv_1.2.2.2.2.2.1))), (a1 14, .inl (cy 1, 5, .inl (gv_1.2.2.2.2.2.2)))] 14 rfl rfl rfl rfl rfl (by decide +kernel) (by decide +kernel) rfl) (fun r u H locs hw hP hD hS => ?_)
    obtain ⟨rfl, rfl⟩ := hw
    have hP : va_P (dC, dI) vwCl (w_X3_doDay cy z a0 a1 gdr_0 gr_0 gtx_0 gv_1 v28.2) H := hP
    have hD : va_D A (w_X3_doDay cy z a0 a1 gdr_0 gr_0 gtx_0 gv_1 v28.2) := hD
    obtain ⟨hz30, h⟩ := ok_if h
    exact W.zret (v := v28.1) (ty := .boolean) hx hb hr (isZ_nar hz30) (fun t ht hW => by rw [hqq]; have hh := Option.some.inj h; exact ⟨⟨v28.1, ((gv_1, v28.2)), rfl, ⟨fst_of hh, snd_of hh⟩, by rw [ht]; exact hP, va_K.moved hW.alike hK⟩, hS.F ht⟩) hS.2.2 dX3_doDay_148
  rw [if_neg c27] at h
  by_cases c31 : (nI ((nI gdr_0.1).toNatClampNeg + 1)) = (8 : Int32)
  · rw [if_pos c31] at h
    refine lv_tableIn (off := 138) (tgt := 149) hx hb dX3_doDay_11 (by rw [c31]; decide) (by rw [c31]; decide) (by rw [c31]; decide) (by decide) ?_
    refine lv_aload_n hx hb dX3_doDay_149 rfl (lv_at hl 1 rfl) ?_
    refine va_get (D := (dC, dI)) (ci := 7) (v := .ref (a1 1)) (C := RX9) (T := TX9) (N := 9) hx hb hts in_X9 hown hK hP 3 rfl rfl 2 (by decide) lk5 (fun _ h9 => h9) rfl dX3_doDay_150 ?_
    refine lv_aload_n hx hb dX3_doDay_153 rfl (lv_at hl 0 rfl) ?_
    refine va_get (D := (dC, dI)) (ci := 1) (v := .int gdr_0.2.1) (C := RX3) (T := TX3) (N := 6) hx hb hts in_X3 hown hK hP 0 rfl rfl 2 (by decide) lk2 (fun _ h9 => h9) rfl dX3_doDay_154 ?_
    refine lv_aload_n hx hb dX3_doDay_157 rfl (lv_at hl 0 rfl) ?_
    refine va_get (D := (dC, dI)) (ci := 1) (v := .int gdr_0.2.2.1) (C := RX3) (T := TX3) (N := 6) hx hb hts in_X3 hown hK hP 0 rfl rfl 3 (by decide) lk4 (fun _ h9 => h9) rfl dX3_doDay_158 ?_
    obtain ⟨v32, hv33, h⟩ := ok_bind h
    refine cl_vi (w2 := fun (u : (Int32 × Int32 × (Nat → Int32) × (Nat → Int32) × (Nat → Int32) × (Nat → Int32))) => w_X3_doDay cy z a0 a1 gdr_0 gr_0 gtx_0 gv_1 u) (As := [.int gdr_0.2.1, .int gdr_0.2.2.1]) (rest := []) ⟨hx, hb, hml, hown, hts⟩ (c_X4_swapLenders l dC dI cy (fun k => a1 (k + 1)) gd_1 gdr_0.2.1 gdr_0.2.2.1 H.size v32 hv33) (cwV 2 hts gX3_doDay_X4_swapLenders rfl rfl rfl (by decide +kernel) ⟨Nat.le_of_ble_eq_true rfl, Nat.le_of_ble_eq_true rfl⟩) (va_recv hK hP (ci := 2) (q0 := 4) rfl rfl) cl_blind (cl_pre hK hP hD [4, 5, 6, 7, 8] (by decide) rfl) hP hD hS hA [4, 5, 6, 7, 8] rfl rfl hl.1 rfl (lv_room (Nat.le_of_ble_eq_true rfl)) dX3_doDay_161 ⟨Nat.le_of_ble_eq_true rfl, Nat.le_of_ble_eq_true rfl⟩ ⟨rfl, rfl⟩ (fun _ => updM [4, 5, 6, 7, 8] [0, 1, 2, 3, 9, 10, 11, 12, 13] [(a0 0, .inr (1, [.ref (a0 1), .ref (z (200 + gdr_0.1)), .int (gdr_0.2.1), .int (gdr_0.2.2.1), .int (gdr_0.2.2.2.1), .int (gdr_0.2.2.2.2)])), (a0 1, .inr (5, [.ref (a0 2), .int (gr_0.1), .int (gr_0.2.1), .int (gr_0.2.2.1), .int (gr_0.2.2.2.1), .int (gr_0.2.2.2.2.1), .int (gr_0.2.2.2.2.2.1), .int (gr_0.2.2.2.2.2.2.1), .int (gr_0.2.2.2.2.2.2.2.1), .int (gr_0.2.2.2.2.2.2.2.2)])), (a0 2, .inl (cy 0, 600, .inl (gtx_0))), (a1 0, .inr (7, [.int (gv_1.1), .int (gv_1.2.1), .ref (a1 1), .ref (a1 6), .ref (a1 10), .ref (a1 11), .ref (a1 12), .ref (a1 13), .ref (a1 14)])), (a1 10, .inl (cy 1, 5, .inl (gv_1.2.2.1))), (a1 11, .inl (cy 1, 5, .inl (gv_1.2.2.2.1))), (a1 12, .inl (cy 1, 5, .inl (gv_1.2.2.2.2.1))), (a1 13, .inl (cy 1, 5, .inl (gv_1.2.2.2.2.2.1))), (a1 14, .inl (cy 1, 5, .inl (gv_1.2.2.2.2.2.2)))] 14 rfl rfl rfl rfl rfl (by decide +kernel) (by decide +kernel) rfl) (fun r u H locs hw hP hD hS => ?_)
    obtain ⟨rfl, rfl⟩ := hw
    have hP : va_P (dC, dI) vwCl (w_X3_doDay cy z a0 a1 gdr_0 gr_0 gtx_0 gv_1 v32.2) H := hP
    have hD : va_D A (w_X3_doDay cy z a0 a1 gdr_0 gr_0 gtx_0 gv_1 v32.2) := hD
    obtain ⟨hz34, h⟩ := ok_if h
    exact W.zret (v := v32.1) (ty := .boolean) hx hb hr (isZ_nar hz34) (fun t ht hW => by rw [hqq]; have hh := Option.some.inj h; exact ⟨⟨v32.1, ((gv_1, v32.2)), rfl, ⟨fst_of hh, snd_of hh⟩, by rw [ht]; exact hP, va_K.moved hW.alike hK⟩, hS.F ht⟩) hS.2.2 dX3_doDay_164
  rw [if_neg c31] at h
  refine lv_tableOut (tgt := 165) hx hb dX3_doDay_11 (tab_out (fun k h1 h2 e => by rcases (show k = 1 ∨ k = 2 ∨ k = 3 ∨ k = 4 ∨ k = 5 ∨ k = 6 ∨ k = 7 ∨ k = 8 by omega) with rfl | rfl | rfl | rfl | rfl | rfl | rfl | rfl <;> first | exact c3 (Int32.toInt_inj.mp (e.trans (by decide))) | exact c7 (Int32.toInt_inj.mp (e.trans (by decide))) | exact c11 (Int32.toInt_inj.mp (e.trans (by decide))) | exact c15 (Int32.toInt_inj.mp (e.trans (by decide))) | exact c19 (Int32.toInt_inj.mp (e.trans (by decide))) | exact c23 (Int32.toInt_inj.mp (e.trans (by decide))) | exact c27 (Int32.toInt_inj.mp (e.trans (by decide))) | exact c31 (Int32.toInt_inj.mp (e.trans (by decide))))) (by decide) ?_
  refine lv_iconst (v := (0 : Int32)) hx hb dX3_doDay_165 (by decide) ?_
  exact W.zret (v := (0 : Int32)) (ty := .boolean) hx hb hr rfl (fun t ht hW => by rw [hqq]; have hh := Option.some.inj h; exact ⟨⟨(0 : Int32), ((gv_1, gd_1)), rfl, ⟨fst_of hh, snd_of hh⟩, by rw [ht]; exact hP, va_K.moved hW.alike hK⟩, hS.F ht⟩) hS.2.2 dX3_doDay_166

abbrev w_X3_doAll (cy : Nat → ClassId) (z : Nat → Nat) (a0 : Nat → Nat) (a1 : Nat → Nat) (gdr_0 : Nat × Int32 × Int32 × Int32 × Int32) (gr_0 : Int32 × Int32 × Int32 × Int32 × Int32 × Int32 × Int32 × Int32 × Int32) (gtx_0 : (Nat → Int32)) (gv_1 : Int32 × Int32 × (Nat → Int32) × (Nat → Int32) × (Nat → Int32) × (Nat → Int32) × (Nat → Int32)) (gd_1 : Int32 × Int32 × (Nat → Int32) × (Nat → Int32) × (Nat → Int32) × (Nat → Int32)) : va_W := [(a0 0, .inr (1, [.ref (a0 1), .ref (z (200 + gdr_0.1)), .int (gdr_0.2.1), .int (gdr_0.2.2.1), .int (gdr_0.2.2.2.1), .int (gdr_0.2.2.2.2)])), (a0 1, .inr (5, [.ref (a0 2), .int (gr_0.1), .int (gr_0.2.1), .int (gr_0.2.2.1), .int (gr_0.2.2.2.1), .int (gr_0.2.2.2.2.1), .int (gr_0.2.2.2.2.2.1), .int (gr_0.2.2.2.2.2.2.1), .int (gr_0.2.2.2.2.2.2.2.1), .int (gr_0.2.2.2.2.2.2.2.2)])), (a0 2, .inl (cy 0, 600, .inl (gtx_0))), (a1 0, .inr (7, [.int (gv_1.1), .int (gv_1.2.1), .ref (a1 1), .ref (a1 6), .ref (a1 10), .ref (a1 11), .ref (a1 12), .ref (a1 13), .ref (a1 14)])), (a1 1, .inr (2, [.int (gd_1.1), .int (gd_1.2.1), .ref (a1 2), .ref (a1 3), .ref (a1 4), .ref (a1 5)])), (a1 2, .inl (cy 1, 10, .inl (gd_1.2.2.1))), (a1 3, .inl (cy 1, 10, .inl (gd_1.2.2.2.1))), (a1 4, .inl (cy 1, 10, .inl (gd_1.2.2.2.2.1))), (a1 5, .inl (cy 1, 50, .inl (gd_1.2.2.2.2.2))), (a1 10, .inl (cy 1, 5, .inl (gv_1.2.2.1))), (a1 11, .inl (cy 1, 5, .inl (gv_1.2.2.2.1))), (a1 12, .inl (cy 1, 5, .inl (gv_1.2.2.2.2.1))), (a1 13, .inl (cy 1, 5, .inl (gv_1.2.2.2.2.2.1))), (a1 14, .inl (cy 1, 5, .inl (gv_1.2.2.2.2.2.2)))]
abbrev rm_X3_doAll : Room := { frames := 7, cells := 0, slots := 0, locals := 149 }
set_option maxHeartbeats 1000000 in
set_option maxRecDepth 100000 in
theorem c_X3_doAll (l : Launch) (dC : Nat → ClassId) (dI : Nat → Nat → Nat) (cy : Nat → ClassId) (z : Nat → Nat) (a0 : Nat → Nat) (a1 : Nat → Nat) (gdr_0 : Nat × Int32 × Int32 × Int32 × Int32) (gr_0 : Int32 × Int32 × Int32 × Int32 × Int32 × Int32 × Int32 × Int32 × Int32) (gtx_0 : (Nat → Int32)) (gv_1 : Int32 × Int32 × (Nat → Int32) × (Nat → Int32) × (Nat → Int32) × (Nat → Int32) × (Nat → Int32)) (gd_1 : Int32 × Int32 × (Nat → Int32) × (Nat → Int32) × (Nat → Int32) × (Nat → Int32)) (x1 : Int32) (sz : Nat) (R0 : Int32 × (Nat × Int32 × Int32 × Int32 × Int32) × (Int32 × Int32 × Int32 × Int32 × Int32 × Int32 × Int32 × Int32 × Int32) × (Int32 × Int32 × (Nat → Int32) × (Nat → Int32) × (Nat → Int32) × (Nat → Int32) × (Nat → Int32)) × (Int32 × Int32 × (Nat → Int32) × (Nat → Int32) × (Nat → Int32) × (Nat → Int32))) (h : p_X3_doAll gdr_0 gr_0 gtx_0 gv_1 gd_1 x1 = some R0) : Met l yX3_doAll wsX3_doAll rm_X3_doAll (va_Pc [.ref (a0 0), .int x1, .ref (a1 0)] (prS dC dI cy z (w_X3_doAll cy z a0 a1 gdr_0 gr_0 gtx_0 gv_1 gd_1) sz)) (va_Qi (fun (r : Int32) (u : (Nat × Int32 × Int32 × Int32 × Int32) × (Int32 × Int32 × Int32 × Int32 × Int32 × Int32 × Int32 × Int32 × Int32) × (Int32 × Int32 × (Nat → Int32) × (Nat → Int32) × (Nat → Int32) × (Nat → Int32) × (Nat → Int32)) × (Int32 × Int32 × (Nat → Int32) × (Nat → Int32) × (Nat → Int32) × (Nat → Int32))) => r = R0.1 ∧ u = R0.2) (fun (u : (Nat × Int32 × Int32 × Int32 × Int32) × (Int32 × Int32 × Int32 × Int32 × Int32 × Int32 × Int32 × Int32 × Int32) × (Int32 × Int32 × (Nat → Int32) × (Nat → Int32) × (Nat → Int32) × (Nat → Int32) × (Nat → Int32)) × (Int32 × Int32 × (Nat → Int32) × (Nat → Int32) × (Nat → Int32) × (Nat → Int32))) t => poC dC dI cy (w_X3_doAll cy z a0 a1 u.1 u.2.1 gtx_0 u.2.2.1 u.2.2.2) t) (va_A (w_X3_doAll cy z a0 a1 gdr_0 gr_0 gtx_0 gv_1 gd_1) sz)) 0 0 (va_A (w_X3_doAll cy z a0 a1 gdr_0 gr_0 gtx_0 gv_1 gd_1) sz) := by
  refine Met.ofW (cc := cX3_doAll) (maxL := 4) (ret := (some .int)) (by decide) rfl ?_
  intro p e s m aa below meth c s₁ B hml hv
  obtain ⟨haa, ⟨hsz, hP, hK, hD0⟩, hX⟩ := hv
  have hx := B.exec
  have hb := B.bytes
  have hr := B.returns
  have hts := atoms_spec (ws := wsX3_doAll) B.pre
  have hown : s.vm.findClass RX3 = some m.cls := findClass_of_methodNamed B.named
  have hlocks := B.notSynchronized
  subst hsz
  have hD := hD0.self (sz := s.heap.size)
  obtain ⟨qq, hqq⟩ : ∃ qq, qq = (va_Qi (fun (r : Int32) (u : (Nat × Int32 × Int32 × Int32 × Int32) × (Int32 × Int32 × Int32 × Int32 × Int32 × Int32 × Int32 × Int32 × Int32) × (Int32 × Int32 × (Nat → Int32) × (Nat → Int32) × (Nat → Int32) × (Nat → Int32) × (Nat → Int32)) × (Int32 × Int32 × (Nat → Int32) × (Nat → Int32) × (Nat → Int32) × (Nat → Int32))) => r = R0.1 ∧ u = R0.2) (fun (u : (Nat × Int32 × Int32 × Int32 × Int32) × (Int32 × Int32 × Int32 × Int32 × Int32 × Int32 × Int32 × Int32 × Int32) × (Int32 × Int32 × (Nat → Int32) × (Nat → Int32) × (Nat → Int32) × (Nat → Int32) × (Nat → Int32)) × (Int32 × Int32 × (Nat → Int32) × (Nat → Int32) × (Nat → Int32) × (Nat → Int32))) t => poC dC dI cy (w_X3_doAll cy z a0 a1 u.1 u.2.1 gtx_0 u.2.2.1 u.2.2.2) t) (va_A (w_X3_doAll cy z a0 a1 gdr_0 gr_0 gtx_0 gv_1 gd_1) s.heap.size)) := ⟨_, rfl⟩
  rw [← hqq]
  generalize hAe : va_A (w_X3_doAll cy z a0 a1 gdr_0 gr_0 gtx_0 gv_1 gd_1) s.heap.size = A at hD hqq hX ⊢
  have hA : ∀ q : Nat, s.heap.size ≤ q → A q := fun q h => by rw [← hAe]; exact Or.inr h
  have hS : va_S A s.heap s.heap [] := va_S.rf
  have hl := lv_entry ([.ref (a0 0), .int x1, .ref (a1 0)]) (n := 4) (Nat.le_of_ble_eq_true rfl)
  have hE : entryFrame m aa 4 = F0 m 0 ((lg_sl ([.ref (a0 0), .int x1, .ref (a1 0)]) ++ List.replicate (4 - (lg_sl ([.ref (a0 0), .int x1, .ref (a1 0)])).length) Slot.unset).toArray) [] := by rw [haa]; exact lg_entry_eq m _ 4
  refine W.eq hE ?_
  generalize (lg_sl ([.ref (a0 0), .int x1, .ref (a1 0)]) ++ List.replicate (4 - (lg_sl ([.ref (a0 0), .int x1, .ref (a1 0)])).length) Slot.unset).toArray = ls at hl ⊢
  have hl : lv_has ls 4 [(0, .ref (a0 0)), (1, .int x1), (2, .ref (a1 0))] := hl
  change W p l e rm_X3_doAll s m aa below meth c s.heap [] 0 0 (MQ below qq aa s 0 0 A) (F0 m 0 ls [])
  have hS0 := hS
  have lk0 := hts (.fieldLink RX3 9 "GoatDoors$DayReader" "reader" "LGoatDoors$Reader;") (by decide +kernel)
  have lk1 := hts (.fieldLink RX3 42 "GoatDoors$Village" "owners" "I") (by decide +kernel)
  have lk2 := hts (.fieldLink RX3 38 "GoatDoors$DayReader" "stopped" "Z") (by decide +kernel)
  have in_X3 : ∀ w ∈ wsX30, w ∈ wsX3_doAll := by decide +kernel
  have in_X9 : ∀ w ∈ wsX90, w ∈ wsX3_doAll := by decide +kernel
  have c15 : ∀ (n : Nat), ∀ (gdr_0 : Nat × Int32 × Int32 × Int32 × Int32) (gr_0 : Int32 × Int32 × Int32 × Int32 × Int32 × Int32 × Int32 × Int32 × Int32) (gv_1 : Int32 × Int32 × (Nat → Int32) × (Nat → Int32) × (Nat → Int32) × (Nat → Int32) × (Nat → Int32)) (gd_1 : Int32 × Int32 × (Nat → Int32) × (Nat → Int32) × (Nat → Int32) × (Nat → Int32)) (x3 : Int32) (H : Heap) (locs : List Loc) (ls : Array Slot), p_X3_doAll_15 gtx_0 n gdr_0 gr_0 gv_1 gd_1 x3 = some R0 → va_P (dC, dI) vwCl (w_X3_doAll cy z a0 a1 gdr_0 gr_0 gtx_0 gv_1 gd_1) H → va_D A (w_X3_doAll cy z a0 a1 gdr_0 gr_0 gtx_0 gv_1 gd_1) → va_S A s.heap H locs → lv_has ls 4 [(0, .ref (a0 0)), (2, .ref (a1 0)), (3, .int x3)] → W p l e rm_X3_doAll s m aa below meth c H locs 0 0 (MQ below qq aa s 0 0 A) (F0 m 15 ls []) := by
    intro  n
    induction n with
    | zero => intro gdr_0 gr_0 gv_1 gd_1 x3 H locs ls h; exact no_some h
    | succ n ih =>
      intro gdr_0 gr_0 gv_1 gd_1 x3 H locs ls h hP hD hS hl
      rw [p_X3_doAll_15.eq_2] at h
      refine lv_iload_n hx hb dX3_doAll_15 rfl (lv_at hl 2 rfl) ?_
      refine lv_sipush (v := (600 : Int32)) hx hb dX3_doAll_16 (by decide) ?_
      refine lv_icmp_ge (tgt := 64) hx hb dX3_doAll_19 (by decide) (fun c1 => ?_) (fun c1 => ?_)
      · rw [if_pos c1] at h
        refine lv_iload_n hx hb dX3_doAll_64 rfl (lv_at hl 2 rfl) ?_
        exact W.iret (v := x3) hx hb hr (fun t ht hW => by rw [hqq]; have hh := Option.some.inj h; exact ⟨⟨x3, ((gdr_0, gr_0, gv_1, gd_1)), rfl, ⟨fst_of hh, snd_of hh⟩, by rw [ht]; exact hP, va_K.moved hW.alike hK⟩, hS.F ht⟩) hS.2.2 dX3_doAll_65
      · rw [if_neg c1] at h
        refine lv_aload_n hx hb dX3_doAll_22 rfl (lv_at hl 0 rfl) ?_
        refine va_get (D := (dC, dI)) (ci := 1) (v := .ref (a0 1)) (C := RX3) (T := TX3) (N := 6) hx hb hts in_X3 hown hK hP 0 rfl rfl 0 (by decide) lk0 (fun _ h9 => h9) rfl dX3_doAll_23 ?_
        obtain ⟨v2, hv3, h⟩ := ok_bind h
        refine cl_vi (w2 := fun (_ : Unit) => w_X3_doAll cy z a0 a1 gdr_0 gr_0 gtx_0 gv_1 gd_1) (As := []) (rest := []) ⟨hx, hb, hml, hown, hts⟩ (c_X7_hasMore l dC dI cy (fun k => a0 (k + 1)) gr_0 H.size v2 hv3) (cwV 0 hts gX3_doAll_X7_hasMore rfl rfl rfl (by decide +kernel) ⟨Nat.le_of_ble_eq_true rfl, Nat.le_of_ble_eq_true rfl⟩) (va_recv hK hP (ci := 5) (q0 := 1) rfl rfl) cl_blind (cl_pre hK hP hD [1] (by decide) rfl) hP hD hS hA [1] rfl rfl hl.1 rfl (lv_room (Nat.le_of_ble_eq_true rfl)) dX3_doAll_26 ⟨Nat.le_of_ble_eq_true rfl, Nat.le_of_ble_eq_true rfl⟩ ⟨rfl, rfl⟩ (fun _ => updR [1] rfl) (fun r u H locs hw hP hD hS => ?_)
        have hw := hw.symm
        subst hw
        have hP : va_P (dC, dI) vwCl (w_X3_doAll cy z a0 a1 gdr_0 gr_0 gtx_0 gv_1 gd_1) H := hP
        have hD : va_D A (w_X3_doAll cy z a0 a1 gdr_0 gr_0 gtx_0 gv_1 gd_1) := hD
        refine lv_if_eq (tgt := 64) hx hb dX3_doAll_29 (by decide) (fun c4 => ?_) (fun c4 => ?_)
        · rw [if_pos c4] at h
          refine lv_iload_n hx hb dX3_doAll_64 rfl (lv_at hl 2 rfl) ?_
          exact W.iret (v := x3) hx hb hr (fun t ht hW => by rw [hqq]; have hh := Option.some.inj h; exact ⟨⟨x3, ((gdr_0, gr_0, gv_1, gd_1)), rfl, ⟨fst_of hh, snd_of hh⟩, by rw [ht]; exact hP, va_K.moved hW.alike hK⟩, hS.F ht⟩) hS.2.2 dX3_doAll_65
        · rw [if_neg c4] at h
          refine lv_aload_n hx hb dX3_doAll_32 rfl (lv_at hl 0 rfl) ?_
          refine lv_aload_n hx hb dX3_doAll_33 rfl (lv_at hl 1 rfl) ?_
          refine va_get (D := (dC, dI)) (ci := 7) (v := .int gv_1.1) (C := RX9) (T := TX9) (N := 9) hx hb hts in_X9 hown hK hP 3 rfl rfl 0 (by decide) lk1 (fun _ h9 => h9) rfl dX3_doAll_34 ?_
          obtain ⟨v5, hv6, h⟩ := ok_bind h
          refine cl_vi (w2 := fun (u : (Nat × Int32 × Int32 × Int32 × Int32) × (Int32 × Int32 × Int32 × Int32 × Int32 × Int32 × Int32 × Int32 × Int32)) => w_X3_doAll cy z a0 a1 u.1 u.2 gtx_0 gv_1 gd_1) (As := [.int gv_1.1]) (rest := []) ⟨hx, hb, hml, hown, hts⟩ (c_X3_readDay l dC dI cy z a0 gdr_0 gr_0 gtx_0 gv_1.1 H.size v5 hv6) (cwV 1 hts gX3_doAll_X3_readDay rfl rfl rfl (by decide +kernel) ⟨Nat.le_of_ble_eq_true rfl, Nat.le_of_ble_eq_true rfl⟩) (va_recv hK hP (ci := 1) (q0 := 0) rfl rfl) cl_blindS (cl_preS hK hP hD hS hA hX [0, 1, 2] (by decide) rfl) hP hD hS hA [0, 1, 2] rfl rfl hl.1 rfl (lv_room (Nat.le_of_ble_eq_true rfl)) dX3_doAll_37 ⟨Nat.le_of_ble_eq_true rfl, Nat.le_of_ble_eq_true rfl⟩ ⟨rfl, rfl⟩ (fun _ => updM [0, 1, 2] [3, 4, 5, 6, 7, 8, 9, 10, 11, 12, 13] [(a1 0, .inr (7, [.int (gv_1.1), .int (gv_1.2.1), .ref (a1 1), .ref (a1 6), .ref (a1 10), .ref (a1 11), .ref (a1 12), .ref (a1 13), .ref (a1 14)])), (a1 1, .inr (2, [.int (gd_1.1), .int (gd_1.2.1), .ref (a1 2), .ref (a1 3), .ref (a1 4), .ref (a1 5)])), (a1 2, .inl (cy 1, 10, .inl (gd_1.2.2.1))), (a1 3, .inl (cy 1, 10, .inl (gd_1.2.2.2.1))), (a1 4, .inl (cy 1, 10, .inl (gd_1.2.2.2.2.1))), (a1 5, .inl (cy 1, 50, .inl (gd_1.2.2.2.2.2))), (a1 10, .inl (cy 1, 5, .inl (gv_1.2.2.1))), (a1 11, .inl (cy 1, 5, .inl (gv_1.2.2.2.1))), (a1 12, .inl (cy 1, 5, .inl (gv_1.2.2.2.2.1))), (a1 13, .inl (cy 1, 5, .inl (gv_1.2.2.2.2.2.1))), (a1 14, .inl (cy 1, 5, .inl (gv_1.2.2.2.2.2.2)))] 14 rfl rfl rfl rfl rfl (by decide +kernel) (by decide +kernel) rfl) (fun r u H locs hw hP hD hS => ?_)
          obtain ⟨rfl, rfl⟩ := hw
          have hP : va_P (dC, dI) vwCl (w_X3_doAll cy z a0 a1 v5.2.1 v5.2.2 gtx_0 gv_1 gd_1) H := hP
          have hD : va_D A (w_X3_doAll cy z a0 a1 v5.2.1 v5.2.2 gtx_0 gv_1 gd_1) := hD
          refine lv_if_eq (tgt := 64) hx hb dX3_doAll_40 (by decide) (fun c7 => ?_) (fun c7 => ?_)
          · rw [if_pos c7] at h
            refine lv_iload_n hx hb dX3_doAll_64 rfl (lv_at hl 2 rfl) ?_
            exact W.iret (v := x3) hx hb hr (fun t ht hW => by rw [hqq]; have hh := Option.some.inj h; exact ⟨⟨x3, ((v5.2.1, v5.2.2, gv_1, gd_1)), rfl, ⟨fst_of hh, snd_of hh⟩, by rw [ht]; exact hP, va_K.moved hW.alike hK⟩, hS.F ht⟩) hS.2.2 dX3_doAll_65
          · rw [if_neg c7] at h
            refine lv_aload_n hx hb dX3_doAll_43 rfl (lv_at hl 0 rfl) ?_
            refine lv_aload_n hx hb dX3_doAll_44 rfl (lv_at hl 1 rfl) ?_
            obtain ⟨v8, hv9, h⟩ := ok_bind h
            refine cl_vi (w2 := fun (u : (Int32 × Int32 × (Nat → Int32) × (Nat → Int32) × (Nat → Int32) × (Nat → Int32) × (Nat → Int32)) × (Int32 × Int32 × (Nat → Int32) × (Nat → Int32) × (Nat → Int32) × (Nat → Int32))) => w_X3_doAll cy z a0 a1 v5.2.1 v5.2.2 gtx_0 u.1 u.2) (As := [.ref (a1 0)]) (rest := []) ⟨hx, hb, hml, hown, hts⟩ (c_X3_doDay l dC dI cy z a0 a1 v5.2.1 v5.2.2 gtx_0 gv_1 gd_1 H.size v8 hv9) (cwV 1 hts gX3_doAll_X3_doDay rfl rfl rfl (by decide +kernel) ⟨Nat.le_of_ble_eq_true rfl, Nat.le_of_ble_eq_true rfl⟩) (va_recv hK hP (ci := 1) (q0 := 0) rfl rfl) cl_blindS (cl_preS hK hP hD hS hA hX [0, 1, 2, 3, 4, 5, 6, 7, 8, 9, 10, 11, 12, 13] (by decide) rfl) hP hD hS hA [0, 1, 2, 3, 4, 5, 6, 7, 8, 9, 10, 11, 12, 13] rfl rfl hl.1 rfl (lv_room (Nat.le_of_ble_eq_true rfl)) dX3_doAll_45 ⟨Nat.le_of_ble_eq_true rfl, Nat.le_of_ble_eq_true rfl⟩ ⟨rfl, rfl⟩ (fun _ => updM [0, 1, 2, 3, 4, 5, 6, 7, 8, 9, 10, 11, 12, 13] [] [] 14 rfl rfl rfl rfl rfl (by decide +kernel) (by decide +kernel) rfl) (fun r u H locs hw hP hD hS => ?_)
            obtain ⟨rfl, rfl⟩ := hw
            have hP : va_P (dC, dI) vwCl (w_X3_doAll cy z a0 a1 v5.2.1 v5.2.2 gtx_0 v8.2.1 v8.2.2) H := hP
            have hD : va_D A (w_X3_doAll cy z a0 a1 v5.2.1 v5.2.2 gtx_0 v8.2.1 v8.2.2) := hD
            refine lv_if_ne (tgt := 58) hx hb dX3_doAll_48 (by decide) (fun c10 => ?_) (fun c10 => ?_)
            · rw [if_neg c10] at h
              refine lv_iinc (v := (x3 + (1 : Int32))) (lv' := [(3, .int (x3 + (1 : Int32))), (0, .ref (a0 0)), (2, .ref (a1 0))]) hx hb dX3_doAll_58 hl (k := 2) rfl rfl (by decide) rfl (fun ls hl => ?_)
              refine lv_goto (tgt := 15) hx hb dX3_doAll_61 (by decide) ?_
              exact ih v5.2.1 v5.2.2 v8.2.1 v8.2.2 (x3 + (1 : Int32)) H locs ls h hP hD hS (lv_sub hl [1, 2, 0] rfl)
            · rw [if_pos c10] at h
              refine lv_aload_n hx hb dX3_doAll_51 rfl (lv_at hl 0 rfl) ?_
              refine lv_iconst (v := (1 : Int32)) hx hb dX3_doAll_52 (by decide) ?_
              refine va_put (D := (dC, dI)) (ci := 1) (v := .int (1 : Int32)) (ty := .boolean) (C := RX3) (T := TX3) (N := 6) hx hb hts in_X3 tyX3 tyX3_ok nmX3 hown hK hP hD hS 0 rfl rfl 5 (by decide) lk2 (fun _ h9 => h9) rfl (by decide +kernel) rfl rfl (Nat.le_of_ble_eq_true rfl) dX3_doAll_53 (fun H locs hP hD hS => ?_)
              have hP : va_P (dC, dI) vwCl (w_X3_doAll cy z a0 a1 ((v5.2.1.1, v5.2.1.2.1, v5.2.1.2.2.1, v5.2.1.2.2.2.1, (1 : Int32))) v5.2.2 gtx_0 v8.2.1 v8.2.2) H := hP
              have hD : va_D A (w_X3_doAll cy z a0 a1 ((v5.2.1.1, v5.2.1.2.1, v5.2.1.2.2.1, v5.2.1.2.2.2.1, (1 : Int32))) v5.2.2 gtx_0 v8.2.1 v8.2.2) := hD
              refine lv_iload_n hx hb dX3_doAll_56 rfl (lv_at hl 2 rfl) ?_
              exact W.iret (v := x3) hx hb hr (fun t ht hW => by rw [hqq]; have hh := Option.some.inj h; exact ⟨⟨x3, (((v5.2.1.1, v5.2.1.2.1, v5.2.1.2.2.1, v5.2.1.2.2.2.1, (1 : Int32)), v5.2.2, v8.2)), rfl, ⟨fst_of hh, snd_of hh⟩, by rw [ht]; exact hP, va_K.moved hW.alike hK⟩, hS.F ht⟩) hS.2.2 dX3_doAll_57
  obtain ⟨H, hH⟩ : ∃ H : Heap, H = s.heap := ⟨_, rfl⟩
  obtain ⟨locs, hlocs⟩ : ∃ locs : List Loc, locs = [] := ⟨_, rfl⟩
  have hS : va_S A s.heap H locs := by rw [hH, hlocs]; exact hS
  rw [← hH] at hP
  suffices hg : W p l e rm_X3_doAll s m aa below meth c H locs 0 0 (MQ below qq aa s 0 0 A) (F0 m 0 ls []) by subst hH; subst hlocs; exact hg
  unfold p_X3_doAll at h
  refine lv_aload_n hx hb dX3_doAll_0 rfl (lv_at hl 0 rfl) ?_
  refine lv_iconst (v := (0 : Int32)) hx hb dX3_doAll_1 (by decide) ?_
  refine va_put (D := (dC, dI)) (ci := 1) (v := .int (0 : Int32)) (ty := .boolean) (C := RX3) (T := TX3) (N := 6) hx hb hts in_X3 tyX3 tyX3_ok nmX3 hown hK hP hD hS 0 rfl rfl 5 (by decide) lk2 (fun _ h9 => h9) rfl (by decide +kernel) rfl rfl (Nat.le_of_ble_eq_true rfl) dX3_doAll_2 (fun H locs hP hD hS => ?_)
  have hP : va_P (dC, dI) vwCl (w_X3_doAll cy z a0 a1 ((gdr_0.1, gdr_0.2.1, gdr_0.2.2.1, gdr_0.2.2.2.1, (0 : Int32))) gr_0 gtx_0 gv_1 gd_1) H := hP
  have hD : va_D A (w_X3_doAll cy z a0 a1 ((gdr_0.1, gdr_0.2.1, gdr_0.2.2.1, gdr_0.2.2.2.1, (0 : Int32))) gr_0 gtx_0 gv_1 gd_1) := hD
  refine lv_aload_n hx hb dX3_doAll_5 rfl (lv_at hl 0 rfl) ?_
  refine va_get (D := (dC, dI)) (ci := 1) (v := .ref (a0 1)) (C := RX3) (T := TX3) (N := 6) hx hb hts in_X3 hown hK hP 0 rfl rfl 0 (by decide) lk0 (fun _ h9 => h9) rfl dX3_doAll_6 ?_
  refine lv_iload_n hx hb dX3_doAll_9 rfl (lv_at hl 1 rfl) ?_
  obtain ⟨v1, hv2, h⟩ := ok_bind h
  refine cl_vv (w2 := fun (u : (Int32 × Int32 × Int32 × Int32 × Int32 × Int32 × Int32 × Int32 × Int32)) => w_X3_doAll cy z a0 a1 ((gdr_0.1, gdr_0.2.1, gdr_0.2.2.1, gdr_0.2.2.2.1, (0 : Int32))) u gtx_0 gv_1 gd_1) (As := [.int x1]) (rest := []) ⟨hx, hb, hml, hown, hts⟩ (c_X7_open l dC dI cy (fun k => a0 (k + 1)) gr_0 gtx_0 x1 H.size v1 hv2) (cwV 1 hts gX3_doAll_X7_open rfl rfl rfl (by decide +kernel) ⟨Nat.le_of_ble_eq_true rfl, Nat.le_of_ble_eq_true rfl⟩) (va_recv hK hP (ci := 5) (q0 := 1) rfl rfl) cl_blind (cl_pre hK hP hD [1, 2] (by decide) rfl) hP hD hS hA [1, 2] rfl rfl hl.1 rfl (lv_room (Nat.le_of_ble_eq_true rfl)) dX3_doAll_10 ⟨Nat.le_of_ble_eq_true rfl, Nat.le_of_ble_eq_true rfl⟩ ⟨rfl, rfl⟩ (fun _ => updM [1, 2] [0, 3, 4, 5, 6, 7, 8, 9, 10, 11, 12, 13] [(a0 0, .inr (1, [.ref (a0 1), .ref (z (200 + gdr_0.1)), .int (gdr_0.2.1), .int (gdr_0.2.2.1), .int (gdr_0.2.2.2.1), .int ((0 : Int32))])), (a1 0, .inr (7, [.int (gv_1.1), .int (gv_1.2.1), .ref (a1 1), .ref (a1 6), .ref (a1 10), .ref (a1 11), .ref (a1 12), .ref (a1 13), .ref (a1 14)])), (a1 1, .inr (2, [.int (gd_1.1), .int (gd_1.2.1), .ref (a1 2), .ref (a1 3), .ref (a1 4), .ref (a1 5)])), (a1 2, .inl (cy 1, 10, .inl (gd_1.2.2.1))), (a1 3, .inl (cy 1, 10, .inl (gd_1.2.2.2.1))), (a1 4, .inl (cy 1, 10, .inl (gd_1.2.2.2.2.1))), (a1 5, .inl (cy 1, 50, .inl (gd_1.2.2.2.2.2))), (a1 10, .inl (cy 1, 5, .inl (gv_1.2.2.1))), (a1 11, .inl (cy 1, 5, .inl (gv_1.2.2.2.1))), (a1 12, .inl (cy 1, 5, .inl (gv_1.2.2.2.2.1))), (a1 13, .inl (cy 1, 5, .inl (gv_1.2.2.2.2.2.1))), (a1 14, .inl (cy 1, 5, .inl (gv_1.2.2.2.2.2.2)))] 14 rfl rfl rfl rfl rfl (by decide +kernel) (by decide +kernel) rfl) (fun u H locs hw hP hD hS => ?_)
  have hw := hw.symm
  subst hw
  have hP : va_P (dC, dI) vwCl (w_X3_doAll cy z a0 a1 ((gdr_0.1, gdr_0.2.1, gdr_0.2.2.1, gdr_0.2.2.2.1, (0 : Int32))) v1 gtx_0 gv_1 gd_1) H := hP
  have hD : va_D A (w_X3_doAll cy z a0 a1 ((gdr_0.1, gdr_0.2.1, gdr_0.2.2.1, gdr_0.2.2.2.1, (0 : Int32))) v1 gtx_0 gv_1 gd_1) := hD
  refine lv_iconst (v := (0 : Int32)) hx hb dX3_doAll_13 (by decide) ?_
  refine lv_istore_n (lv' := [(3, .int (0 : Int32)), (0, .ref (a0 0)), (1, .int x1), (2, .ref (a1 0))]) hx hb dX3_doAll_14 rfl hl (by decide) rfl (fun ls hl => ?_)
  exact c15 fu (gdr_0.1, gdr_0.2.1, gdr_0.2.2.1, gdr_0.2.2.2.1, (0 : Int32)) v1 gv_1 gd_1 (0 : Int32) H locs ls h hP hD hS (lv_sub hl [1, 3, 0] rfl)
