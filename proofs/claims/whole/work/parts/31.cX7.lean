abbrev w_X7_signAt (cy : Nat → ClassId) (a0 : Nat → Nat) (gr : Int32 × Int32 × Int32 × Int32 × Int32 × Int32 × Int32 × Int32 × Int32) (gtx : (Nat → Int32)) : va_W := [(a0 0, .inr (5, [.ref (a0 1), .int (gr.1), .int (gr.2.1), .int (gr.2.2.1), .int (gr.2.2.2.1), .int (gr.2.2.2.2.1), .int (gr.2.2.2.2.2.1), .int (gr.2.2.2.2.2.2.1), .int (gr.2.2.2.2.2.2.2.1), .int (gr.2.2.2.2.2.2.2.2)])), (a0 1, .inl (cy 0, 600, .inl (gtx)))]
abbrev rm_X7_signAt : Room := { frames := 0, cells := 0, slots := 0, locals := 0 }
set_option maxHeartbeats 1000000 in
set_option maxRecDepth 100000 in
theorem c_X7_signAt (l : Launch) (dC : Nat → ClassId) (dI : Nat → Nat → Nat) (cy : Nat → ClassId) (a0 : Nat → Nat) (gr : Int32 × Int32 × Int32 × Int32 × Int32 × Int32 × Int32 × Int32 × Int32) (gtx : (Nat → Int32)) (x1 : Int32) (sz : Nat) (R0 : Int32) (h : p_X7_signAt gr gtx x1 = some R0) : Met l yX7_signAt wsX7_signAt rm_X7_signAt (va_Pc [.ref (a0 0), .int x1] (prC dC dI cy (w_X7_signAt cy a0 gr gtx) sz)) (va_Qi (fun (r : Int32) (_ : Unit) => r = R0) (fun (_ : Unit) t => poC dC dI cy (w_X7_signAt cy a0 gr gtx) t) (va_A (w_X7_signAt cy a0 gr gtx) sz)) 0 0 (va_A (w_X7_signAt cy a0 gr gtx) sz) := by
  refine Met.ofW (cc := cX7_signAt) (maxL := 2) (ret := (some .int)) (by decide) rfl ?_
  intro p e s m aa below meth c s₁ B hml hv
  obtain ⟨haa, hsz, hP, hK, hD0⟩ := hv
  have hx := B.exec
  have hb := B.bytes
  have hr := B.returns
  have hts := atoms_spec (ws := wsX7_signAt) B.pre
  have hown : s.vm.findClass RX7 = some m.cls := findClass_of_methodNamed B.named
  have hlocks := B.notSynchronized
  subst hsz
  have hD := hD0.self (sz := s.heap.size)
  obtain ⟨qq, hqq⟩ : ∃ qq, qq = (va_Qi (fun (r : Int32) (_ : Unit) => r = R0) (fun (_ : Unit) t => poC dC dI cy (w_X7_signAt cy a0 gr gtx) t) (va_A (w_X7_signAt cy a0 gr gtx) s.heap.size)) := ⟨_, rfl⟩
  rw [← hqq]
  generalize hAe : va_A (w_X7_signAt cy a0 gr gtx) s.heap.size = A at hD hqq ⊢
  have hA : ∀ q : Nat, s.heap.size ≤ q → A q := fun q h => by rw [← hAe]; exact Or.inr h
  have hS : va_S A s.heap s.heap [] := va_S.rf
  have hl := lv_entry ([.ref (a0 0), .int x1]) (n := 2) (Nat.le_of_ble_eq_true rfl)
  have hE : entryFrame m aa 2 = F0 m 0 ((lg_sl ([.ref (a0 0), .int x1]) ++ List.replicate (2 - (lg_sl ([.ref (a0 0), .int x1])).length) Slot.unset).toArray) [] := by rw [haa]; exact lg_entry_eq m _ 2
  refine W.eq hE ?_
  generalize (lg_sl ([.ref (a0 0), .int x1]) ++ List.replicate (2 - (lg_sl ([.ref (a0 0), .int x1])).length) Slot.unset).toArray = ls at hl ⊢
  have hl : lv_has ls 2 [(0, .ref (a0 0)), (1, .int x1)] := hl
  change W p l e rm_X7_signAt s m aa below meth c s.heap [] 0 0 (MQ below qq aa s 0 0 A) (F0 m 0 ls [])
  have hS0 := hS
  have lk0 := hts (.fieldLink RX7 21 "GoatDoors$Reader" "length" "I") (by decide +kernel)
  have lk1 := hts (.fieldLink RX7 9 "GoatDoors$Reader" "text" "[B") (by decide +kernel)
  have in_X7 : ∀ w ∈ wsX70, w ∈ wsX7_signAt := by decide +kernel
  obtain ⟨H, hH⟩ : ∃ H : Heap, H = s.heap := ⟨_, rfl⟩
  obtain ⟨locs, hlocs⟩ : ∃ locs : List Loc, locs = [] := ⟨_, rfl⟩
  have hS : va_S A s.heap H locs := by rw [hH, hlocs]; exact hS
  rw [← hH] at hP
  suffices hg : W p l e rm_X7_signAt s m aa below meth c H locs 0 0 (MQ below qq aa s 0 0 A) (F0 m 0 ls []) by subst hH; subst hlocs; exact hg
  unfold p_X7_signAt at h
  refine lv_iload_n hx hb dX7_signAt_0 rfl (lv_at hl 1 rfl) ?_
  refine lv_if_lt (tgt := 30) hx hb dX7_signAt_1 (by decide) (fun c1 => ?_) (fun c1 => ?_)
  · rw [if_pos c1] at h
    refine lv_iconst (v := (-1 : Int32)) hx hb dX7_signAt_30 (by decide) ?_
    exact W.iret (v := (-1 : Int32)) hx hb hr (fun t ht hW => by rw [hqq]; have hh := Option.some.inj h; exact ⟨⟨(-1 : Int32), (()), rfl, Option.some.inj h, by rw [ht]; exact hP, va_K.moved hW.alike hK⟩, hS.F ht⟩) hS.2.2 dX7_signAt_31
  · rw [if_neg c1] at h
    refine lv_iload_n hx hb dX7_signAt_4 rfl (lv_at hl 1 rfl) ?_
    refine lv_aload_n hx hb dX7_signAt_5 rfl (lv_at hl 0 rfl) ?_
    refine va_get (D := (dC, dI)) (ci := 5) (v := .int gr.1) (C := RX7) (T := TX7) (N := 10) hx hb hts in_X7 hown hK hP 0 rfl rfl 1 (by decide) lk0 (fun _ h9 => h9) rfl dX7_signAt_6 ?_
    refine lv_icmp_ge (tgt := 30) hx hb dX7_signAt_9 (by decide) (fun c2 => ?_) (fun c2 => ?_)
    · rw [if_pos c2] at h
      refine lv_iconst (v := (-1 : Int32)) hx hb dX7_signAt_30 (by decide) ?_
      exact W.iret (v := (-1 : Int32)) hx hb hr (fun t ht hW => by rw [hqq]; have hh := Option.some.inj h; exact ⟨⟨(-1 : Int32), (()), rfl, Option.some.inj h, by rw [ht]; exact hP, va_K.moved hW.alike hK⟩, hS.F ht⟩) hS.2.2 dX7_signAt_31
    · rw [if_neg c2] at h
      refine lv_iload_n hx hb dX7_signAt_12 rfl (lv_at hl 1 rfl) ?_
      refine lv_aload_n hx hb dX7_signAt_13 rfl (lv_at hl 0 rfl) ?_
      refine va_get (D := (dC, dI)) (ci := 5) (v := .ref (a0 1)) (C := RX7) (T := TX7) (N := 10) hx hb hts in_X7 hown hK hP 0 rfl rfl 0 (by decide) lk1 (fun _ h9 => h9) rfl dX7_signAt_14 ?_
      refine va_alen (v := (600 : Int32)) hx hb hK hP 1 0 rfl rfl rfl dX7_signAt_17 ?_
      refine lv_icmp_ge (tgt := 30) hx hb dX7_signAt_18 (by decide) (fun c3 => ?_) (fun c3 => ?_)
      · rw [if_pos c3] at h
        refine lv_iconst (v := (-1 : Int32)) hx hb dX7_signAt_30 (by decide) ?_
        exact W.iret (v := (-1 : Int32)) hx hb hr (fun t ht hW => by rw [hqq]; have hh := Option.some.inj h; exact ⟨⟨(-1 : Int32), (()), rfl, Option.some.inj h, by rw [ht]; exact hP, va_K.moved hW.alike hK⟩, hS.F ht⟩) hS.2.2 dX7_signAt_31
      · rw [if_neg c3] at h
        refine lv_aload_n hx hb dX7_signAt_21 rfl (lv_at hl 0 rfl) ?_
        refine va_get (D := (dC, dI)) (ci := 5) (v := .ref (a0 1)) (C := RX7) (T := TX7) (N := 10) hx hb hts in_X7 hown hK hP 0 rfl rfl 0 (by decide) lk1 (fun _ h9 => h9) rfl dX7_signAt_22 ?_
        refine lv_iload_n hx hb dX7_signAt_25 rfl (lv_at hl 1 rfl) ?_
        obtain ⟨hi4, h⟩ := ok_if h
        refine va_bald hx hb hK hP 1 0 rfl rfl (ix_in hi4) dX7_signAt_26 ?_
        refine lv_goto (tgt := 31) hx hb dX7_signAt_27 (by decide) ?_
        exact W.iret (v := (gtx x1.toNatClampNeg)) hx hb hr (fun t ht hW => by rw [hqq]; have hh := Option.some.inj h; exact ⟨⟨(gtx x1.toNatClampNeg), (()), rfl, Option.some.inj h, by rw [ht]; exact hP, va_K.moved hW.alike hK⟩, hS.F ht⟩) hS.2.2 dX7_signAt_31

abbrev w_X7_kindOf (cy : Nat → ClassId)   : va_W := []
abbrev rm_X7_kindOf : Room := { frames := 0, cells := 0, slots := 0, locals := 0 }
set_option maxHeartbeats 1000000 in
set_option maxRecDepth 100000 in
theorem c_X7_kindOf (l : Launch) (dC : Nat → ClassId) (dI : Nat → Nat → Nat) (cy : Nat → ClassId)   (x0 : Int32) (x1 : Int32) (x2 : Int32) (x3 : Int32) (sz : Nat) (R0 : Int32) (h : p_X7_kindOf x0 x1 x2 x3 = some R0) : Met l yX7_kindOf wsX7_kindOf rm_X7_kindOf (va_Pc [.int x0, .int x1, .int x2, .int x3] (prC dC dI cy (w_X7_kindOf cy  ) sz)) (va_Qi (fun (r : Int32) (_ : Unit) => r = R0) (fun (_ : Unit) t => poC dC dI cy (w_X7_kindOf cy  ) t) (va_A (w_X7_kindOf cy  ) sz)) 0 0 (va_A (w_X7_kindOf cy  ) sz) := by
  refine Met.ofW (cc := cX7_kindOf) (maxL := 4) (ret := (some .int)) (by decide) rfl ?_
  intro p e s m aa below meth c s₁ B hml hv
  obtain ⟨haa, hsz, hP, hK, hD0⟩ := hv
  have hx := B.exec
  have hb := B.bytes
  have hr := B.returns
  have hts := atoms_spec (ws := wsX7_kindOf) B.pre
  have hown : s.vm.findClass RX7 = some m.cls := findClass_of_methodNamed B.named
  have hlocks := B.notSynchronized
  subst hsz
  have hD := hD0.self (sz := s.heap.size)
  obtain ⟨qq, hqq⟩ : ∃ qq, qq = (va_Qi (fun (r : Int32) (_ : Unit) => r = R0) (fun (_ : Unit) t => poC dC dI cy (w_X7_kindOf cy  ) t) (va_A (w_X7_kindOf cy  ) s.heap.size)) := ⟨_, rfl⟩
  rw [← hqq]
  generalize hAe : va_A (w_X7_kindOf cy  ) s.heap.size = A at hD hqq ⊢
  have hA : ∀ q : Nat, s.heap.size ≤ q → A q := fun q h => by rw [← hAe]; exact Or.inr h
  have hS : va_S A s.heap s.heap [] := va_S.rf
  have hl := lv_entry ([.int x0, .int x1, .int x2, .int x3]) (n := 4) (Nat.le_of_ble_eq_true rfl)
  have hE : entryFrame m aa 4 = F0 m 0 ((lg_sl ([.int x0, .int x1, .int x2, .int x3]) ++ List.replicate (4 - (lg_sl ([.int x0, .int x1, .int x2, .int x3])).length) Slot.unset).toArray) [] := by rw [haa]; exact lg_entry_eq m _ 4
  refine W.eq hE ?_
  generalize (lg_sl ([.int x0, .int x1, .int x2, .int x3]) ++ List.replicate (4 - (lg_sl ([.int x0, .int x1, .int x2, .int x3])).length) Slot.unset).toArray = ls at hl ⊢
  have hl : lv_has ls 4 [(0, .int x0), (1, .int x1), (2, .int x2), (3, .int x3)] := hl
  change W p l e rm_X7_kindOf s m aa below meth c s.heap [] 0 0 (MQ below qq aa s 0 0 A) (F0 m 0 ls [])
  have hS0 := hS
  have c26 : ∀ (_u : Unit), ∀ (x0 : Int32) (x1 : Int32) (x2 : Int32) (H : Heap) (locs : List Loc) (ls : Array Slot), p_X7_kindOf_26 x0 x1 x2 = some R0 → va_P (dC, dI) vwCl (w_X7_kindOf cy  ) H → va_D A (w_X7_kindOf cy  ) → va_S A s.heap H locs → lv_has ls 4 [(0, .int x0), (1, .int x1), (2, .int x2)] → W p l e rm_X7_kindOf s m aa below meth c H locs 0 0 (MQ below qq aa s 0 0 A) (F0 m 26 ls []) := by
    intro _ x0 x1 x2 H locs ls h hP hD hS hl
    unfold p_X7_kindOf_26 at h
    refine lv_iload_n hx hb dX7_kindOf_26 rfl (lv_at hl 1 rfl) ?_
    refine lv_if_eq (tgt := 32) hx hb dX7_kindOf_27 (by decide) (fun c1 => ?_) (fun c1 => ?_)
    · rw [if_pos c1] at h
      refine lv_iload_n hx hb dX7_kindOf_32 rfl (lv_at hl 2 rfl) ?_
      refine lv_if_eq (tgt := 38) hx hb dX7_kindOf_33 (by decide) (fun c2 => ?_) (fun c2 => ?_)
      · rw [if_pos c2] at h
        refine lv_iload_n hx hb dX7_kindOf_38 rfl (lv_at hl 0 rfl) ?_
        refine lv_bipush (v := (59 : Int32)) hx hb dX7_kindOf_39 (by decide) ?_
        refine lv_icmp_ne (tgt := 48) hx hb dX7_kindOf_41 (by decide) (fun c3 => ?_) (fun c3 => ?_)
        · rw [if_neg c3] at h
          refine lv_iconst (v := (0 : Int32)) hx hb dX7_kindOf_48 (by decide) ?_
          exact W.iret (v := (0 : Int32)) hx hb hr (fun t ht hW => by rw [hqq]; have hh := Option.some.inj h; exact ⟨⟨(0 : Int32), (()), rfl, Option.some.inj h, by rw [ht]; exact hP, va_K.moved hW.alike hK⟩, hS.F ht⟩) hS.2.2 dX7_kindOf_49
        · rw [if_pos c3] at h
          refine lv_iconst (v := (5 : Int32)) hx hb dX7_kindOf_44 (by decide) ?_
          refine lv_goto (tgt := 49) hx hb dX7_kindOf_45 (by decide) ?_
          exact W.iret (v := (5 : Int32)) hx hb hr (fun t ht hW => by rw [hqq]; have hh := Option.some.inj h; exact ⟨⟨(5 : Int32), (()), rfl, Option.some.inj h, by rw [ht]; exact hP, va_K.moved hW.alike hK⟩, hS.F ht⟩) hS.2.2 dX7_kindOf_49
      · rw [if_neg c2] at h
        refine lv_iconst (v := (3 : Int32)) hx hb dX7_kindOf_36 (by decide) ?_
        exact W.iret (v := (3 : Int32)) hx hb hr (fun t ht hW => by rw [hqq]; have hh := Option.some.inj h; exact ⟨⟨(3 : Int32), (()), rfl, Option.some.inj h, by rw [ht]; exact hP, va_K.moved hW.alike hK⟩, hS.F ht⟩) hS.2.2 dX7_kindOf_37
    · rw [if_neg c1] at h
      refine lv_iconst (v := (2 : Int32)) hx hb dX7_kindOf_30 (by decide) ?_
      exact W.iret (v := (2 : Int32)) hx hb hr (fun t ht hW => by rw [hqq]; have hh := Option.some.inj h; exact ⟨⟨(2 : Int32), (()), rfl, Option.some.inj h, by rw [ht]; exact hP, va_K.moved hW.alike hK⟩, hS.F ht⟩) hS.2.2 dX7_kindOf_31
  obtain ⟨H, hH⟩ : ∃ H : Heap, H = s.heap := ⟨_, rfl⟩
  obtain ⟨locs, hlocs⟩ : ∃ locs : List Loc, locs = [] := ⟨_, rfl⟩
  have hS : va_S A s.heap H locs := by rw [hH, hlocs]; exact hS
  rw [← hH] at hP
  suffices hg : W p l e rm_X7_kindOf s m aa below meth c H locs 0 0 (MQ below qq aa s 0 0 A) (F0 m 0 ls []) by subst hH; subst hlocs; exact hg
  unfold p_X7_kindOf at h
  refine lv_iload_n hx hb dX7_kindOf_0 rfl (lv_at hl 3 rfl) ?_
  refine lv_iconst (v := (1 : Int32)) hx hb dX7_kindOf_1 (by decide) ?_
  refine lv_icmp_ge (tgt := 7) hx hb dX7_kindOf_2 (by decide) (fun c1 => ?_) (fun c1 => ?_)
  · rw [if_pos c1] at h
    refine lv_iload_n hx hb dX7_kindOf_7 rfl (lv_at hl 1 rfl) ?_
    refine lv_if_eq (tgt := 26) hx hb dX7_kindOf_8 (by decide) (fun c2 => ?_) (fun c2 => ?_)
    · rw [if_pos c2] at h
      exact c26 () x0 x1 x2 H locs ls h hP hD hS (lv_sub hl [0, 1, 2] rfl)
    · rw [if_neg c2] at h
      refine lv_iload_n hx hb dX7_kindOf_11 rfl (lv_at hl 2 rfl) ?_
      refine lv_if_eq (tgt := 26) hx hb dX7_kindOf_12 (by decide) (fun c3 => ?_) (fun c3 => ?_)
      · rw [if_pos c3] at h
        exact c26 () x0 x1 x2 H locs ls h hP hD hS (lv_sub hl [0, 1, 2] rfl)
      · rw [if_neg c3] at h
        refine lv_iload_n hx hb dX7_kindOf_15 rfl (lv_at hl 3 rfl) ?_
        refine lv_iconst (v := (1 : Int32)) hx hb dX7_kindOf_16 (by decide) ?_
        refine lv_icmp_le (tgt := 24) hx hb dX7_kindOf_17 (by decide) (fun c4 => ?_) (fun c4 => ?_)
        · rw [if_pos c4] at h
          refine lv_iconst (v := (0 : Int32)) hx hb dX7_kindOf_24 (by decide) ?_
          exact W.iret (v := (0 : Int32)) hx hb hr (fun t ht hW => by rw [hqq]; have hh := Option.some.inj h; exact ⟨⟨(0 : Int32), (()), rfl, Option.some.inj h, by rw [ht]; exact hP, va_K.moved hW.alike hK⟩, hS.F ht⟩) hS.2.2 dX7_kindOf_25
        · rw [if_neg c4] at h
          refine lv_iconst (v := (4 : Int32)) hx hb dX7_kindOf_20 (by decide) ?_
          refine lv_goto (tgt := 25) hx hb dX7_kindOf_21 (by decide) ?_
          exact W.iret (v := (4 : Int32)) hx hb hr (fun t ht hW => by rw [hqq]; have hh := Option.some.inj h; exact ⟨⟨(4 : Int32), (()), rfl, Option.some.inj h, by rw [ht]; exact hP, va_K.moved hW.alike hK⟩, hS.F ht⟩) hS.2.2 dX7_kindOf_25
  · rw [if_neg c1] at h
    refine lv_iconst (v := (1 : Int32)) hx hb dX7_kindOf_5 (by decide) ?_
    exact W.iret (v := (1 : Int32)) hx hb hr (fun t ht hW => by rw [hqq]; have hh := Option.some.inj h; exact ⟨⟨(1 : Int32), (()), rfl, Option.some.inj h, by rw [ht]; exact hP, va_K.moved hW.alike hK⟩, hS.F ht⟩) hS.2.2 dX7_kindOf_6

abbrev w_X7_isDigit (cy : Nat → ClassId)   : va_W := []
abbrev rm_X7_isDigit : Room := { frames := 0, cells := 0, slots := 0, locals := 0 }
set_option maxHeartbeats 1000000 in
set_option maxRecDepth 100000 in
theorem c_X7_isDigit (l : Launch) (dC : Nat → ClassId) (dI : Nat → Nat → Nat) (cy : Nat → ClassId)   (x0 : Int32) (sz : Nat) (R0 : Int32) (h : p_X7_isDigit x0 = some R0) : Met l yX7_isDigit wsX7_isDigit rm_X7_isDigit (va_Pc [.int x0] (prC dC dI cy (w_X7_isDigit cy  ) sz)) (va_Qi (fun (r : Int32) (_ : Unit) => r = R0) (fun (_ : Unit) t => poC dC dI cy (w_X7_isDigit cy  ) t) (va_A (w_X7_isDigit cy  ) sz)) 0 0 (va_A (w_X7_isDigit cy  ) sz) := by
  refine Met.ofW (cc := cX7_isDigit) (maxL := 1) (ret := (some .boolean)) (by decide) rfl ?_
  intro p e s m aa below meth c s₁ B hml hv
  obtain ⟨haa, hsz, hP, hK, hD0⟩ := hv
  have hx := B.exec
  have hb := B.bytes
  have hr := B.returns
  have hts := atoms_spec (ws := wsX7_isDigit) B.pre
  have hown : s.vm.findClass RX7 = some m.cls := findClass_of_methodNamed B.named
  have hlocks := B.notSynchronized
  subst hsz
  have hD := hD0.self (sz := s.heap.size)
  obtain ⟨qq, hqq⟩ : ∃ qq, qq = (va_Qi (fun (r : Int32) (_ : Unit) => r = R0) (fun (_ : Unit) t => poC dC dI cy (w_X7_isDigit cy  ) t) (va_A (w_X7_isDigit cy  ) s.heap.size)) := ⟨_, rfl⟩
  rw [← hqq]
  generalize hAe : va_A (w_X7_isDigit cy  ) s.heap.size = A at hD hqq ⊢
  have hA : ∀ q : Nat, s.heap.size ≤ q → A q := fun q h => by rw [← hAe]; exact Or.inr h
  have hS : va_S A s.heap s.heap [] := va_S.rf
  have hl := lv_entry ([.int x0]) (n := 1) (Nat.le_of_ble_eq_true rfl)
  have hE : entryFrame m aa 1 = F0 m 0 ((lg_sl ([.int x0]) ++ List.replicate (1 - (lg_sl ([.int x0])).length) Slot.unset).toArray) [] := by rw [haa]; exact lg_entry_eq m _ 1
  refine W.eq hE ?_
  generalize (lg_sl ([.int x0]) ++ List.replicate (1 - (lg_sl ([.int x0])).length) Slot.unset).toArray = ls at hl ⊢
  have hl : lv_has ls 1 [(0, .int x0)] := hl
  change W p l e rm_X7_isDigit s m aa below meth c s.heap [] 0 0 (MQ below qq aa s 0 0 A) (F0 m 0 ls [])
  have hS0 := hS
  obtain ⟨H, hH⟩ : ∃ H : Heap, H = s.heap := ⟨_, rfl⟩
  obtain ⟨locs, hlocs⟩ : ∃ locs : List Loc, locs = [] := ⟨_, rfl⟩
  have hS : va_S A s.heap H locs := by rw [hH, hlocs]; exact hS
  rw [← hH] at hP
  suffices hg : W p l e rm_X7_isDigit s m aa below meth c H locs 0 0 (MQ below qq aa s 0 0 A) (F0 m 0 ls []) by subst hH; subst hlocs; exact hg
  unfold p_X7_isDigit at h
  refine lv_iload_n hx hb dX7_isDigit_0 rfl (lv_at hl 0 rfl) ?_
  refine lv_bipush (v := (48 : Int32)) hx hb dX7_isDigit_1 (by decide) ?_
  refine lv_icmp_lt (tgt := 16) hx hb dX7_isDigit_3 (by decide) (fun c1 => ?_) (fun c1 => ?_)
  · rw [if_pos c1] at h
    refine lv_iconst (v := (0 : Int32)) hx hb dX7_isDigit_16 (by decide) ?_
    exact W.zret (v := (0 : Int32)) (ty := .boolean) hx hb hr rfl (fun t ht hW => by rw [hqq]; have hh := Option.some.inj h; exact ⟨⟨(0 : Int32), (()), rfl, Option.some.inj h, by rw [ht]; exact hP, va_K.moved hW.alike hK⟩, hS.F ht⟩) hS.2.2 dX7_isDigit_17
  · rw [if_neg c1] at h
    refine lv_iload_n hx hb dX7_isDigit_6 rfl (lv_at hl 0 rfl) ?_
    refine lv_bipush (v := (57 : Int32)) hx hb dX7_isDigit_7 (by decide) ?_
    refine lv_icmp_gt (tgt := 16) hx hb dX7_isDigit_9 (by decide) (fun c2 => ?_) (fun c2 => ?_)
    · rw [if_pos c2] at h
      refine lv_iconst (v := (0 : Int32)) hx hb dX7_isDigit_16 (by decide) ?_
      exact W.zret (v := (0 : Int32)) (ty := .boolean) hx hb hr rfl (fun t ht hW => by rw [hqq]; have hh := Option.some.inj h; exact ⟨⟨(0 : Int32), (()), rfl, Option.some.inj h, by rw [ht]; exact hP, va_K.moved hW.alike hK⟩, hS.F ht⟩) hS.2.2 dX7_isDigit_17
    · rw [if_neg c2] at h
      refine lv_iconst (v := (1 : Int32)) hx hb dX7_isDigit_12 (by decide) ?_
      refine lv_goto (tgt := 17) hx hb dX7_isDigit_13 (by decide) ?_
      exact W.zret (v := (1 : Int32)) (ty := .boolean) hx hb hr rfl (fun t ht hW => by rw [hqq]; have hh := Option.some.inj h; exact ⟨⟨(1 : Int32), (()), rfl, Option.some.inj h, by rw [ht]; exact hP, va_K.moved hW.alike hK⟩, hS.F ht⟩) hS.2.2 dX7_isDigit_17

abbrev w_X7_isLetter (cy : Nat → ClassId)   : va_W := []
abbrev rm_X7_isLetter : Room := { frames := 0, cells := 0, slots := 0, locals := 0 }
set_option maxHeartbeats 1000000 in
set_option maxRecDepth 100000 in
theorem c_X7_isLetter (l : Launch) (dC : Nat → ClassId) (dI : Nat → Nat → Nat) (cy : Nat → ClassId)   (x0 : Int32) (sz : Nat) (R0 : Int32) (h : p_X7_isLetter x0 = some R0) : Met l yX7_isLetter wsX7_isLetter rm_X7_isLetter (va_Pc [.int x0] (prC dC dI cy (w_X7_isLetter cy  ) sz)) (va_Qi (fun (r : Int32) (_ : Unit) => r = R0) (fun (_ : Unit) t => poC dC dI cy (w_X7_isLetter cy  ) t) (va_A (w_X7_isLetter cy  ) sz)) 0 0 (va_A (w_X7_isLetter cy  ) sz) := by
  refine Met.ofW (cc := cX7_isLetter) (maxL := 1) (ret := (some .boolean)) (by decide) rfl ?_
  intro p e s m aa below meth c s₁ B hml hv
  obtain ⟨haa, hsz, hP, hK, hD0⟩ := hv
  have hx := B.exec
  have hb := B.bytes
  have hr := B.returns
  have hts := atoms_spec (ws := wsX7_isLetter) B.pre
  have hown : s.vm.findClass RX7 = some m.cls := findClass_of_methodNamed B.named
  have hlocks := B.notSynchronized
  subst hsz
  have hD := hD0.self (sz := s.heap.size)
  obtain ⟨qq, hqq⟩ : ∃ qq, qq = (va_Qi (fun (r : Int32) (_ : Unit) => r = R0) (fun (_ : Unit) t => poC dC dI cy (w_X7_isLetter cy  ) t) (va_A (w_X7_isLetter cy  ) s.heap.size)) := ⟨_, rfl⟩
  rw [← hqq]
  generalize hAe : va_A (w_X7_isLetter cy  ) s.heap.size = A at hD hqq ⊢
  have hA : ∀ q : Nat, s.heap.size ≤ q → A q := fun q h => by rw [← hAe]; exact Or.inr h
  have hS : va_S A s.heap s.heap [] := va_S.rf
  have hl := lv_entry ([.int x0]) (n := 1) (Nat.le_of_ble_eq_true rfl)
  have hE : entryFrame m aa 1 = F0 m 0 ((lg_sl ([.int x0]) ++ List.replicate (1 - (lg_sl ([.int x0])).length) Slot.unset).toArray) [] := by rw [haa]; exact lg_entry_eq m _ 1
  refine W.eq hE ?_
  generalize (lg_sl ([.int x0]) ++ List.replicate (1 - (lg_sl ([.int x0])).length) Slot.unset).toArray = ls at hl ⊢
  have hl : lv_has ls 1 [(0, .int x0)] := hl
  change W p l e rm_X7_isLetter s m aa below meth c s.heap [] 0 0 (MQ below qq aa s 0 0 A) (F0 m 0 ls [])
  have hS0 := hS
  obtain ⟨H, hH⟩ : ∃ H : Heap, H = s.heap := ⟨_, rfl⟩
  obtain ⟨locs, hlocs⟩ : ∃ locs : List Loc, locs = [] := ⟨_, rfl⟩
  have hS : va_S A s.heap H locs := by rw [hH, hlocs]; exact hS
  rw [← hH] at hP
  suffices hg : W p l e rm_X7_isLetter s m aa below meth c H locs 0 0 (MQ below qq aa s 0 0 A) (F0 m 0 ls []) by subst hH; subst hlocs; exact hg
  unfold p_X7_isLetter at h
  refine lv_iload_n hx hb dX7_isLetter_0 rfl (lv_at hl 0 rfl) ?_
  refine lv_bipush (v := (97 : Int32)) hx hb dX7_isLetter_1 (by decide) ?_
  refine lv_icmp_lt (tgt := 16) hx hb dX7_isLetter_3 (by decide) (fun c1 => ?_) (fun c1 => ?_)
  · rw [if_pos c1] at h
    refine lv_iconst (v := (0 : Int32)) hx hb dX7_isLetter_16 (by decide) ?_
    exact W.zret (v := (0 : Int32)) (ty := .boolean) hx hb hr rfl (fun t ht hW => by rw [hqq]; have hh := Option.some.inj h; exact ⟨⟨(0 : Int32), (()), rfl, Option.some.inj h, by rw [ht]; exact hP, va_K.moved hW.alike hK⟩, hS.F ht⟩) hS.2.2 dX7_isLetter_17
  · rw [if_neg c1] at h
    refine lv_iload_n hx hb dX7_isLetter_6 rfl (lv_at hl 0 rfl) ?_
    refine lv_bipush (v := (122 : Int32)) hx hb dX7_isLetter_7 (by decide) ?_
    refine lv_icmp_gt (tgt := 16) hx hb dX7_isLetter_9 (by decide) (fun c2 => ?_) (fun c2 => ?_)
    · rw [if_pos c2] at h
      refine lv_iconst (v := (0 : Int32)) hx hb dX7_isLetter_16 (by decide) ?_
      exact W.zret (v := (0 : Int32)) (ty := .boolean) hx hb hr rfl (fun t ht hW => by rw [hqq]; have hh := Option.some.inj h; exact ⟨⟨(0 : Int32), (()), rfl, Option.some.inj h, by rw [ht]; exact hP, va_K.moved hW.alike hK⟩, hS.F ht⟩) hS.2.2 dX7_isLetter_17
    · rw [if_neg c2] at h
      refine lv_iconst (v := (1 : Int32)) hx hb dX7_isLetter_12 (by decide) ?_
      refine lv_goto (tgt := 17) hx hb dX7_isLetter_13 (by decide) ?_
      exact W.zret (v := (1 : Int32)) (ty := .boolean) hx hb hr rfl (fun t ht hW => by rw [hqq]; have hh := Option.some.inj h; exact ⟨⟨(1 : Int32), (()), rfl, Option.some.inj h, by rw [ht]; exact hP, va_K.moved hW.alike hK⟩, hS.F ht⟩) hS.2.2 dX7_isLetter_17

abbrev w_X7_isBlank (cy : Nat → ClassId)   : va_W := []
abbrev rm_X7_isBlank : Room := { frames := 0, cells := 0, slots := 0, locals := 0 }
set_option maxHeartbeats 1000000 in
set_option maxRecDepth 100000 in
theorem c_X7_isBlank (l : Launch) (dC : Nat → ClassId) (dI : Nat → Nat → Nat) (cy : Nat → ClassId)   (x0 : Int32) (sz : Nat) (R0 : Int32) (h : p_X7_isBlank x0 = some R0) : Met l yX7_isBlank wsX7_isBlank rm_X7_isBlank (va_Pc [.int x0] (prC dC dI cy (w_X7_isBlank cy  ) sz)) (va_Qi (fun (r : Int32) (_ : Unit) => r = R0) (fun (_ : Unit) t => poC dC dI cy (w_X7_isBlank cy  ) t) (va_A (w_X7_isBlank cy  ) sz)) 0 0 (va_A (w_X7_isBlank cy  ) sz) := by
  refine Met.ofW (cc := cX7_isBlank) (maxL := 1) (ret := (some .boolean)) (by decide) rfl ?_
  intro p e s m aa below meth c s₁ B hml hv
  obtain ⟨haa, hsz, hP, hK, hD0⟩ := hv
  have hx := B.exec
  have hb := B.bytes
  have hr := B.returns
  have hts := atoms_spec (ws := wsX7_isBlank) B.pre
  have hown : s.vm.findClass RX7 = some m.cls := findClass_of_methodNamed B.named
  have hlocks := B.notSynchronized
  subst hsz
  have hD := hD0.self (sz := s.heap.size)
  obtain ⟨qq, hqq⟩ : ∃ qq, qq = (va_Qi (fun (r : Int32) (_ : Unit) => r = R0) (fun (_ : Unit) t => poC dC dI cy (w_X7_isBlank cy  ) t) (va_A (w_X7_isBlank cy  ) s.heap.size)) := ⟨_, rfl⟩
  rw [← hqq]
  generalize hAe : va_A (w_X7_isBlank cy  ) s.heap.size = A at hD hqq ⊢
  have hA : ∀ q : Nat, s.heap.size ≤ q → A q := fun q h => by rw [← hAe]; exact Or.inr h
  have hS : va_S A s.heap s.heap [] := va_S.rf
  have hl := lv_entry ([.int x0]) (n := 1) (Nat.le_of_ble_eq_true rfl)
  have hE : entryFrame m aa 1 = F0 m 0 ((lg_sl ([.int x0]) ++ List.replicate (1 - (lg_sl ([.int x0])).length) Slot.unset).toArray) [] := by rw [haa]; exact lg_entry_eq m _ 1
  refine W.eq hE ?_
  generalize (lg_sl ([.int x0]) ++ List.replicate (1 - (lg_sl ([.int x0])).length) Slot.unset).toArray = ls at hl ⊢
  have hl : lv_has ls 1 [(0, .int x0)] := hl
  change W p l e rm_X7_isBlank s m aa below meth c s.heap [] 0 0 (MQ below qq aa s 0 0 A) (F0 m 0 ls [])
  have hS0 := hS
  have c12 : ∀ (_u : Unit), ∀ (H : Heap) (locs : List Loc) (ls : Array Slot), p_X7_isBlank_12  = some R0 → va_P (dC, dI) vwCl (w_X7_isBlank cy  ) H → va_D A (w_X7_isBlank cy  ) → va_S A s.heap H locs → lv_has ls 1 [] → W p l e rm_X7_isBlank s m aa below meth c H locs 0 0 (MQ below qq aa s 0 0 A) (F0 m 12 ls []) := by
    intro _  H locs ls h hP hD hS hl
    unfold p_X7_isBlank_12 at h
    refine lv_iconst (v := (1 : Int32)) hx hb dX7_isBlank_12 (by decide) ?_
    refine lv_goto (tgt := 17) hx hb dX7_isBlank_13 (by decide) ?_
    exact W.zret (v := (1 : Int32)) (ty := .boolean) hx hb hr rfl (fun t ht hW => by rw [hqq]; have hh := Option.some.inj h; exact ⟨⟨(1 : Int32), (()), rfl, Option.some.inj h, by rw [ht]; exact hP, va_K.moved hW.alike hK⟩, hS.F ht⟩) hS.2.2 dX7_isBlank_17
  obtain ⟨H, hH⟩ : ∃ H : Heap, H = s.heap := ⟨_, rfl⟩
  obtain ⟨locs, hlocs⟩ : ∃ locs : List Loc, locs = [] := ⟨_, rfl⟩
  have hS : va_S A s.heap H locs := by rw [hH, hlocs]; exact hS
  rw [← hH] at hP
  suffices hg : W p l e rm_X7_isBlank s m aa below meth c H locs 0 0 (MQ below qq aa s 0 0 A) (F0 m 0 ls []) by subst hH; subst hlocs; exact hg
  unfold p_X7_isBlank at h
  refine lv_iload_n hx hb dX7_isBlank_0 rfl (lv_at hl 0 rfl) ?_
  refine lv_bipush (v := (32 : Int32)) hx hb dX7_isBlank_1 (by decide) ?_
  refine lv_icmp_eq (tgt := 12) hx hb dX7_isBlank_3 (by decide) (fun c1 => ?_) (fun c1 => ?_)
  · rw [if_pos c1] at h
    exact c12 ()  H locs ls h hP hD hS (lv_sub hl [] rfl)
  · rw [if_neg c1] at h
    refine lv_iload_n hx hb dX7_isBlank_6 rfl (lv_at hl 0 rfl) ?_
    refine lv_bipush (v := (10 : Int32)) hx hb dX7_isBlank_7 (by decide) ?_
    refine lv_icmp_ne (tgt := 16) hx hb dX7_isBlank_9 (by decide) (fun c2 => ?_) (fun c2 => ?_)
    · rw [if_neg c2] at h
      refine lv_iconst (v := (0 : Int32)) hx hb dX7_isBlank_16 (by decide) ?_
      exact W.zret (v := (0 : Int32)) (ty := .boolean) hx hb hr rfl (fun t ht hW => by rw [hqq]; have hh := Option.some.inj h; exact ⟨⟨(0 : Int32), (()), rfl, Option.some.inj h, by rw [ht]; exact hP, va_K.moved hW.alike hK⟩, hS.F ht⟩) hS.2.2 dX7_isBlank_17
    · rw [if_pos c2] at h
      exact c12 ()  H locs ls h hP hD hS (lv_sub hl [] rfl)

abbrev w_X7_step (cy : Nat → ClassId) (a0 : Nat → Nat) (gr : Int32 × Int32 × Int32 × Int32 × Int32 × Int32 × Int32 × Int32 × Int32) (gtx : (Nat → Int32)) : va_W := [(a0 0, .inr (5, [.ref (a0 1), .int (gr.1), .int (gr.2.1), .int (gr.2.2.1), .int (gr.2.2.2.1), .int (gr.2.2.2.2.1), .int (gr.2.2.2.2.2.1), .int (gr.2.2.2.2.2.2.1), .int (gr.2.2.2.2.2.2.2.1), .int (gr.2.2.2.2.2.2.2.2)])), (a0 1, .inl (cy 0, 600, .inl (gtx)))]
abbrev rm_X7_step : Room := { frames := 1, cells := 0, slots := 0, locals := 23 }
set_option maxHeartbeats 1000000 in
set_option maxRecDepth 100000 in
theorem c_X7_step (l : Launch) (dC : Nat → ClassId) (dI : Nat → Nat → Nat) (cy : Nat → ClassId) (a0 : Nat → Nat) (gr : Int32 × Int32 × Int32 × Int32 × Int32 × Int32 × Int32 × Int32 × Int32) (gtx : (Nat → Int32)) (sz : Nat) (R0 : (Int32 × Int32 × Int32 × Int32 × Int32 × Int32 × Int32 × Int32 × Int32)) (h : p_X7_step gr gtx = some R0) : Met l yX7_step wsX7_step rm_X7_step (va_Pc [.ref (a0 0)] (prC dC dI cy (w_X7_step cy a0 gr gtx) sz)) (va_Qv (fun (u : (Int32 × Int32 × Int32 × Int32 × Int32 × Int32 × Int32 × Int32 × Int32)) => u = R0) (fun (u : (Int32 × Int32 × Int32 × Int32 × Int32 × Int32 × Int32 × Int32 × Int32)) t => poC dC dI cy (w_X7_step cy a0 u gtx) t) (va_A (w_X7_step cy a0 gr gtx) sz)) 0 0 (va_A (w_X7_step cy a0 gr gtx) sz) := by
  refine Met.ofW (cc := cX7_step) (maxL := 4) (ret := none) (by decide) rfl ?_
  intro p e s m aa below meth c s₁ B hml hv
  obtain ⟨haa, hsz, hP, hK, hD0⟩ := hv
  have hx := B.exec
  have hb := B.bytes
  have hr := B.returns
  have hts := atoms_spec (ws := wsX7_step) B.pre
  have hown : s.vm.findClass RX7 = some m.cls := findClass_of_methodNamed B.named
  have hlocks := B.notSynchronized
  subst hsz
  have hD := hD0.self (sz := s.heap.size)
  obtain ⟨qq, hqq⟩ : ∃ qq, qq = (va_Qv (fun (u : (Int32 × Int32 × Int32 × Int32 × Int32 × Int32 × Int32 × Int32 × Int32)) => u = R0) (fun (u : (Int32 × Int32 × Int32 × Int32 × Int32 × Int32 × Int32 × Int32 × Int32)) t => poC dC dI cy (w_X7_step cy a0 u gtx) t) (va_A (w_X7_step cy a0 gr gtx) s.heap.size)) := ⟨_, rfl⟩
  rw [← hqq]
  generalize hAe : va_A (w_X7_step cy a0 gr gtx) s.heap.size = A at hD hqq ⊢
  have hA : ∀ q : Nat, s.heap.size ≤ q → A q := fun q h => by rw [← hAe]; exact Or.inr h
  have hS : va_S A s.heap s.heap [] := va_S.rf
  have hl := lv_entry ([.ref (a0 0)]) (n := 4) (Nat.le_of_ble_eq_true rfl)
  have hE : entryFrame m aa 4 = F0 m 0 ((lg_sl ([.ref (a0 0)]) ++ List.replicate (4 - (lg_sl ([.ref (a0 0)])).length) Slot.unset).toArray) [] := by rw [haa]; exact lg_entry_eq m _ 4
  refine W.eq hE ?_
  generalize (lg_sl ([.ref (a0 0)]) ++ List.replicate (4 - (lg_sl ([.ref (a0 0)])).length) Slot.unset).toArray = ls at hl ⊢
  have hl : lv_has ls 4 [(0, .ref (a0 0))] := hl
  change W p l e rm_X7_step s m aa below meth c s.heap [] 0 0 (MQ below qq aa s 0 0 A) (F0 m 0 ls [])
  have hS0 := hS
  have lk0 := hts (.fieldLink RX7 25 "GoatDoors$Reader" "behind" "I") (by decide +kernel)
  have lk1 := hts (.fieldLink RX7 40 "GoatDoors$Reader" "start" "I") (by decide +kernel)
  have lk2 := hts (.fieldLink RX7 37 "GoatDoors$Reader" "kind" "I") (by decide +kernel)
  have lk3 := hts (.fieldLink RX7 21 "GoatDoors$Reader" "length" "I") (by decide +kernel)
  have lk4 := hts (.methodLink RX7 15 Lib.Math.min.name) (by decide +kernel)
  have lk5 := hts (.static Lib.Math.min.name) (by decide +kernel)
  have lk6 := hts (.initialized "java/lang/Math") (by decide +kernel)
  have lk7 := hts (.code Lib.Math.min.name Lib.Math.min.code 2 (some .int)) (by decide +kernel)
  have in_X7 : ∀ w ∈ wsX70, w ∈ wsX7_step := by decide +kernel
  have c170 : ∀ (_u : Unit), ∀ (gr : Int32 × Int32 × Int32 × Int32 × Int32 × Int32 × Int32 × Int32 × Int32) (x1 : Int32) (x2 : Int32) (x3 : Int32) (H : Heap) (locs : List Loc) (ls : Array Slot), p_X7_step_170 gtx gr x1 x2 x3 = some R0 → va_P (dC, dI) vwCl (w_X7_step cy a0 gr gtx) H → va_D A (w_X7_step cy a0 gr gtx) → va_S A s.heap H locs → lv_has ls 4 [(0, .ref (a0 0)), (1, .int x1), (2, .int x2), (3, .int x3)] → W p l e rm_X7_step s m aa below meth c H locs 0 0 (MQ below qq aa s 0 0 A) (F0 m 170 ls []) := by
    intro _ gr x1 x2 x3 H locs ls h hP hD hS hl
    unfold p_X7_step_170 at h
    refine lv_aload_n hx hb dX7_step_170 rfl (lv_at hl 0 rfl) ?_
    refine lv_iload_n hx hb dX7_step_171 rfl (lv_at hl 1 rfl) ?_
    refine lv_iload_n hx hb dX7_step_172 rfl (lv_at hl 2 rfl) ?_
    refine lv_iload_n hx hb dX7_step_173 rfl (lv_at hl 3 rfl) ?_
    refine lv_aload_n hx hb dX7_step_174 rfl (lv_at hl 0 rfl) ?_
    refine va_get (D := (dC, dI)) (ci := 5) (v := .int gr.2.2.2.1) (C := RX7) (T := TX7) (N := 10) hx hb hts in_X7 hown hK hP 0 rfl rfl 4 (by decide) lk0 (fun _ h9 => h9) rfl dX7_step_175 ?_
    refine lv_aload_n hx hb dX7_step_178 rfl (lv_at hl 0 rfl) ?_
    refine va_get (D := (dC, dI)) (ci := 5) (v := .int gr.2.2.1) (C := RX7) (T := TX7) (N := 10) hx hb hts in_X7 hown hK hP 0 rfl rfl 3 (by decide) lk1 (fun _ h9 => h9) rfl dX7_step_179 ?_
    refine lv_isub hx hb dX7_step_182 ?_
    obtain ⟨v1, hv2, h⟩ := ok_bind h
    refine cl_si (w2 := fun (_ : Unit) => w_X7_step cy a0 gr gtx) (As := [.int x1, .int x2, .int x3, .int (gr.2.2.2.1 - gr.2.2.1)]) (rest := [.ref (a0 0)]) ⟨hx, hb, hml, hown, hts⟩ (c_X7_kindOf l dC dI cy  x1 x2 x3 (gr.2.2.2.1 - gr.2.2.1) H.size v1 hv2) (va_cwS 4 hts gX7_step_X7_kindOf rfl rfl rfl (by decide +kernel) ⟨Nat.le_of_ble_eq_true rfl, Nat.le_of_ble_eq_true rfl⟩) cl_blind (cl_pre hK hP hD [] (by decide) rfl) hP hD hS hA [] rfl rfl hl.1 rfl (lv_room (Nat.le_of_ble_eq_true rfl)) dX7_step_183 ⟨Nat.le_of_ble_eq_true rfl, Nat.le_of_ble_eq_true rfl⟩ ⟨rfl, rfl⟩ (fun _ => updR [] rfl) (fun r u H locs hw hP hD hS => ?_)
    have hw := hw.symm
    subst hw
    have hP : va_P (dC, dI) vwCl (w_X7_step cy a0 gr gtx) H := hP
    have hD : va_D A (w_X7_step cy a0 gr gtx) := hD
    refine va_put (D := (dC, dI)) (ci := 5) (v := .int v1) (ty := .int) (C := RX7) (T := TX7) (N := 10) hx hb hts in_X7 tyX7 tyX7_ok nmX7 hown hK hP hD hS 0 rfl rfl 2 (by decide) lk2 (fun _ h9 => h9) rfl (by decide +kernel) rfl rfl (Nat.le_of_ble_eq_true rfl) dX7_step_186 (fun H locs hP hD hS => ?_)
    have hP : va_P (dC, dI) vwCl (w_X7_step cy a0 ((gr.1, v1, gr.2.2)) gtx) H := hP
    have hD : va_D A (w_X7_step cy a0 ((gr.1, v1, gr.2.2)) gtx) := hD
    exact W.vret hx hb hr (fun t ht hW => by rw [hqq]; have hh := Option.some.inj h; exact ⟨⟨((gr.1, v1, gr.2.2)), rfl, Option.some.inj h, by rw [ht]; exact hP, va_K.moved hW.alike hK⟩, hS.F ht⟩) hS.2.2 dX7_step_189
  have c157 : ∀ (k110 : (Int32 × Int32 × Int32 × Int32 × Int32 × Int32 × Int32 × Int32 × Int32) → Int32 → Int32 → Int32 → Option ((Int32 × Int32 × Int32 × Int32 × Int32 × Int32 × Int32 × Int32 × Int32))) (hk110 : ∀ (gr : Int32 × Int32 × Int32 × Int32 × Int32 × Int32 × Int32 × Int32 × Int32) (x1 : Int32) (x2 : Int32) (x3 : Int32) (H : Heap) (locs : List Loc) (ls : Array Slot), k110 gr x1 x2 x3 = some R0 → va_P (dC, dI) vwCl (w_X7_step cy a0 gr gtx) H → va_D A (w_X7_step cy a0 gr gtx) → va_S A s.heap H locs → lv_has ls 4 [(0, .ref (a0 0)), (1, .int x1), (2, .int x2), (3, .int x3)] → W p l e rm_X7_step s m aa below meth c H locs 0 0 (MQ below qq aa s 0 0 A) (F0 m 110 ls [])), ∀ (gr : Int32 × Int32 × Int32 × Int32 × Int32 × Int32 × Int32 × Int32 × Int32) (x1 : Int32) (x2 : Int32) (x3 : Int32) (H : Heap) (locs : List Loc) (ls : Array Slot), p_X7_step_157 k110 gtx gr x1 x2 x3 = some R0 → va_P (dC, dI) vwCl (w_X7_step cy a0 gr gtx) H → va_D A (w_X7_step cy a0 gr gtx) → va_S A s.heap H locs → lv_has ls 4 [(0, .ref (a0 0)), (1, .int x1), (2, .int x2), (3, .int x3)] → W p l e rm_X7_step s m aa below meth c H locs 0 0 (MQ below qq aa s 0 0 A) (F0 m 157 ls []) := by
    intro k110 hk110 gr x1 x2 x3 H locs ls h hP hD hS hl
    unfold p_X7_step_157 at h
    refine lv_aload_n hx hb dX7_step_157 rfl (lv_at hl 0 rfl) ?_
    refine lv_dup hx hb dX7_step_158 rfl ?_
    refine va_get (D := (dC, dI)) (ci := 5) (v := .int gr.2.2.2.1) (C := RX7) (T := TX7) (N := 10) hx hb hts in_X7 hown hK hP 0 rfl rfl 4 (by decide) lk0 (fun _ h9 => h9) rfl dX7_step_159 ?_
    refine lv_iconst (v := (1 : Int32)) hx hb dX7_step_162 (by decide) ?_
    refine lv_iadd hx hb dX7_step_163 ?_
    refine va_put (D := (dC, dI)) (ci := 5) (v := .int (gr.2.2.2.1 + (1 : Int32))) (ty := .int) (C := RX7) (T := TX7) (N := 10) hx hb hts in_X7 tyX7 tyX7_ok nmX7 hown hK hP hD hS 0 rfl rfl 4 (by decide) lk0 (fun _ h9 => h9) rfl (by decide +kernel) rfl rfl (Nat.le_of_ble_eq_true rfl) dX7_step_164 (fun H locs hP hD hS => ?_)
    have hP : va_P (dC, dI) vwCl (w_X7_step cy a0 ((gr.1, gr.2.1, gr.2.2.1, (gr.2.2.2.1 + (1 : Int32)), gr.2.2.2.2)) gtx) H := hP
    have hD : va_D A (w_X7_step cy a0 ((gr.1, gr.2.1, gr.2.2.1, (gr.2.2.2.1 + (1 : Int32)), gr.2.2.2.2)) gtx) := hD
    refine lv_goto (tgt := 110) hx hb dX7_step_167 (by decide) ?_
    exact hk110 (gr.1, gr.2.1, gr.2.2.1, (gr.2.2.2.1 + (1 : Int32)), gr.2.2.2.2) x1 x2 x3 H locs ls h hP hD hS (lv_sub hl [0, 1, 2, 3] rfl)
  have c139 : ∀ (k110 : (Int32 × Int32 × Int32 × Int32 × Int32 × Int32 × Int32 × Int32 × Int32) → Int32 → Int32 → Int32 → Option ((Int32 × Int32 × Int32 × Int32 × Int32 × Int32 × Int32 × Int32 × Int32))) (hk110 : ∀ (gr : Int32 × Int32 × Int32 × Int32 × Int32 × Int32 × Int32 × Int32 × Int32) (x1 : Int32) (x2 : Int32) (x3 : Int32) (H : Heap) (locs : List Loc) (ls : Array Slot), k110 gr x1 x2 x3 = some R0 → va_P (dC, dI) vwCl (w_X7_step cy a0 gr gtx) H → va_D A (w_X7_step cy a0 gr gtx) → va_S A s.heap H locs → lv_has ls 4 [(0, .ref (a0 0)), (1, .int x1), (2, .int x2), (3, .int x3)] → W p l e rm_X7_step s m aa below meth c H locs 0 0 (MQ below qq aa s 0 0 A) (F0 m 110 ls [])), ∀ (gr : Int32 × Int32 × Int32 × Int32 × Int32 × Int32 × Int32 × Int32 × Int32) (x1 : Int32) (x2 : Int32) (x3 : Int32) (H : Heap) (locs : List Loc) (ls : Array Slot), p_X7_step_139 k110 gtx gr x1 x2 x3 = some R0 → va_P (dC, dI) vwCl (w_X7_step cy a0 gr gtx) H → va_D A (w_X7_step cy a0 gr gtx) → va_S A s.heap H locs → lv_has ls 4 [(0, .ref (a0 0)), (1, .int x1), (2, .int x2), (3, .int x3)] → W p l e rm_X7_step s m aa below meth c H locs 0 0 (MQ below qq aa s 0 0 A) (F0 m 139 ls []) := by
    intro k110 hk110 gr x1 x2 x3 H locs ls h hP hD hS hl
    unfold p_X7_step_139 at h
    refine lv_iload_n hx hb dX7_step_139 rfl (lv_at hl 3 rfl) ?_
    refine lv_if_eq (tgt := 170) hx hb dX7_step_140 (by decide) (fun c1 => ?_) (fun c1 => ?_)
    · rw [if_pos c1] at h
      exact c170 () gr x1 x2 x3 H locs ls h hP hD hS (lv_sub hl [0, 1, 2, 3] rfl)
    · rw [if_neg c1] at h
      refine lv_aload_n hx hb dX7_step_143 rfl (lv_at hl 0 rfl) ?_
      refine lv_aload_n hx hb dX7_step_144 rfl (lv_at hl 0 rfl) ?_
      refine va_get (D := (dC, dI)) (ci := 5) (v := .int gr.2.2.2.1) (C := RX7) (T := TX7) (N := 10) hx hb hts in_X7 hown hK hP 0 rfl rfl 4 (by decide) lk0 (fun _ h9 => h9) rfl dX7_step_145 ?_
      obtain ⟨v2, hv3, h⟩ := ok_bind h
      refine cl_vi (w2 := fun (_ : Unit) => w_X7_step cy a0 gr gtx) (As := [.int gr.2.2.2.1]) (rest := []) ⟨hx, hb, hml, hown, hts⟩ (c_X7_signAt l dC dI cy a0 gr gtx gr.2.2.2.1 H.size v2 hv3) (cwV 1 hts gX7_step_X7_signAt rfl rfl rfl (by decide +kernel) ⟨Nat.le_of_ble_eq_true rfl, Nat.le_of_ble_eq_true rfl⟩) (va_recv hK hP (ci := 5) (q0 := 0) rfl rfl) cl_blind (cl_pre hK hP hD [0, 1] (by decide) rfl) hP hD hS hA [0, 1] rfl rfl hl.1 rfl (lv_room (Nat.le_of_ble_eq_true rfl)) dX7_step_148 ⟨Nat.le_of_ble_eq_true rfl, Nat.le_of_ble_eq_true rfl⟩ ⟨rfl, rfl⟩ (fun _ => updR [0, 1] rfl) (fun r u H locs hw hP hD hS => ?_)
      have hw := hw.symm
      subst hw
      have hP : va_P (dC, dI) vwCl (w_X7_step cy a0 gr gtx) H := hP
      have hD : va_D A (w_X7_step cy a0 gr gtx) := hD
      obtain ⟨v4, hv5, h⟩ := ok_bind h
      refine cl_si (w2 := fun (_ : Unit) => w_X7_step cy a0 gr gtx) (As := [.int v2]) (rest := []) ⟨hx, hb, hml, hown, hts⟩ (c_X7_isDigit l dC dI cy  v2 H.size v4 hv5) (va_cwS 1 hts gX7_step_X7_isDigit rfl rfl rfl (by decide +kernel) ⟨Nat.le_of_ble_eq_true rfl, Nat.le_of_ble_eq_true rfl⟩) cl_blind (cl_pre hK hP hD [] (by decide) rfl) hP hD hS hA [] rfl rfl hl.1 rfl (lv_room (Nat.le_of_ble_eq_true rfl)) dX7_step_151 ⟨Nat.le_of_ble_eq_true rfl, Nat.le_of_ble_eq_true rfl⟩ ⟨rfl, rfl⟩ (fun _ => updR [] rfl) (fun r u H locs hw hP hD hS => ?_)
      have hw := hw.symm
      subst hw
      have hP : va_P (dC, dI) vwCl (w_X7_step cy a0 gr gtx) H := hP
      have hD : va_D A (w_X7_step cy a0 gr gtx) := hD
      refine lv_if_eq (tgt := 170) hx hb dX7_step_154 (by decide) (fun c6 => ?_) (fun c6 => ?_)
      · rw [if_pos c6] at h
        exact c170 () gr x1 x2 x3 H locs ls h hP hD hS (lv_sub hl [0, 1, 2, 3] rfl)
      · rw [if_neg c6] at h
        exact c157 k110 hk110 gr x1 x2 x3 H locs ls h hP hD hS (lv_sub hl [0, 1, 2, 3] rfl)
  have c110 : ∀ (n : Nat), ∀ (gr : Int32 × Int32 × Int32 × Int32 × Int32 × Int32 × Int32 × Int32 × Int32) (x1 : Int32) (x2 : Int32) (x3 : Int32) (H : Heap) (locs : List Loc) (ls : Array Slot), p_X7_step_110 gtx n gr x1 x2 x3 = some R0 → va_P (dC, dI) vwCl (w_X7_step cy a0 gr gtx) H → va_D A (w_X7_step cy a0 gr gtx) → va_S A s.heap H locs → lv_has ls 4 [(0, .ref (a0 0)), (1, .int x1), (2, .int x2), (3, .int x3)] → W p l e rm_X7_step s m aa below meth c H locs 0 0 (MQ below qq aa s 0 0 A) (F0 m 110 ls []) := by
    intro  n
    induction n with
    | zero => intro gr x1 x2 x3 H locs ls h; exact no_some h
    | succ n ih =>
      intro gr x1 x2 x3 H locs ls h hP hD hS hl
      rw [p_X7_step_110.eq_2] at h
      refine lv_aload_n hx hb dX7_step_110 rfl (lv_at hl 0 rfl) ?_
      refine va_get (D := (dC, dI)) (ci := 5) (v := .int gr.2.2.2.1) (C := RX7) (T := TX7) (N := 10) hx hb hts in_X7 hown hK hP 0 rfl rfl 4 (by decide) lk0 (fun _ h9 => h9) rfl dX7_step_111 ?_
      refine lv_aload_n hx hb dX7_step_114 rfl (lv_at hl 0 rfl) ?_
      refine va_get (D := (dC, dI)) (ci := 5) (v := .int gr.1) (C := RX7) (T := TX7) (N := 10) hx hb hts in_X7 hown hK hP 0 rfl rfl 1 (by decide) lk3 (fun _ h9 => h9) rfl dX7_step_115 ?_
      refine lv_icmp_ge (tgt := 170) hx hb dX7_step_118 (by decide) (fun c1 => ?_) (fun c1 => ?_)
      · rw [if_pos c1] at h
        exact c170 () gr x1 x2 x3 H locs ls h hP hD hS (lv_sub hl [0, 1, 2, 3] rfl)
      · rw [if_neg c1] at h
        refine lv_iload_n hx hb dX7_step_121 rfl (lv_at hl 2 rfl) ?_
        refine lv_if_eq (tgt := 139) hx hb dX7_step_122 (by decide) (fun c2 => ?_) (fun c2 => ?_)
        · rw [if_pos c2] at h
          exact c139 (p_X7_step_110 gtx n) ih gr x1 x2 x3 H locs ls h hP hD hS (lv_sub hl [0, 1, 2, 3] rfl)
        · rw [if_neg c2] at h
          refine lv_aload_n hx hb dX7_step_125 rfl (lv_at hl 0 rfl) ?_
          refine lv_aload_n hx hb dX7_step_126 rfl (lv_at hl 0 rfl) ?_
          refine va_get (D := (dC, dI)) (ci := 5) (v := .int gr.2.2.2.1) (C := RX7) (T := TX7) (N := 10) hx hb hts in_X7 hown hK hP 0 rfl rfl 4 (by decide) lk0 (fun _ h9 => h9) rfl dX7_step_127 ?_
          obtain ⟨v3, hv4, h⟩ := ok_bind h
          refine cl_vi (w2 := fun (_ : Unit) => w_X7_step cy a0 gr gtx) (As := [.int gr.2.2.2.1]) (rest := []) ⟨hx, hb, hml, hown, hts⟩ (c_X7_signAt l dC dI cy a0 gr gtx gr.2.2.2.1 H.size v3 hv4) (cwV 1 hts gX7_step_X7_signAt rfl rfl rfl (by decide +kernel) ⟨Nat.le_of_ble_eq_true rfl, Nat.le_of_ble_eq_true rfl⟩) (va_recv hK hP (ci := 5) (q0 := 0) rfl rfl) cl_blind (cl_pre hK hP hD [0, 1] (by decide) rfl) hP hD hS hA [0, 1] rfl rfl hl.1 rfl (lv_room (Nat.le_of_ble_eq_true rfl)) dX7_step_130 ⟨Nat.le_of_ble_eq_true rfl, Nat.le_of_ble_eq_true rfl⟩ ⟨rfl, rfl⟩ (fun _ => updR [0, 1] rfl) (fun r u H locs hw hP hD hS => ?_)
          have hw := hw.symm
          subst hw
          have hP : va_P (dC, dI) vwCl (w_X7_step cy a0 gr gtx) H := hP
          have hD : va_D A (w_X7_step cy a0 gr gtx) := hD
          obtain ⟨v5, hv6, h⟩ := ok_bind h
          refine cl_si (w2 := fun (_ : Unit) => w_X7_step cy a0 gr gtx) (As := [.int v3]) (rest := []) ⟨hx, hb, hml, hown, hts⟩ (c_X7_isLetter l dC dI cy  v3 H.size v5 hv6) (va_cwS 1 hts gX7_step_X7_isLetter rfl rfl rfl (by decide +kernel) ⟨Nat.le_of_ble_eq_true rfl, Nat.le_of_ble_eq_true rfl⟩) cl_blind (cl_pre hK hP hD [] (by decide) rfl) hP hD hS hA [] rfl rfl hl.1 rfl (lv_room (Nat.le_of_ble_eq_true rfl)) dX7_step_133 ⟨Nat.le_of_ble_eq_true rfl, Nat.le_of_ble_eq_true rfl⟩ ⟨rfl, rfl⟩ (fun _ => updR [] rfl) (fun r u H locs hw hP hD hS => ?_)
          have hw := hw.symm
          subst hw
          have hP : va_P (dC, dI) vwCl (w_X7_step cy a0 gr gtx) H := hP
          have hD : va_D A (w_X7_step cy a0 gr gtx) := hD
          refine lv_if_ne (tgt := 157) hx hb dX7_step_136 (by decide) (fun c7 => ?_) (fun c7 => ?_)
          · rw [if_neg c7] at h
            exact c157 (p_X7_step_110 gtx n) ih gr x1 x2 x3 H locs ls h hP hD hS (lv_sub hl [0, 1, 2, 3] rfl)
          · rw [if_pos c7] at h
            exact c139 (p_X7_step_110 gtx n) ih gr x1 x2 x3 H locs ls h hP hD hS (lv_sub hl [0, 1, 2, 3] rfl)
  have c92 : ∀ (_u : Unit), ∀ (gr : Int32 × Int32 × Int32 × Int32 × Int32 × Int32 × Int32 × Int32 × Int32) (x1 : Int32) (x2 : Int32) (t0 : Int32) (H : Heap) (locs : List Loc) (ls : Array Slot), p_X7_step_92 gtx gr x1 x2 t0 = some R0 → va_P (dC, dI) vwCl (w_X7_step cy a0 gr gtx) H → va_D A (w_X7_step cy a0 gr gtx) → va_S A s.heap H locs → lv_has ls 4 [(0, .ref (a0 0)), (1, .int x1), (2, .int x2)] → W p l e rm_X7_step s m aa below meth c H locs 0 0 (MQ below qq aa s 0 0 A) (F0 m 92 ls [.int t0]) := by
    intro _ gr x1 x2 t0 H locs ls h hP hD hS hl
    unfold p_X7_step_92 at h
    refine lv_istore_n (lv' := [(3, .int t0), (0, .ref (a0 0)), (1, .int x1), (2, .int x2)]) hx hb dX7_step_92 rfl hl (by decide) rfl (fun ls hl => ?_)
    refine lv_aload_n hx hb dX7_step_93 rfl (lv_at hl 1 rfl) ?_
    refine lv_aload_n hx hb dX7_step_94 rfl (lv_at hl 1 rfl) ?_
    refine va_get (D := (dC, dI)) (ci := 5) (v := .int gr.2.2.1) (C := RX7) (T := TX7) (N := 10) hx hb hts in_X7 hown hK hP 0 rfl rfl 3 (by decide) lk1 (fun _ h9 => h9) rfl dX7_step_95 ?_
    refine lv_iconst (v := (1 : Int32)) hx hb dX7_step_98 (by decide) ?_
    refine lv_iadd hx hb dX7_step_99 ?_
    refine lv_aload_n hx hb dX7_step_100 rfl (lv_at hl 1 rfl) ?_
    refine va_get (D := (dC, dI)) (ci := 5) (v := .int gr.1) (C := RX7) (T := TX7) (N := 10) hx hb hts in_X7 hown hK hP 0 rfl rfl 1 (by decide) lk3 (fun _ h9 => h9) rfl dX7_step_101 ?_
    refine va_mmin hx hb (by rw [hml]; exact hl.1.symm) hown lk4 lk5 lk6 lk7 (Nat.le_of_ble_eq_true rfl) (Nat.le_of_ble_eq_true rfl) (Nat.le_of_ble_eq_true rfl) (Nat.le_of_ble_eq_true rfl) dX7_step_104 ?_
    refine va_put (D := (dC, dI)) (ci := 5) (v := .int (if gr.1 < (gr.2.2.1 + (1 : Int32)) then gr.1 else (gr.2.2.1 + (1 : Int32)))) (ty := .int) (C := RX7) (T := TX7) (N := 10) hx hb hts in_X7 tyX7 tyX7_ok nmX7 hown hK hP hD hS 0 rfl rfl 4 (by decide) lk0 (fun _ h9 => h9) rfl (by decide +kernel) rfl rfl (Nat.le_of_ble_eq_true rfl) dX7_step_107 (fun H locs hP hD hS => ?_)
    have hP : va_P (dC, dI) vwCl (w_X7_step cy a0 ((gr.1, gr.2.1, gr.2.2.1, (if gr.1 < (gr.2.2.1 + (1 : Int32)) then gr.1 else (gr.2.2.1 + (1 : Int32))), gr.2.2.2.2)) gtx) H := hP
    have hD : va_D A (w_X7_step cy a0 ((gr.1, gr.2.1, gr.2.2.1, (if gr.1 < (gr.2.2.1 + (1 : Int32)) then gr.1 else (gr.2.2.1 + (1 : Int32))), gr.2.2.2.2)) gtx) := hD
    exact c110 fu (gr.1, gr.2.1, gr.2.2.1, (if gr.1 < (gr.2.2.1 + (1 : Int32)) then gr.1 else (gr.2.2.1 + (1 : Int32))), gr.2.2.2.2) x1 x2 t0 H locs ls h hP hD hS (lv_sub hl [1, 2, 3, 0] rfl)
  have c87 : ∀ (_u : Unit), ∀ (gr : Int32 × Int32 × Int32 × Int32 × Int32 × Int32 × Int32 × Int32 × Int32) (x1 : Int32) (x2 : Int32) (H : Heap) (locs : List Loc) (ls : Array Slot), p_X7_step_87 gtx gr x1 x2 = some R0 → va_P (dC, dI) vwCl (w_X7_step cy a0 gr gtx) H → va_D A (w_X7_step cy a0 gr gtx) → va_S A s.heap H locs → lv_has ls 4 [(0, .ref (a0 0)), (1, .int x1), (2, .int x2)] → W p l e rm_X7_step s m aa below meth c H locs 0 0 (MQ below qq aa s 0 0 A) (F0 m 87 ls []) := by
    intro _ gr x1 x2 H locs ls h hP hD hS hl
    unfold p_X7_step_87 at h
    refine lv_iconst (v := (1 : Int32)) hx hb dX7_step_87 (by decide) ?_
    refine lv_goto (tgt := 92) hx hb dX7_step_88 (by decide) ?_
    exact c92 () gr x1 x2 (1 : Int32) H locs ls h hP hD hS (lv_sub hl [0, 1, 2] rfl)
  have c73 : ∀ (_u : Unit), ∀ (gr : Int32 × Int32 × Int32 × Int32 × Int32 × Int32 × Int32 × Int32 × Int32) (x1 : Int32) (t0 : Int32) (H : Heap) (locs : List Loc) (ls : Array Slot), p_X7_step_73 gtx gr x1 t0 = some R0 → va_P (dC, dI) vwCl (w_X7_step cy a0 gr gtx) H → va_D A (w_X7_step cy a0 gr gtx) → va_S A s.heap H locs → lv_has ls 4 [(0, .ref (a0 0)), (1, .int x1)] → W p l e rm_X7_step s m aa below meth c H locs 0 0 (MQ below qq aa s 0 0 A) (F0 m 73 ls [.int t0]) := by
    intro _ gr x1 t0 H locs ls h hP hD hS hl
    unfold p_X7_step_73 at h
    refine lv_istore_n (lv' := [(2, .int t0), (0, .ref (a0 0)), (1, .int x1)]) hx hb dX7_step_73 rfl hl (by decide) rfl (fun ls hl => ?_)
    refine lv_iload_n hx hb dX7_step_74 rfl (lv_at hl 2 rfl) ?_
    refine lv_bipush (v := (35 : Int32)) hx hb dX7_step_75 (by decide) ?_
    refine lv_icmp_eq (tgt := 87) hx hb dX7_step_77 (by decide) (fun c1 => ?_) (fun c1 => ?_)
    · rw [if_pos c1] at h
      exact c87 () gr x1 t0 H locs ls h hP hD hS (lv_sub hl [1, 2, 0] rfl)
    · rw [if_neg c1] at h
      refine lv_iload_n hx hb dX7_step_80 rfl (lv_at hl 2 rfl) ?_
      obtain ⟨v2, hv3, h⟩ := ok_bind h
      refine cl_si (w2 := fun (_ : Unit) => w_X7_step cy a0 gr gtx) (As := [.int x1]) (rest := []) ⟨hx, hb, hml, hown, hts⟩ (c_X7_isDigit l dC dI cy  x1 H.size v2 hv3) (va_cwS 1 hts gX7_step_X7_isDigit rfl rfl rfl (by decide +kernel) ⟨Nat.le_of_ble_eq_true rfl, Nat.le_of_ble_eq_true rfl⟩) cl_blind (cl_pre hK hP hD [] (by decide) rfl) hP hD hS hA [] rfl rfl hl.1 rfl (lv_room (Nat.le_of_ble_eq_true rfl)) dX7_step_81 ⟨Nat.le_of_ble_eq_true rfl, Nat.le_of_ble_eq_true rfl⟩ ⟨rfl, rfl⟩ (fun _ => updR [] rfl) (fun r u H locs hw hP hD hS => ?_)
      have hw := hw.symm
      subst hw
      have hP : va_P (dC, dI) vwCl (w_X7_step cy a0 gr gtx) H := hP
      have hD : va_D A (w_X7_step cy a0 gr gtx) := hD
      refine lv_if_eq (tgt := 91) hx hb dX7_step_84 (by decide) (fun c4 => ?_) (fun c4 => ?_)
      · rw [if_pos c4] at h
        refine lv_iconst (v := (0 : Int32)) hx hb dX7_step_91 (by decide) ?_
        exact c92 () gr x1 t0 (0 : Int32) H locs ls h hP hD hS (lv_sub hl [1, 2, 0] rfl)
      · rw [if_neg c4] at h
        exact c87 () gr x1 t0 H locs ls h hP hD hS (lv_sub hl [1, 2, 0] rfl)
  have c68 : ∀ (_u : Unit), ∀ (gr : Int32 × Int32 × Int32 × Int32 × Int32 × Int32 × Int32 × Int32 × Int32) (x1 : Int32) (H : Heap) (locs : List Loc) (ls : Array Slot), p_X7_step_68 gtx gr x1 = some R0 → va_P (dC, dI) vwCl (w_X7_step cy a0 gr gtx) H → va_D A (w_X7_step cy a0 gr gtx) → va_S A s.heap H locs → lv_has ls 4 [(0, .ref (a0 0)), (1, .int x1)] → W p l e rm_X7_step s m aa below meth c H locs 0 0 (MQ below qq aa s 0 0 A) (F0 m 68 ls []) := by
    intro _ gr x1 H locs ls h hP hD hS hl
    unfold p_X7_step_68 at h
    refine lv_iconst (v := (1 : Int32)) hx hb dX7_step_68 (by decide) ?_
    refine lv_goto (tgt := 73) hx hb dX7_step_69 (by decide) ?_
    exact c73 () gr x1 (1 : Int32) H locs ls h hP hD hS (lv_sub hl [0, 1] rfl)
  have c46 : ∀ (_u : Unit), ∀ (gr : Int32 × Int32 × Int32 × Int32 × Int32 × Int32 × Int32 × Int32 × Int32) (H : Heap) (locs : List Loc) (ls : Array Slot), p_X7_step_46 gtx gr = some R0 → va_P (dC, dI) vwCl (w_X7_step cy a0 gr gtx) H → va_D A (w_X7_step cy a0 gr gtx) → va_S A s.heap H locs → lv_has ls 4 [(0, .ref (a0 0))] → W p l e rm_X7_step s m aa below meth c H locs 0 0 (MQ below qq aa s 0 0 A) (F0 m 46 ls []) := by
    intro _ gr H locs ls h hP hD hS hl
    unfold p_X7_step_46 at h
    refine lv_aload_n hx hb dX7_step_46 rfl (lv_at hl 0 rfl) ?_
    refine lv_aload_n hx hb dX7_step_47 rfl (lv_at hl 0 rfl) ?_
    refine va_get (D := (dC, dI)) (ci := 5) (v := .int gr.2.2.1) (C := RX7) (T := TX7) (N := 10) hx hb hts in_X7 hown hK hP 0 rfl rfl 3 (by decide) lk1 (fun _ h9 => h9) rfl dX7_step_48 ?_
    obtain ⟨v1, hv2, h⟩ := ok_bind h
    refine cl_vi (w2 := fun (_ : Unit) => w_X7_step cy a0 gr gtx) (As := [.int gr.2.2.1]) (rest := []) ⟨hx, hb, hml, hown, hts⟩ (c_X7_signAt l dC dI cy a0 gr gtx gr.2.2.1 H.size v1 hv2) (cwV 1 hts gX7_step_X7_signAt rfl rfl rfl (by decide +kernel) ⟨Nat.le_of_ble_eq_true rfl, Nat.le_of_ble_eq_true rfl⟩) (va_recv hK hP (ci := 5) (q0 := 0) rfl rfl) cl_blind (cl_pre hK hP hD [0, 1] (by decide) rfl) hP hD hS hA [0, 1] rfl rfl hl.1 rfl (lv_room (Nat.le_of_ble_eq_true rfl)) dX7_step_51 ⟨Nat.le_of_ble_eq_true rfl, Nat.le_of_ble_eq_true rfl⟩ ⟨rfl, rfl⟩ (fun _ => updR [0, 1] rfl) (fun r u H locs hw hP hD hS => ?_)
    have hw := hw.symm
    subst hw
    have hP : va_P (dC, dI) vwCl (w_X7_step cy a0 gr gtx) H := hP
    have hD : va_D A (w_X7_step cy a0 gr gtx) := hD
    refine lv_istore_n (lv' := [(1, .int v1), (0, .ref (a0 0))]) hx hb dX7_step_54 rfl hl (by decide) rfl (fun ls hl => ?_)
    refine lv_iload_n hx hb dX7_step_55 rfl (lv_at hl 0 rfl) ?_
    refine lv_bipush (v := (35 : Int32)) hx hb dX7_step_56 (by decide) ?_
    refine lv_icmp_eq (tgt := 68) hx hb dX7_step_58 (by decide) (fun c3 => ?_) (fun c3 => ?_)
    · rw [if_pos c3] at h
      exact c68 () gr v1 H locs ls h hP hD hS (lv_sub hl [1, 0] rfl)
    · rw [if_neg c3] at h
      refine lv_iload_n hx hb dX7_step_61 rfl (lv_at hl 0 rfl) ?_
      obtain ⟨v4, hv5, h⟩ := ok_bind h
      refine cl_si (w2 := fun (_ : Unit) => w_X7_step cy a0 gr gtx) (As := [.int v1]) (rest := []) ⟨hx, hb, hml, hown, hts⟩ (c_X7_isLetter l dC dI cy  v1 H.size v4 hv5) (va_cwS 1 hts gX7_step_X7_isLetter rfl rfl rfl (by decide +kernel) ⟨Nat.le_of_ble_eq_true rfl, Nat.le_of_ble_eq_true rfl⟩) cl_blind (cl_pre hK hP hD [] (by decide) rfl) hP hD hS hA [] rfl rfl hl.1 rfl (lv_room (Nat.le_of_ble_eq_true rfl)) dX7_step_62 ⟨Nat.le_of_ble_eq_true rfl, Nat.le_of_ble_eq_true rfl⟩ ⟨rfl, rfl⟩ (fun _ => updR [] rfl) (fun r u H locs hw hP hD hS => ?_)
      have hw := hw.symm
      subst hw
      have hP : va_P (dC, dI) vwCl (w_X7_step cy a0 gr gtx) H := hP
      have hD : va_D A (w_X7_step cy a0 gr gtx) := hD
      refine lv_if_eq (tgt := 72) hx hb dX7_step_65 (by decide) (fun c6 => ?_) (fun c6 => ?_)
      · rw [if_pos c6] at h
        refine lv_iconst (v := (0 : Int32)) hx hb dX7_step_72 (by decide) ?_
        exact c73 () gr v1 (0 : Int32) H locs ls h hP hD hS (lv_sub hl [1, 0] rfl)
      · rw [if_neg c6] at h
        exact c68 () gr v1 H locs ls h hP hD hS (lv_sub hl [1, 0] rfl)
  have c8 : ∀ (n : Nat), ∀ (gr : Int32 × Int32 × Int32 × Int32 × Int32 × Int32 × Int32 × Int32 × Int32) (H : Heap) (locs : List Loc) (ls : Array Slot), p_X7_step_8 gtx n gr = some R0 → va_P (dC, dI) vwCl (w_X7_step cy a0 gr gtx) H → va_D A (w_X7_step cy a0 gr gtx) → va_S A s.heap H locs → lv_has ls 4 [(0, .ref (a0 0))] → W p l e rm_X7_step s m aa below meth c H locs 0 0 (MQ below qq aa s 0 0 A) (F0 m 8 ls []) := by
    intro  n
    induction n with
    | zero => intro gr H locs ls h; exact no_some h
    | succ n ih =>
      intro gr H locs ls h hP hD hS hl
      rw [p_X7_step_8.eq_2] at h
      refine lv_aload_n hx hb dX7_step_8 rfl (lv_at hl 0 rfl) ?_
      refine va_get (D := (dC, dI)) (ci := 5) (v := .int gr.2.2.1) (C := RX7) (T := TX7) (N := 10) hx hb hts in_X7 hown hK hP 0 rfl rfl 3 (by decide) lk1 (fun _ h9 => h9) rfl dX7_step_9 ?_
      refine lv_aload_n hx hb dX7_step_12 rfl (lv_at hl 0 rfl) ?_
      refine va_get (D := (dC, dI)) (ci := 5) (v := .int gr.1) (C := RX7) (T := TX7) (N := 10) hx hb hts in_X7 hown hK hP 0 rfl rfl 1 (by decide) lk3 (fun _ h9 => h9) rfl dX7_step_13 ?_
      refine lv_icmp_ge (tgt := 46) hx hb dX7_step_16 (by decide) (fun c1 => ?_) (fun c1 => ?_)
      · rw [if_pos c1] at h
        exact c46 () gr H locs ls h hP hD hS (lv_sub hl [0] rfl)
      · rw [if_neg c1] at h
        refine lv_aload_n hx hb dX7_step_19 rfl (lv_at hl 0 rfl) ?_
        refine lv_aload_n hx hb dX7_step_20 rfl (lv_at hl 0 rfl) ?_
        refine va_get (D := (dC, dI)) (ci := 5) (v := .int gr.2.2.1) (C := RX7) (T := TX7) (N := 10) hx hb hts in_X7 hown hK hP 0 rfl rfl 3 (by decide) lk1 (fun _ h9 => h9) rfl dX7_step_21 ?_
        obtain ⟨v2, hv3, h⟩ := ok_bind h
        refine cl_vi (w2 := fun (_ : Unit) => w_X7_step cy a0 gr gtx) (As := [.int gr.2.2.1]) (rest := []) ⟨hx, hb, hml, hown, hts⟩ (c_X7_signAt l dC dI cy a0 gr gtx gr.2.2.1 H.size v2 hv3) (cwV 1 hts gX7_step_X7_signAt rfl rfl rfl (by decide +kernel) ⟨Nat.le_of_ble_eq_true rfl, Nat.le_of_ble_eq_true rfl⟩) (va_recv hK hP (ci := 5) (q0 := 0) rfl rfl) cl_blind (cl_pre hK hP hD [0, 1] (by decide) rfl) hP hD hS hA [0, 1] rfl rfl hl.1 rfl (lv_room (Nat.le_of_ble_eq_true rfl)) dX7_step_24 ⟨Nat.le_of_ble_eq_true rfl, Nat.le_of_ble_eq_true rfl⟩ ⟨rfl, rfl⟩ (fun _ => updR [0, 1] rfl) (fun r u H locs hw hP hD hS => ?_)
        have hw := hw.symm
        subst hw
        have hP : va_P (dC, dI) vwCl (w_X7_step cy a0 gr gtx) H := hP
        have hD : va_D A (w_X7_step cy a0 gr gtx) := hD
        obtain ⟨v4, hv5, h⟩ := ok_bind h
        refine cl_si (w2 := fun (_ : Unit) => w_X7_step cy a0 gr gtx) (As := [.int v2]) (rest := []) ⟨hx, hb, hml, hown, hts⟩ (c_X7_isBlank l dC dI cy  v2 H.size v4 hv5) (va_cwS 1 hts gX7_step_X7_isBlank rfl rfl rfl (by decide +kernel) ⟨Nat.le_of_ble_eq_true rfl, Nat.le_of_ble_eq_true rfl⟩) cl_blind (cl_pre hK hP hD [] (by decide) rfl) hP hD hS hA [] rfl rfl hl.1 rfl (lv_room (Nat.le_of_ble_eq_true rfl)) dX7_step_27 ⟨Nat.le_of_ble_eq_true rfl, Nat.le_of_ble_eq_true rfl⟩ ⟨rfl, rfl⟩ (fun _ => updR [] rfl) (fun r u H locs hw hP hD hS => ?_)
        have hw := hw.symm
        subst hw
        have hP : va_P (dC, dI) vwCl (w_X7_step cy a0 gr gtx) H := hP
        have hD : va_D A (w_X7_step cy a0 gr gtx) := hD
        refine lv_if_eq (tgt := 46) hx hb dX7_step_30 (by decide) (fun c6 => ?_) (fun c6 => ?_)
        · rw [if_pos c6] at h
          exact c46 () gr H locs ls h hP hD hS (lv_sub hl [0] rfl)
        · rw [if_neg c6] at h
          refine lv_aload_n hx hb dX7_step_33 rfl (lv_at hl 0 rfl) ?_
          refine lv_dup hx hb dX7_step_34 rfl ?_
          refine va_get (D := (dC, dI)) (ci := 5) (v := .int gr.2.2.1) (C := RX7) (T := TX7) (N := 10) hx hb hts in_X7 hown hK hP 0 rfl rfl 3 (by decide) lk1 (fun _ h9 => h9) rfl dX7_step_35 ?_
          refine lv_iconst (v := (1 : Int32)) hx hb dX7_step_38 (by decide) ?_
          refine lv_iadd hx hb dX7_step_39 ?_
          refine va_put (D := (dC, dI)) (ci := 5) (v := .int (gr.2.2.1 + (1 : Int32))) (ty := .int) (C := RX7) (T := TX7) (N := 10) hx hb hts in_X7 tyX7 tyX7_ok nmX7 hown hK hP hD hS 0 rfl rfl 3 (by decide) lk1 (fun _ h9 => h9) rfl (by decide +kernel) rfl rfl (Nat.le_of_ble_eq_true rfl) dX7_step_40 (fun H locs hP hD hS => ?_)
          have hP : va_P (dC, dI) vwCl (w_X7_step cy a0 ((gr.1, gr.2.1, (gr.2.2.1 + (1 : Int32)), gr.2.2.2)) gtx) H := hP
          have hD : va_D A (w_X7_step cy a0 ((gr.1, gr.2.1, (gr.2.2.1 + (1 : Int32)), gr.2.2.2)) gtx) := hD
          refine lv_goto (tgt := 8) hx hb dX7_step_43 (by decide) ?_
          exact ih (gr.1, gr.2.1, (gr.2.2.1 + (1 : Int32)), gr.2.2.2) H locs ls h hP hD hS (lv_sub hl [0] rfl)
  obtain ⟨H, hH⟩ : ∃ H : Heap, H = s.heap := ⟨_, rfl⟩
  obtain ⟨locs, hlocs⟩ : ∃ locs : List Loc, locs = [] := ⟨_, rfl⟩
  have hS : va_S A s.heap H locs := by rw [hH, hlocs]; exact hS
  rw [← hH] at hP
  suffices hg : W p l e rm_X7_step s m aa below meth c H locs 0 0 (MQ below qq aa s 0 0 A) (F0 m 0 ls []) by subst hH; subst hlocs; exact hg
  unfold p_X7_step at h
  refine lv_aload_n hx hb dX7_step_0 rfl (lv_at hl 0 rfl) ?_
  refine lv_aload_n hx hb dX7_step_1 rfl (lv_at hl 0 rfl) ?_
  refine va_get (D := (dC, dI)) (ci := 5) (v := .int gr.2.2.2.1) (C := RX7) (T := TX7) (N := 10) hx hb hts in_X7 hown hK hP 0 rfl rfl 4 (by decide) lk0 (fun _ h9 => h9) rfl dX7_step_2 ?_
  refine va_put (D := (dC, dI)) (ci := 5) (v := .int gr.2.2.2.1) (ty := .int) (C := RX7) (T := TX7) (N := 10) hx hb hts in_X7 tyX7 tyX7_ok nmX7 hown hK hP hD hS 0 rfl rfl 3 (by decide) lk1 (fun _ h9 => h9) rfl (by decide +kernel) rfl rfl (Nat.le_of_ble_eq_true rfl) dX7_step_5 (fun H locs hP hD hS => ?_)
  have hP : va_P (dC, dI) vwCl (w_X7_step cy a0 ((gr.1, gr.2.1, gr.2.2.2.1, gr.2.2.2)) gtx) H := hP
  have hD : va_D A (w_X7_step cy a0 ((gr.1, gr.2.1, gr.2.2.2.1, gr.2.2.2)) gtx) := hD
  exact c8 fu (gr.1, gr.2.1, gr.2.2.2.1, gr.2.2.2) H locs ls h hP hD hS (lv_sub hl [0] rfl)

abbrev w_X7_open (cy : Nat → ClassId) (a0 : Nat → Nat) (gr : Int32 × Int32 × Int32 × Int32 × Int32 × Int32 × Int32 × Int32 × Int32) (gtx : (Nat → Int32)) : va_W := [(a0 0, .inr (5, [.ref (a0 1), .int (gr.1), .int (gr.2.1), .int (gr.2.2.1), .int (gr.2.2.2.1), .int (gr.2.2.2.2.1), .int (gr.2.2.2.2.2.1), .int (gr.2.2.2.2.2.2.1), .int (gr.2.2.2.2.2.2.2.1), .int (gr.2.2.2.2.2.2.2.2)])), (a0 1, .inl (cy 0, 600, .inl (gtx)))]
abbrev rm_X7_open : Room := { frames := 2, cells := 0, slots := 0, locals := 46 }
set_option maxHeartbeats 1000000 in
set_option maxRecDepth 100000 in
theorem c_X7_open (l : Launch) (dC : Nat → ClassId) (dI : Nat → Nat → Nat) (cy : Nat → ClassId) (a0 : Nat → Nat) (gr : Int32 × Int32 × Int32 × Int32 × Int32 × Int32 × Int32 × Int32 × Int32) (gtx : (Nat → Int32)) (x1 : Int32) (sz : Nat) (R0 : (Int32 × Int32 × Int32 × Int32 × Int32 × Int32 × Int32 × Int32 × Int32)) (h : p_X7_open gr gtx x1 = some R0) : Met l yX7_open wsX7_open rm_X7_open (va_Pc [.ref (a0 0), .int x1] (prC dC dI cy (w_X7_open cy a0 gr gtx) sz)) (va_Qv (fun (u : (Int32 × Int32 × Int32 × Int32 × Int32 × Int32 × Int32 × Int32 × Int32)) => u = R0) (fun (u : (Int32 × Int32 × Int32 × Int32 × Int32 × Int32 × Int32 × Int32 × Int32)) t => poC dC dI cy (w_X7_open cy a0 u gtx) t) (va_A (w_X7_open cy a0 gr gtx) sz)) 0 0 (va_A (w_X7_open cy a0 gr gtx) sz) := by
  refine Met.ofW (cc := cX7_open) (maxL := 2) (ret := none) (by decide) rfl ?_
  intro p e s m aa below meth c s₁ B hml hv
  obtain ⟨haa, hsz, hP, hK, hD0⟩ := hv
  have hx := B.exec
  have hb := B.bytes
  have hr := B.returns
  have hts := atoms_spec (ws := wsX7_open) B.pre
  have hown : s.vm.findClass RX7 = some m.cls := findClass_of_methodNamed B.named
  have hlocks := B.notSynchronized
  subst hsz
  have hD := hD0.self (sz := s.heap.size)
  obtain ⟨qq, hqq⟩ : ∃ qq, qq = (va_Qv (fun (u : (Int32 × Int32 × Int32 × Int32 × Int32 × Int32 × Int32 × Int32 × Int32)) => u = R0) (fun (u : (Int32 × Int32 × Int32 × Int32 × Int32 × Int32 × Int32 × Int32 × Int32)) t => poC dC dI cy (w_X7_open cy a0 u gtx) t) (va_A (w_X7_open cy a0 gr gtx) s.heap.size)) := ⟨_, rfl⟩
  rw [← hqq]
  generalize hAe : va_A (w_X7_open cy a0 gr gtx) s.heap.size = A at hD hqq ⊢
  have hA : ∀ q : Nat, s.heap.size ≤ q → A q := fun q h => by rw [← hAe]; exact Or.inr h
  have hS : va_S A s.heap s.heap [] := va_S.rf
  have hl := lv_entry ([.ref (a0 0), .int x1]) (n := 2) (Nat.le_of_ble_eq_true rfl)
  have hE : entryFrame m aa 2 = F0 m 0 ((lg_sl ([.ref (a0 0), .int x1]) ++ List.replicate (2 - (lg_sl ([.ref (a0 0), .int x1])).length) Slot.unset).toArray) [] := by rw [haa]; exact lg_entry_eq m _ 2
  refine W.eq hE ?_
  generalize (lg_sl ([.ref (a0 0), .int x1]) ++ List.replicate (2 - (lg_sl ([.ref (a0 0), .int x1])).length) Slot.unset).toArray = ls at hl ⊢
  have hl : lv_has ls 2 [(0, .ref (a0 0)), (1, .int x1)] := hl
  change W p l e rm_X7_open s m aa below meth c s.heap [] 0 0 (MQ below qq aa s 0 0 A) (F0 m 0 ls [])
  have hS0 := hS
  have lk0 := hts (.fieldLink RX7 9 "GoatDoors$Reader" "text" "[B") (by decide +kernel)
  have lk1 := hts (.methodLink RX7 15 Lib.Math.min.name) (by decide +kernel)
  have lk2 := hts (.static Lib.Math.min.name) (by decide +kernel)
  have lk3 := hts (.initialized "java/lang/Math") (by decide +kernel)
  have lk4 := hts (.code Lib.Math.min.name Lib.Math.min.code 2 (some .int)) (by decide +kernel)
  have lk5 := hts (.fieldLink RX7 21 "GoatDoors$Reader" "length" "I") (by decide +kernel)
  have lk6 := hts (.fieldLink RX7 25 "GoatDoors$Reader" "behind" "I") (by decide +kernel)
  have lk7 := hts (.fieldLink RX7 28 "GoatDoors$Reader" "fault" "I") (by decide +kernel)
  have lk8 := hts (.fieldLink RX7 31 "GoatDoors$Reader" "place" "I") (by decide +kernel)
  have in_X7 : ∀ w ∈ wsX70, w ∈ wsX7_open := by decide +kernel
  obtain ⟨H, hH⟩ : ∃ H : Heap, H = s.heap := ⟨_, rfl⟩
  obtain ⟨locs, hlocs⟩ : ∃ locs : List Loc, locs = [] := ⟨_, rfl⟩
  have hS : va_S A s.heap H locs := by rw [hH, hlocs]; exact hS
  rw [← hH] at hP
  suffices hg : W p l e rm_X7_open s m aa below meth c H locs 0 0 (MQ below qq aa s 0 0 A) (F0 m 0 ls []) by subst hH; subst hlocs; exact hg
  unfold p_X7_open at h
  refine lv_aload_n hx hb dX7_open_0 rfl (lv_at hl 0 rfl) ?_
  refine lv_iload_n hx hb dX7_open_1 rfl (lv_at hl 1 rfl) ?_
  refine lv_aload_n hx hb dX7_open_2 rfl (lv_at hl 0 rfl) ?_
  refine va_get (D := (dC, dI)) (ci := 5) (v := .ref (a0 1)) (C := RX7) (T := TX7) (N := 10) hx hb hts in_X7 hown hK hP 0 rfl rfl 0 (by decide) lk0 (fun _ h9 => h9) rfl dX7_open_3 ?_
  refine va_alen (v := (600 : Int32)) hx hb hK hP 1 0 rfl rfl rfl dX7_open_6 ?_
  refine va_mmin hx hb (by rw [hml]; exact hl.1.symm) hown lk1 lk2 lk3 lk4 (Nat.le_of_ble_eq_true rfl) (Nat.le_of_ble_eq_true rfl) (Nat.le_of_ble_eq_true rfl) (Nat.le_of_ble_eq_true rfl) dX7_open_7 ?_
  refine va_put (D := (dC, dI)) (ci := 5) (v := .int (if (600 : Int32) < x1 then (600 : Int32) else x1)) (ty := .int) (C := RX7) (T := TX7) (N := 10) hx hb hts in_X7 tyX7 tyX7_ok nmX7 hown hK hP hD hS 0 rfl rfl 1 (by decide) lk5 (fun _ h9 => h9) rfl (by decide +kernel) rfl rfl (Nat.le_of_ble_eq_true rfl) dX7_open_10 (fun H locs hP hD hS => ?_)
  have hP : va_P (dC, dI) vwCl (w_X7_open cy a0 (((if (600 : Int32) < x1 then (600 : Int32) else x1), gr.2)) gtx) H := hP
  have hD : va_D A (w_X7_open cy a0 (((if (600 : Int32) < x1 then (600 : Int32) else x1), gr.2)) gtx) := hD
  refine lv_aload_n hx hb dX7_open_13 rfl (lv_at hl 0 rfl) ?_
  refine lv_iconst (v := (0 : Int32)) hx hb dX7_open_14 (by decide) ?_
  refine va_put (D := (dC, dI)) (ci := 5) (v := .int (0 : Int32)) (ty := .int) (C := RX7) (T := TX7) (N := 10) hx hb hts in_X7 tyX7 tyX7_ok nmX7 hown hK hP hD hS 0 rfl rfl 4 (by decide) lk6 (fun _ h9 => h9) rfl (by decide +kernel) rfl rfl (Nat.le_of_ble_eq_true rfl) dX7_open_15 (fun H locs hP hD hS => ?_)
  have hP : va_P (dC, dI) vwCl (w_X7_open cy a0 (((if (600 : Int32) < x1 then (600 : Int32) else x1), gr.2.1, gr.2.2.1, (0 : Int32), gr.2.2.2.2)) gtx) H := hP
  have hD : va_D A (w_X7_open cy a0 (((if (600 : Int32) < x1 then (600 : Int32) else x1), gr.2.1, gr.2.2.1, (0 : Int32), gr.2.2.2.2)) gtx) := hD
  refine lv_aload_n hx hb dX7_open_18 rfl (lv_at hl 0 rfl) ?_
  refine lv_iconst (v := (0 : Int32)) hx hb dX7_open_19 (by decide) ?_
  refine va_put (D := (dC, dI)) (ci := 5) (v := .int (0 : Int32)) (ty := .int) (C := RX7) (T := TX7) (N := 10) hx hb hts in_X7 tyX7 tyX7_ok nmX7 hown hK hP hD hS 0 rfl rfl 5 (by decide) lk7 (fun _ h9 => h9) rfl (by decide +kernel) rfl rfl (Nat.le_of_ble_eq_true rfl) dX7_open_20 (fun H locs hP hD hS => ?_)
  have hP : va_P (dC, dI) vwCl (w_X7_open cy a0 (((if (600 : Int32) < x1 then (600 : Int32) else x1), gr.2.1, gr.2.2.1, (0 : Int32), (0 : Int32), gr.2.2.2.2.2)) gtx) H := hP
  have hD : va_D A (w_X7_open cy a0 (((if (600 : Int32) < x1 then (600 : Int32) else x1), gr.2.1, gr.2.2.1, (0 : Int32), (0 : Int32), gr.2.2.2.2.2)) gtx) := hD
  refine lv_aload_n hx hb dX7_open_23 rfl (lv_at hl 0 rfl) ?_
  refine lv_iconst (v := (-1 : Int32)) hx hb dX7_open_24 (by decide) ?_
  refine va_put (D := (dC, dI)) (ci := 5) (v := .int (-1 : Int32)) (ty := .int) (C := RX7) (T := TX7) (N := 10) hx hb hts in_X7 tyX7 tyX7_ok nmX7 hown hK hP hD hS 0 rfl rfl 6 (by decide) lk8 (fun _ h9 => h9) rfl (by decide +kernel) rfl rfl (Nat.le_of_ble_eq_true rfl) dX7_open_25 (fun H locs hP hD hS => ?_)
  have hP : va_P (dC, dI) vwCl (w_X7_open cy a0 (((if (600 : Int32) < x1 then (600 : Int32) else x1), gr.2.1, gr.2.2.1, (0 : Int32), (0 : Int32), (-1 : Int32), gr.2.2.2.2.2.2)) gtx) H := hP
  have hD : va_D A (w_X7_open cy a0 (((if (600 : Int32) < x1 then (600 : Int32) else x1), gr.2.1, gr.2.2.1, (0 : Int32), (0 : Int32), (-1 : Int32), gr.2.2.2.2.2.2)) gtx) := hD
  refine lv_aload_n hx hb dX7_open_28 rfl (lv_at hl 0 rfl) ?_
  obtain ⟨v1, hv2, h⟩ := ok_bind h
  refine cl_vv (w2 := fun (u : (Int32 × Int32 × Int32 × Int32 × Int32 × Int32 × Int32 × Int32 × Int32)) => w_X7_open cy a0 u gtx) (As := []) (rest := []) ⟨hx, hb, hml, hown, hts⟩ (c_X7_step l dC dI cy a0 ((if (600 : Int32) < x1 then (600 : Int32) else x1), gr.2.1, gr.2.2.1, (0 : Int32), (0 : Int32), (-1 : Int32), gr.2.2.2.2.2.2) gtx H.size v1 hv2) (cwV 0 hts gX7_open_X7_step rfl rfl rfl (by decide +kernel) ⟨Nat.le_of_ble_eq_true rfl, Nat.le_of_ble_eq_true rfl⟩) (va_recv hK hP (ci := 5) (q0 := 0) rfl rfl) cl_blind (cl_pre hK hP hD [0, 1] (by decide) rfl) hP hD hS hA [0, 1] rfl rfl hl.1 rfl (lv_room (Nat.le_of_ble_eq_true rfl)) dX7_open_29 ⟨Nat.le_of_ble_eq_true rfl, Nat.le_of_ble_eq_true rfl⟩ ⟨rfl, rfl⟩ (fun _ => updM [0, 1] [] [] 2 rfl rfl rfl rfl rfl (by decide +kernel) (by decide +kernel) rfl) (fun u H locs hw hP hD hS => ?_)
  have hw := hw.symm
  subst hw
  have hP : va_P (dC, dI) vwCl (w_X7_open cy a0 v1 gtx) H := hP
  have hD : va_D A (w_X7_open cy a0 v1 gtx) := hD
  exact W.vret hx hb hr (fun t ht hW => by rw [hqq]; have hh := Option.some.inj h; exact ⟨⟨(v1), rfl, Option.some.inj h, by rw [ht]; exact hP, va_K.moved hW.alike hK⟩, hS.F ht⟩) hS.2.2 dX7_open_32

abbrev w_X7_hasMore (cy : Nat → ClassId) (a0 : Nat → Nat) (gr : Int32 × Int32 × Int32 × Int32 × Int32 × Int32 × Int32 × Int32 × Int32) : va_W := [(a0 0, .inr (5, [.ref (a0 1), .int (gr.1), .int (gr.2.1), .int (gr.2.2.1), .int (gr.2.2.2.1), .int (gr.2.2.2.2.1), .int (gr.2.2.2.2.2.1), .int (gr.2.2.2.2.2.2.1), .int (gr.2.2.2.2.2.2.2.1), .int (gr.2.2.2.2.2.2.2.2)]))]
abbrev rm_X7_hasMore : Room := { frames := 0, cells := 0, slots := 0, locals := 0 }
set_option maxHeartbeats 1000000 in
set_option maxRecDepth 100000 in
theorem c_X7_hasMore (l : Launch) (dC : Nat → ClassId) (dI : Nat → Nat → Nat) (cy : Nat → ClassId) (a0 : Nat → Nat) (gr : Int32 × Int32 × Int32 × Int32 × Int32 × Int32 × Int32 × Int32 × Int32) (sz : Nat) (R0 : Int32) (h : p_X7_hasMore gr = some R0) : Met l yX7_hasMore wsX7_hasMore rm_X7_hasMore (va_Pc [.ref (a0 0)] (prC dC dI cy (w_X7_hasMore cy a0 gr) sz)) (va_Qi (fun (r : Int32) (_ : Unit) => r = R0) (fun (_ : Unit) t => poC dC dI cy (w_X7_hasMore cy a0 gr) t) (va_A (w_X7_hasMore cy a0 gr) sz)) 0 0 (va_A (w_X7_hasMore cy a0 gr) sz) := by
  refine Met.ofW (cc := cX7_hasMore) (maxL := 1) (ret := (some .boolean)) (by decide) rfl ?_
  intro p e s m aa below meth c s₁ B hml hv
  obtain ⟨haa, hsz, hP, hK, hD0⟩ := hv
  have hx := B.exec
  have hb := B.bytes
  have hr := B.returns
  have hts := atoms_spec (ws := wsX7_hasMore) B.pre
  have hown : s.vm.findClass RX7 = some m.cls := findClass_of_methodNamed B.named
  have hlocks := B.notSynchronized
  subst hsz
  have hD := hD0.self (sz := s.heap.size)
  obtain ⟨qq, hqq⟩ : ∃ qq, qq = (va_Qi (fun (r : Int32) (_ : Unit) => r = R0) (fun (_ : Unit) t => poC dC dI cy (w_X7_hasMore cy a0 gr) t) (va_A (w_X7_hasMore cy a0 gr) s.heap.size)) := ⟨_, rfl⟩
  rw [← hqq]
  generalize hAe : va_A (w_X7_hasMore cy a0 gr) s.heap.size = A at hD hqq ⊢
  have hA : ∀ q : Nat, s.heap.size ≤ q → A q := fun q h => by rw [← hAe]; exact Or.inr h
  have hS : va_S A s.heap s.heap [] := va_S.rf
  have hl := lv_entry ([.ref (a0 0)]) (n := 1) (Nat.le_of_ble_eq_true rfl)
  have hE : entryFrame m aa 1 = F0 m 0 ((lg_sl ([.ref (a0 0)]) ++ List.replicate (1 - (lg_sl ([.ref (a0 0)])).length) Slot.unset).toArray) [] := by rw [haa]; exact lg_entry_eq m _ 1
  refine W.eq hE ?_
  generalize (lg_sl ([.ref (a0 0)]) ++ List.replicate (1 - (lg_sl ([.ref (a0 0)])).length) Slot.unset).toArray = ls at hl ⊢
  have hl : lv_has ls 1 [(0, .ref (a0 0))] := hl
  change W p l e rm_X7_hasMore s m aa below meth c s.heap [] 0 0 (MQ below qq aa s 0 0 A) (F0 m 0 ls [])
  have hS0 := hS
  have lk0 := hts (.fieldLink RX7 37 "GoatDoors$Reader" "kind" "I") (by decide +kernel)
  have in_X7 : ∀ w ∈ wsX70, w ∈ wsX7_hasMore := by decide +kernel
  obtain ⟨H, hH⟩ : ∃ H : Heap, H = s.heap := ⟨_, rfl⟩
  obtain ⟨locs, hlocs⟩ : ∃ locs : List Loc, locs = [] := ⟨_, rfl⟩
  have hS : va_S A s.heap H locs := by rw [hH, hlocs]; exact hS
  rw [← hH] at hP
  suffices hg : W p l e rm_X7_hasMore s m aa below meth c H locs 0 0 (MQ below qq aa s 0 0 A) (F0 m 0 ls []) by subst hH; subst hlocs; exact hg
  unfold p_X7_hasMore at h
  refine lv_aload_n hx hb dX7_hasMore_0 rfl (lv_at hl 0 rfl) ?_
  refine va_get (D := (dC, dI)) (ci := 5) (v := .int gr.2.1) (C := RX7) (T := TX7) (N := 10) hx hb hts in_X7 hown hK hP 0 rfl rfl 2 (by decide) lk0 (fun _ h9 => h9) rfl dX7_hasMore_1 ?_
  refine lv_iconst (v := (1 : Int32)) hx hb dX7_hasMore_4 (by decide) ?_
  refine lv_icmp_eq (tgt := 12) hx hb dX7_hasMore_5 (by decide) (fun c1 => ?_) (fun c1 => ?_)
  · rw [if_pos c1] at h
    refine lv_iconst (v := (0 : Int32)) hx hb dX7_hasMore_12 (by decide) ?_
    exact W.zret (v := (0 : Int32)) (ty := .boolean) hx hb hr rfl (fun t ht hW => by rw [hqq]; have hh := Option.some.inj h; exact ⟨⟨(0 : Int32), (()), rfl, Option.some.inj h, by rw [ht]; exact hP, va_K.moved hW.alike hK⟩, hS.F ht⟩) hS.2.2 dX7_hasMore_13
  · rw [if_neg c1] at h
    refine lv_iconst (v := (1 : Int32)) hx hb dX7_hasMore_8 (by decide) ?_
    refine lv_goto (tgt := 13) hx hb dX7_hasMore_9 (by decide) ?_
    exact W.zret (v := (1 : Int32)) (ty := .boolean) hx hb hr rfl (fun t ht hW => by rw [hqq]; have hh := Option.some.inj h; exact ⟨⟨(1 : Int32), (()), rfl, Option.some.inj h, by rw [ht]; exact hP, va_K.moved hW.alike hK⟩, hS.F ht⟩) hS.2.2 dX7_hasMore_13

abbrev w_X7_refuse (cy : Nat → ClassId) (a0 : Nat → Nat) (gr : Int32 × Int32 × Int32 × Int32 × Int32 × Int32 × Int32 × Int32 × Int32) : va_W := [(a0 0, .inr (5, [.ref (a0 1), .int (gr.1), .int (gr.2.1), .int (gr.2.2.1), .int (gr.2.2.2.1), .int (gr.2.2.2.2.1), .int (gr.2.2.2.2.2.1), .int (gr.2.2.2.2.2.2.1), .int (gr.2.2.2.2.2.2.2.1), .int (gr.2.2.2.2.2.2.2.2)]))]
abbrev rm_X7_refuse : Room := { frames := 0, cells := 0, slots := 0, locals := 0 }
set_option maxHeartbeats 1000000 in
set_option maxRecDepth 100000 in
theorem c_X7_refuse (l : Launch) (dC : Nat → ClassId) (dI : Nat → Nat → Nat) (cy : Nat → ClassId) (a0 : Nat → Nat) (gr : Int32 × Int32 × Int32 × Int32 × Int32 × Int32 × Int32 × Int32 × Int32) (x1 : Int32) (sz : Nat) (R0 : Int32 × (Int32 × Int32 × Int32 × Int32 × Int32 × Int32 × Int32 × Int32 × Int32)) (h : p_X7_refuse gr x1 = some R0) : Met l yX7_refuse wsX7_refuse rm_X7_refuse (va_Pc [.ref (a0 0), .int x1] (prC dC dI cy (w_X7_refuse cy a0 gr) sz)) (va_Qi (fun (r : Int32) (u : (Int32 × Int32 × Int32 × Int32 × Int32 × Int32 × Int32 × Int32 × Int32)) => r = R0.1 ∧ u = R0.2) (fun (u : (Int32 × Int32 × Int32 × Int32 × Int32 × Int32 × Int32 × Int32 × Int32)) t => poC dC dI cy (w_X7_refuse cy a0 u) t) (va_A (w_X7_refuse cy a0 gr) sz)) 0 0 (va_A (w_X7_refuse cy a0 gr) sz) := by
  refine Met.ofW (cc := cX7_refuse) (maxL := 2) (ret := (some .boolean)) (by decide) rfl ?_
  intro p e s m aa below meth c s₁ B hml hv
  obtain ⟨haa, hsz, hP, hK, hD0⟩ := hv
  have hx := B.exec
  have hb := B.bytes
  have hr := B.returns
  have hts := atoms_spec (ws := wsX7_refuse) B.pre
  have hown : s.vm.findClass RX7 = some m.cls := findClass_of_methodNamed B.named
  have hlocks := B.notSynchronized
  subst hsz
  have hD := hD0.self (sz := s.heap.size)
  obtain ⟨qq, hqq⟩ : ∃ qq, qq = (va_Qi (fun (r : Int32) (u : (Int32 × Int32 × Int32 × Int32 × Int32 × Int32 × Int32 × Int32 × Int32)) => r = R0.1 ∧ u = R0.2) (fun (u : (Int32 × Int32 × Int32 × Int32 × Int32 × Int32 × Int32 × Int32 × Int32)) t => poC dC dI cy (w_X7_refuse cy a0 u) t) (va_A (w_X7_refuse cy a0 gr) s.heap.size)) := ⟨_, rfl⟩
  rw [← hqq]
  generalize hAe : va_A (w_X7_refuse cy a0 gr) s.heap.size = A at hD hqq ⊢
  have hA : ∀ q : Nat, s.heap.size ≤ q → A q := fun q h => by rw [← hAe]; exact Or.inr h
  have hS : va_S A s.heap s.heap [] := va_S.rf
  have hl := lv_entry ([.ref (a0 0), .int x1]) (n := 2) (Nat.le_of_ble_eq_true rfl)
  have hE : entryFrame m aa 2 = F0 m 0 ((lg_sl ([.ref (a0 0), .int x1]) ++ List.replicate (2 - (lg_sl ([.ref (a0 0), .int x1])).length) Slot.unset).toArray) [] := by rw [haa]; exact lg_entry_eq m _ 2
  refine W.eq hE ?_
  generalize (lg_sl ([.ref (a0 0), .int x1]) ++ List.replicate (2 - (lg_sl ([.ref (a0 0), .int x1])).length) Slot.unset).toArray = ls at hl ⊢
  have hl : lv_has ls 2 [(0, .ref (a0 0)), (1, .int x1)] := hl
  change W p l e rm_X7_refuse s m aa below meth c s.heap [] 0 0 (MQ below qq aa s 0 0 A) (F0 m 0 ls [])
  have hS0 := hS
  have lk0 := hts (.fieldLink RX7 28 "GoatDoors$Reader" "fault" "I") (by decide +kernel)
  have lk1 := hts (.fieldLink RX7 40 "GoatDoors$Reader" "start" "I") (by decide +kernel)
  have lk2 := hts (.fieldLink RX7 31 "GoatDoors$Reader" "place" "I") (by decide +kernel)
  have in_X7 : ∀ w ∈ wsX70, w ∈ wsX7_refuse := by decide +kernel
  obtain ⟨H, hH⟩ : ∃ H : Heap, H = s.heap := ⟨_, rfl⟩
  obtain ⟨locs, hlocs⟩ : ∃ locs : List Loc, locs = [] := ⟨_, rfl⟩
  have hS : va_S A s.heap H locs := by rw [hH, hlocs]; exact hS
  rw [← hH] at hP
  suffices hg : W p l e rm_X7_refuse s m aa below meth c H locs 0 0 (MQ below qq aa s 0 0 A) (F0 m 0 ls []) by subst hH; subst hlocs; exact hg
  unfold p_X7_refuse at h
  refine lv_aload_n hx hb dX7_refuse_0 rfl (lv_at hl 0 rfl) ?_
  refine lv_iload_n hx hb dX7_refuse_1 rfl (lv_at hl 1 rfl) ?_
  refine va_put (D := (dC, dI)) (ci := 5) (v := .int x1) (ty := .int) (C := RX7) (T := TX7) (N := 10) hx hb hts in_X7 tyX7 tyX7_ok nmX7 hown hK hP hD hS 0 rfl rfl 5 (by decide) lk0 (fun _ h9 => h9) rfl (by decide +kernel) rfl rfl (Nat.le_of_ble_eq_true rfl) dX7_refuse_2 (fun H locs hP hD hS => ?_)
  have hP : va_P (dC, dI) vwCl (w_X7_refuse cy a0 ((gr.1, gr.2.1, gr.2.2.1, gr.2.2.2.1, x1, gr.2.2.2.2.2))) H := hP
  have hD : va_D A (w_X7_refuse cy a0 ((gr.1, gr.2.1, gr.2.2.1, gr.2.2.2.1, x1, gr.2.2.2.2.2))) := hD
  refine lv_aload_n hx hb dX7_refuse_5 rfl (lv_at hl 0 rfl) ?_
  refine lv_aload_n hx hb dX7_refuse_6 rfl (lv_at hl 0 rfl) ?_
  refine va_get (D := (dC, dI)) (ci := 5) (v := .int gr.2.2.1) (C := RX7) (T := TX7) (N := 10) hx hb hts in_X7 hown hK hP 0 rfl rfl 3 (by decide) lk1 (fun _ h9 => h9) rfl dX7_refuse_7 ?_
  refine va_put (D := (dC, dI)) (ci := 5) (v := .int gr.2.2.1) (ty := .int) (C := RX7) (T := TX7) (N := 10) hx hb hts in_X7 tyX7 tyX7_ok nmX7 hown hK hP hD hS 0 rfl rfl 6 (by decide) lk2 (fun _ h9 => h9) rfl (by decide +kernel) rfl rfl (Nat.le_of_ble_eq_true rfl) dX7_refuse_10 (fun H locs hP hD hS => ?_)
  have hP : va_P (dC, dI) vwCl (w_X7_refuse cy a0 ((gr.1, gr.2.1, gr.2.2.1, gr.2.2.2.1, x1, gr.2.2.1, gr.2.2.2.2.2.2))) H := hP
  have hD : va_D A (w_X7_refuse cy a0 ((gr.1, gr.2.1, gr.2.2.1, gr.2.2.2.1, x1, gr.2.2.1, gr.2.2.2.2.2.2))) := hD
  refine lv_iconst (v := (0 : Int32)) hx hb dX7_refuse_13 (by decide) ?_
  exact W.zret (v := (0 : Int32)) (ty := .boolean) hx hb hr rfl (fun t ht hW => by rw [hqq]; have hh := Option.some.inj h; exact ⟨⟨(0 : Int32), ((gr.1, gr.2.1, gr.2.2.1, gr.2.2.2.1, x1, gr.2.2.1, gr.2.2.2.2.2.2)), rfl, ⟨fst_of hh, snd_of hh⟩, by rw [ht]; exact hP, va_K.moved hW.alike hK⟩, hS.F ht⟩) hS.2.2 dX7_refuse_14

abbrev w_X7_isShortNumber (cy : Nat → ClassId) (a0 : Nat → Nat) (gr : Int32 × Int32 × Int32 × Int32 × Int32 × Int32 × Int32 × Int32 × Int32) (gtx : (Nat → Int32)) : va_W := [(a0 0, .inr (5, [.ref (a0 1), .int (gr.1), .int (gr.2.1), .int (gr.2.2.1), .int (gr.2.2.2.1), .int (gr.2.2.2.2.1), .int (gr.2.2.2.2.2.1), .int (gr.2.2.2.2.2.2.1), .int (gr.2.2.2.2.2.2.2.1), .int (gr.2.2.2.2.2.2.2.2)])), (a0 1, .inl (cy 0, 600, .inl (gtx)))]
abbrev rm_X7_isShortNumber : Room := { frames := 1, cells := 0, slots := 0, locals := 21 }
set_option maxHeartbeats 1000000 in
set_option maxRecDepth 100000 in
theorem c_X7_isShortNumber (l : Launch) (dC : Nat → ClassId) (dI : Nat → Nat → Nat) (cy : Nat → ClassId) (a0 : Nat → Nat) (gr : Int32 × Int32 × Int32 × Int32 × Int32 × Int32 × Int32 × Int32 × Int32) (gtx : (Nat → Int32)) (sz : Nat) (R0 : Int32 × (Int32 × Int32 × Int32 × Int32 × Int32 × Int32 × Int32 × Int32 × Int32)) (h : p_X7_isShortNumber gr gtx = some R0) : Met l yX7_isShortNumber wsX7_isShortNumber rm_X7_isShortNumber (va_Pc [.ref (a0 0)] (prC dC dI cy (w_X7_isShortNumber cy a0 gr gtx) sz)) (va_Qi (fun (r : Int32) (u : (Int32 × Int32 × Int32 × Int32 × Int32 × Int32 × Int32 × Int32 × Int32)) => r = R0.1 ∧ u = R0.2) (fun (u : (Int32 × Int32 × Int32 × Int32 × Int32 × Int32 × Int32 × Int32 × Int32)) t => poC dC dI cy (w_X7_isShortNumber cy a0 u gtx) t) (va_A (w_X7_isShortNumber cy a0 gr gtx) sz)) 0 0 (va_A (w_X7_isShortNumber cy a0 gr gtx) sz) := by
  refine Met.ofW (cc := cX7_isShortNumber) (maxL := 2) (ret := (some .boolean)) (by decide) rfl ?_
  intro p e s m aa below meth c s₁ B hml hv
  obtain ⟨haa, hsz, hP, hK, hD0⟩ := hv
  have hx := B.exec
  have hb := B.bytes
  have hr := B.returns
  have hts := atoms_spec (ws := wsX7_isShortNumber) B.pre
  have hown : s.vm.findClass RX7 = some m.cls := findClass_of_methodNamed B.named
  have hlocks := B.notSynchronized
  subst hsz
  have hD := hD0.self (sz := s.heap.size)
  obtain ⟨qq, hqq⟩ : ∃ qq, qq = (va_Qi (fun (r : Int32) (u : (Int32 × Int32 × Int32 × Int32 × Int32 × Int32 × Int32 × Int32 × Int32)) => r = R0.1 ∧ u = R0.2) (fun (u : (Int32 × Int32 × Int32 × Int32 × Int32 × Int32 × Int32 × Int32 × Int32)) t => poC dC dI cy (w_X7_isShortNumber cy a0 u gtx) t) (va_A (w_X7_isShortNumber cy a0 gr gtx) s.heap.size)) := ⟨_, rfl⟩
  rw [← hqq]
  generalize hAe : va_A (w_X7_isShortNumber cy a0 gr gtx) s.heap.size = A at hD hqq ⊢
  have hA : ∀ q : Nat, s.heap.size ≤ q → A q := fun q h => by rw [← hAe]; exact Or.inr h
  have hS : va_S A s.heap s.heap [] := va_S.rf
  have hl := lv_entry ([.ref (a0 0)]) (n := 2) (Nat.le_of_ble_eq_true rfl)
  have hE : entryFrame m aa 2 = F0 m 0 ((lg_sl ([.ref (a0 0)]) ++ List.replicate (2 - (lg_sl ([.ref (a0 0)])).length) Slot.unset).toArray) [] := by rw [haa]; exact lg_entry_eq m _ 2
  refine W.eq hE ?_
  generalize (lg_sl ([.ref (a0 0)]) ++ List.replicate (2 - (lg_sl ([.ref (a0 0)])).length) Slot.unset).toArray = ls at hl ⊢
  have hl : lv_has ls 2 [(0, .ref (a0 0))] := hl
  change W p l e rm_X7_isShortNumber s m aa below meth c s.heap [] 0 0 (MQ below qq aa s 0 0 A) (F0 m 0 ls [])
  have hS0 := hS
  have lk0 := hts (.fieldLink RX7 25 "GoatDoors$Reader" "behind" "I") (by decide +kernel)
  have lk1 := hts (.fieldLink RX7 77 "GoatDoors$Reader" "value" "I") (by decide +kernel)
  have lk2 := hts (.fieldLink RX7 37 "GoatDoors$Reader" "kind" "I") (by decide +kernel)
  have lk3 := hts (.fieldLink RX7 40 "GoatDoors$Reader" "start" "I") (by decide +kernel)
  have in_X7 : ∀ w ∈ wsX70, w ∈ wsX7_isShortNumber := by decide +kernel
  have c43 : ∀ (n : Nat), ∀ (gr : Int32 × Int32 × Int32 × Int32 × Int32 × Int32 × Int32 × Int32 × Int32) (x1 : Int32) (H : Heap) (locs : List Loc) (ls : Array Slot), p_X7_isShortNumber_43 gtx n gr x1 = some R0 → va_P (dC, dI) vwCl (w_X7_isShortNumber cy a0 gr gtx) H → va_D A (w_X7_isShortNumber cy a0 gr gtx) → va_S A s.heap H locs → lv_has ls 2 [(0, .ref (a0 0)), (1, .int x1)] → W p l e rm_X7_isShortNumber s m aa below meth c H locs 0 0 (MQ below qq aa s 0 0 A) (F0 m 43 ls []) := by
    intro  n
    induction n with
    | zero => intro gr x1 H locs ls h; exact no_some h
    | succ n ih =>
      intro gr x1 H locs ls h hP hD hS hl
      rw [p_X7_isShortNumber_43.eq_2] at h
      refine lv_iload_n hx hb dX7_isShortNumber_43 rfl (lv_at hl 1 rfl) ?_
      refine lv_aload_n hx hb dX7_isShortNumber_44 rfl (lv_at hl 0 rfl) ?_
      refine va_get (D := (dC, dI)) (ci := 5) (v := .int gr.2.2.2.1) (C := RX7) (T := TX7) (N := 10) hx hb hts in_X7 hown hK hP 0 rfl rfl 4 (by decide) lk0 (fun _ h9 => h9) rfl dX7_isShortNumber_45 ?_
      refine lv_icmp_ge (tgt := 77) hx hb dX7_isShortNumber_48 (by decide) (fun c1 => ?_) (fun c1 => ?_)
      · rw [if_pos c1] at h
        refine lv_iconst (v := (1 : Int32)) hx hb dX7_isShortNumber_77 (by decide) ?_
        exact W.zret (v := (1 : Int32)) (ty := .boolean) hx hb hr rfl (fun t ht hW => by rw [hqq]; have hh := Option.some.inj h; exact ⟨⟨(1 : Int32), (gr), rfl, ⟨fst_of hh, snd_of hh⟩, by rw [ht]; exact hP, va_K.moved hW.alike hK⟩, hS.F ht⟩) hS.2.2 dX7_isShortNumber_78
      · rw [if_neg c1] at h
        refine lv_aload_n hx hb dX7_isShortNumber_51 rfl (lv_at hl 0 rfl) ?_
        refine lv_aload_n hx hb dX7_isShortNumber_52 rfl (lv_at hl 0 rfl) ?_
        refine va_get (D := (dC, dI)) (ci := 5) (v := .int gr.2.2.2.2.2.2.1) (C := RX7) (T := TX7) (N := 10) hx hb hts in_X7 hown hK hP 0 rfl rfl 7 (by decide) lk1 (fun _ h9 => h9) rfl dX7_isShortNumber_53 ?_
        refine lv_bipush (v := (10 : Int32)) hx hb dX7_isShortNumber_56 (by decide) ?_
        refine lv_imul hx hb dX7_isShortNumber_58 ?_
        refine lv_aload_n hx hb dX7_isShortNumber_59 rfl (lv_at hl 0 rfl) ?_
        refine lv_iload_n hx hb dX7_isShortNumber_60 rfl (lv_at hl 1 rfl) ?_
        obtain ⟨v2, hv3, h⟩ := ok_bind h
        refine cl_vi (w2 := fun (_ : Unit) => w_X7_isShortNumber cy a0 gr gtx) (As := [.int x1]) (rest := [.int (gr.2.2.2.2.2.2.1 * (10 : Int32)), .ref (a0 0)]) ⟨hx, hb, hml, hown, hts⟩ (c_X7_signAt l dC dI cy a0 gr gtx x1 H.size v2 hv3) (cwV 1 hts gX7_isShortNumber_X7_signAt rfl rfl rfl (by decide +kernel) ⟨Nat.le_of_ble_eq_true rfl, Nat.le_of_ble_eq_true rfl⟩) (va_recv hK hP (ci := 5) (q0 := 0) rfl rfl) cl_blind (cl_pre hK hP hD [0, 1] (by decide) rfl) hP hD hS hA [0, 1] rfl rfl hl.1 rfl (lv_room (Nat.le_of_ble_eq_true rfl)) dX7_isShortNumber_61 ⟨Nat.le_of_ble_eq_true rfl, Nat.le_of_ble_eq_true rfl⟩ ⟨rfl, rfl⟩ (fun _ => updR [0, 1] rfl) (fun r u H locs hw hP hD hS => ?_)
        have hw := hw.symm
        subst hw
        have hP : va_P (dC, dI) vwCl (w_X7_isShortNumber cy a0 gr gtx) H := hP
        have hD : va_D A (w_X7_isShortNumber cy a0 gr gtx) := hD
        refine lv_iadd hx hb dX7_isShortNumber_64 ?_
        refine lv_bipush (v := (48 : Int32)) hx hb dX7_isShortNumber_65 (by decide) ?_
        refine lv_isub hx hb dX7_isShortNumber_67 ?_
        refine va_put (D := (dC, dI)) (ci := 5) (v := .int (((gr.2.2.2.2.2.2.1 * (10 : Int32)) + v2) - (48 : Int32))) (ty := .int) (C := RX7) (T := TX7) (N := 10) hx hb hts in_X7 tyX7 tyX7_ok nmX7 hown hK hP hD hS 0 rfl rfl 7 (by decide) lk1 (fun _ h9 => h9) rfl (by decide +kernel) rfl rfl (Nat.le_of_ble_eq_true rfl) dX7_isShortNumber_68 (fun H locs hP hD hS => ?_)
        have hP : va_P (dC, dI) vwCl (w_X7_isShortNumber cy a0 ((gr.1, gr.2.1, gr.2.2.1, gr.2.2.2.1, gr.2.2.2.2.1, gr.2.2.2.2.2.1, (((gr.2.2.2.2.2.2.1 * (10 : Int32)) + v2) - (48 : Int32)), gr.2.2.2.2.2.2.2)) gtx) H := hP
        have hD : va_D A (w_X7_isShortNumber cy a0 ((gr.1, gr.2.1, gr.2.2.1, gr.2.2.2.1, gr.2.2.2.2.1, gr.2.2.2.2.2.1, (((gr.2.2.2.2.2.2.1 * (10 : Int32)) + v2) - (48 : Int32)), gr.2.2.2.2.2.2.2)) gtx) := hD
        refine lv_iinc (v := (x1 + (1 : Int32))) (lv' := [(1, .int (x1 + (1 : Int32))), (0, .ref (a0 0))]) hx hb dX7_isShortNumber_71 hl (k := 1) rfl rfl (by decide) rfl (fun ls hl => ?_)
        refine lv_goto (tgt := 43) hx hb dX7_isShortNumber_74 (by decide) ?_
        exact ih (gr.1, gr.2.1, gr.2.2.1, gr.2.2.2.1, gr.2.2.2.2.1, gr.2.2.2.2.2.1, (((gr.2.2.2.2.2.2.1 * (10 : Int32)) + v2) - (48 : Int32)), gr.2.2.2.2.2.2.2) (x1 + (1 : Int32)) H locs ls h hP hD hS (lv_sub hl [1, 0] rfl)
  obtain ⟨H, hH⟩ : ∃ H : Heap, H = s.heap := ⟨_, rfl⟩
  obtain ⟨locs, hlocs⟩ : ∃ locs : List Loc, locs = [] := ⟨_, rfl⟩
  have hS : va_S A s.heap H locs := by rw [hH, hlocs]; exact hS
  rw [← hH] at hP
  suffices hg : W p l e rm_X7_isShortNumber s m aa below meth c H locs 0 0 (MQ below qq aa s 0 0 A) (F0 m 0 ls []) by subst hH; subst hlocs; exact hg
  unfold p_X7_isShortNumber at h
  refine lv_aload_n hx hb dX7_isShortNumber_0 rfl (lv_at hl 0 rfl) ?_
  refine va_get (D := (dC, dI)) (ci := 5) (v := .int gr.2.1) (C := RX7) (T := TX7) (N := 10) hx hb hts in_X7 hown hK hP 0 rfl rfl 2 (by decide) lk2 (fun _ h9 => h9) rfl dX7_isShortNumber_1 ?_
  refine lv_iconst (v := (3 : Int32)) hx hb dX7_isShortNumber_4 (by decide) ?_
  refine lv_icmp_eq (tgt := 14) hx hb dX7_isShortNumber_5 (by decide) (fun c1 => ?_) (fun c1 => ?_)
  · rw [if_pos c1] at h
    refine lv_aload_n hx hb dX7_isShortNumber_14 rfl (lv_at hl 0 rfl) ?_
    refine va_get (D := (dC, dI)) (ci := 5) (v := .int gr.2.2.2.1) (C := RX7) (T := TX7) (N := 10) hx hb hts in_X7 hown hK hP 0 rfl rfl 4 (by decide) lk0 (fun _ h9 => h9) rfl dX7_isShortNumber_15 ?_
    refine lv_aload_n hx hb dX7_isShortNumber_18 rfl (lv_at hl 0 rfl) ?_
    refine va_get (D := (dC, dI)) (ci := 5) (v := .int gr.2.2.1) (C := RX7) (T := TX7) (N := 10) hx hb hts in_X7 hown hK hP 0 rfl rfl 3 (by decide) lk3 (fun _ h9 => h9) rfl dX7_isShortNumber_19 ?_
    refine lv_isub hx hb dX7_isShortNumber_22 ?_
    refine lv_iconst (v := (3 : Int32)) hx hb dX7_isShortNumber_23 (by decide) ?_
    refine lv_icmp_le (tgt := 33) hx hb dX7_isShortNumber_24 (by decide) (fun c2 => ?_) (fun c2 => ?_)
    · rw [if_pos c2] at h
      refine lv_aload_n hx hb dX7_isShortNumber_33 rfl (lv_at hl 0 rfl) ?_
      refine lv_iconst (v := (0 : Int32)) hx hb dX7_isShortNumber_34 (by decide) ?_
      refine va_put (D := (dC, dI)) (ci := 5) (v := .int (0 : Int32)) (ty := .int) (C := RX7) (T := TX7) (N := 10) hx hb hts in_X7 tyX7 tyX7_ok nmX7 hown hK hP hD hS 0 rfl rfl 7 (by decide) lk1 (fun _ h9 => h9) rfl (by decide +kernel) rfl rfl (Nat.le_of_ble_eq_true rfl) dX7_isShortNumber_35 (fun H locs hP hD hS => ?_)
      have hP : va_P (dC, dI) vwCl (w_X7_isShortNumber cy a0 ((gr.1, gr.2.1, gr.2.2.1, gr.2.2.2.1, gr.2.2.2.2.1, gr.2.2.2.2.2.1, (0 : Int32), gr.2.2.2.2.2.2.2)) gtx) H := hP
      have hD : va_D A (w_X7_isShortNumber cy a0 ((gr.1, gr.2.1, gr.2.2.1, gr.2.2.2.1, gr.2.2.2.2.1, gr.2.2.2.2.2.1, (0 : Int32), gr.2.2.2.2.2.2.2)) gtx) := hD
      refine lv_aload_n hx hb dX7_isShortNumber_38 rfl (lv_at hl 0 rfl) ?_
      refine va_get (D := (dC, dI)) (ci := 5) (v := .int gr.2.2.1) (C := RX7) (T := TX7) (N := 10) hx hb hts in_X7 hown hK hP 0 rfl rfl 3 (by decide) lk3 (fun _ h9 => h9) rfl dX7_isShortNumber_39 ?_
      refine lv_istore_n (lv' := [(1, .int gr.2.2.1), (0, .ref (a0 0))]) hx hb dX7_isShortNumber_42 rfl hl (by decide) rfl (fun ls hl => ?_)
      exact c43 fu (gr.1, gr.2.1, gr.2.2.1, gr.2.2.2.1, gr.2.2.2.2.1, gr.2.2.2.2.2.1, (0 : Int32), gr.2.2.2.2.2.2.2) gr.2.2.1 H locs ls h hP hD hS (lv_sub hl [1, 0] rfl)
    · rw [if_neg c2] at h
      refine lv_aload_n hx hb dX7_isShortNumber_27 rfl (lv_at hl 0 rfl) ?_
      refine lv_iconst (v := (2 : Int32)) hx hb dX7_isShortNumber_28 (by decide) ?_
      obtain ⟨v3, hv4, h⟩ := ok_bind h
      refine cl_vi (w2 := fun (u : (Int32 × Int32 × Int32 × Int32 × Int32 × Int32 × Int32 × Int32 × Int32)) => w_X7_isShortNumber cy a0 u gtx) (As := [.int (2 : Int32)]) (rest := []) ⟨hx, hb, hml, hown, hts⟩ (c_X7_refuse l dC dI cy a0 gr (2 : Int32) H.size v3 hv4) (cwV 1 hts gX7_isShortNumber_X7_refuse rfl rfl rfl (by decide +kernel) ⟨Nat.le_of_ble_eq_true rfl, Nat.le_of_ble_eq_true rfl⟩) (va_recv hK hP (ci := 5) (q0 := 0) rfl rfl) cl_blind (cl_pre hK hP hD [0] (by decide) rfl) hP hD hS hA [0] rfl rfl hl.1 rfl (lv_room (Nat.le_of_ble_eq_true rfl)) dX7_isShortNumber_29 ⟨Nat.le_of_ble_eq_true rfl, Nat.le_of_ble_eq_true rfl⟩ ⟨rfl, rfl⟩ (fun _ => updM [0] [1] [(a0 1, .inl (cy 0, 600, .inl (gtx)))] 2 rfl rfl rfl rfl rfl (by decide +kernel) (by decide +kernel) rfl) (fun r u H locs hw hP hD hS => ?_)
      obtain ⟨rfl, rfl⟩ := hw
      have hP : va_P (dC, dI) vwCl (w_X7_isShortNumber cy a0 v3.2 gtx) H := hP
      have hD : va_D A (w_X7_isShortNumber cy a0 v3.2 gtx) := hD
      obtain ⟨hz5, h⟩ := ok_if h
      exact W.zret (v := v3.1) (ty := .boolean) hx hb hr (isZ_nar hz5) (fun t ht hW => by rw [hqq]; have hh := Option.some.inj h; exact ⟨⟨v3.1, (v3.2), rfl, ⟨fst_of hh, snd_of hh⟩, by rw [ht]; exact hP, va_K.moved hW.alike hK⟩, hS.F ht⟩) hS.2.2 dX7_isShortNumber_32
  · rw [if_neg c1] at h
    refine lv_aload_n hx hb dX7_isShortNumber_8 rfl (lv_at hl 0 rfl) ?_
    refine lv_iconst (v := (1 : Int32)) hx hb dX7_isShortNumber_9 (by decide) ?_
    obtain ⟨v6, hv7, h⟩ := ok_bind h
    refine cl_vi (w2 := fun (u : (Int32 × Int32 × Int32 × Int32 × Int32 × Int32 × Int32 × Int32 × Int32)) => w_X7_isShortNumber cy a0 u gtx) (As := [.int (1 : Int32)]) (rest := []) ⟨hx, hb, hml, hown, hts⟩ (c_X7_refuse l dC dI cy a0 gr (1 : Int32) H.size v6 hv7) (cwV 1 hts gX7_isShortNumber_X7_refuse rfl rfl rfl (by decide +kernel) ⟨Nat.le_of_ble_eq_true rfl, Nat.le_of_ble_eq_true rfl⟩) (va_recv hK hP (ci := 5) (q0 := 0) rfl rfl) cl_blind (cl_pre hK hP hD [0] (by decide) rfl) hP hD hS hA [0] rfl rfl hl.1 rfl (lv_room (Nat.le_of_ble_eq_true rfl)) dX7_isShortNumber_10 ⟨Nat.le_of_ble_eq_true rfl, Nat.le_of_ble_eq_true rfl⟩ ⟨rfl, rfl⟩ (fun _ => updM [0] [1] [(a0 1, .inl (cy 0, 600, .inl (gtx)))] 2 rfl rfl rfl rfl rfl (by decide +kernel) (by decide +kernel) rfl) (fun r u H locs hw hP hD hS => ?_)
    obtain ⟨rfl, rfl⟩ := hw
    have hP : va_P (dC, dI) vwCl (w_X7_isShortNumber cy a0 v6.2 gtx) H := hP
    have hD : va_D A (w_X7_isShortNumber cy a0 v6.2 gtx) := hD
    obtain ⟨hz8, h⟩ := ok_if h
    exact W.zret (v := v6.1) (ty := .boolean) hx hb hr (isZ_nar hz8) (fun t ht hW => by rw [hqq]; have hh := Option.some.inj h; exact ⟨⟨v6.1, (v6.2), rfl, ⟨fst_of hh, snd_of hh⟩, by rw [ht]; exact hP, va_K.moved hW.alike hK⟩, hS.F ht⟩) hS.2.2 dX7_isShortNumber_13

abbrev w_X7_takeOneOf (cy : Nat → ClassId) (a0 : Nat → Nat) (gr : Int32 × Int32 × Int32 × Int32 × Int32 × Int32 × Int32 × Int32 × Int32) (gtx : (Nat → Int32)) : va_W := [(a0 0, .inr (5, [.ref (a0 1), .int (gr.1), .int (gr.2.1), .int (gr.2.2.1), .int (gr.2.2.2.1), .int (gr.2.2.2.2.1), .int (gr.2.2.2.2.2.1), .int (gr.2.2.2.2.2.2.1), .int (gr.2.2.2.2.2.2.2.1), .int (gr.2.2.2.2.2.2.2.2)])), (a0 1, .inl (cy 0, 600, .inl (gtx)))]
abbrev rm_X7_takeOneOf : Room := { frames := 2, cells := 0, slots := 0, locals := 46 }
set_option maxHeartbeats 1000000 in
set_option maxRecDepth 100000 in
theorem c_X7_takeOneOf (l : Launch) (dC : Nat → ClassId) (dI : Nat → Nat → Nat) (cy : Nat → ClassId) (a0 : Nat → Nat) (gr : Int32 × Int32 × Int32 × Int32 × Int32 × Int32 × Int32 × Int32 × Int32) (gtx : (Nat → Int32)) (x1 : Int32) (x2 : Int32) (sz : Nat) (R0 : Int32 × (Int32 × Int32 × Int32 × Int32 × Int32 × Int32 × Int32 × Int32 × Int32)) (h : p_X7_takeOneOf gr gtx x1 x2 = some R0) : Met l yX7_takeOneOf wsX7_takeOneOf rm_X7_takeOneOf (va_Pc [.ref (a0 0), .int x1, .int x2] (prC dC dI cy (w_X7_takeOneOf cy a0 gr gtx) sz)) (va_Qi (fun (r : Int32) (u : (Int32 × Int32 × Int32 × Int32 × Int32 × Int32 × Int32 × Int32 × Int32)) => r = R0.1 ∧ u = R0.2) (fun (u : (Int32 × Int32 × Int32 × Int32 × Int32 × Int32 × Int32 × Int32 × Int32)) t => poC dC dI cy (w_X7_takeOneOf cy a0 u gtx) t) (va_A (w_X7_takeOneOf cy a0 gr gtx) sz)) 0 0 (va_A (w_X7_takeOneOf cy a0 gr gtx) sz) := by
  refine Met.ofW (cc := cX7_takeOneOf) (maxL := 3) (ret := (some .boolean)) (by decide) rfl ?_
  intro p e s m aa below meth c s₁ B hml hv
  obtain ⟨haa, hsz, hP, hK, hD0⟩ := hv
  have hx := B.exec
  have hb := B.bytes
  have hr := B.returns
  have hts := atoms_spec (ws := wsX7_takeOneOf) B.pre
  have hown : s.vm.findClass RX7 = some m.cls := findClass_of_methodNamed B.named
  have hlocks := B.notSynchronized
  subst hsz
  have hD := hD0.self (sz := s.heap.size)
  obtain ⟨qq, hqq⟩ : ∃ qq, qq = (va_Qi (fun (r : Int32) (u : (Int32 × Int32 × Int32 × Int32 × Int32 × Int32 × Int32 × Int32 × Int32)) => r = R0.1 ∧ u = R0.2) (fun (u : (Int32 × Int32 × Int32 × Int32 × Int32 × Int32 × Int32 × Int32 × Int32)) t => poC dC dI cy (w_X7_takeOneOf cy a0 u gtx) t) (va_A (w_X7_takeOneOf cy a0 gr gtx) s.heap.size)) := ⟨_, rfl⟩
  rw [← hqq]
  generalize hAe : va_A (w_X7_takeOneOf cy a0 gr gtx) s.heap.size = A at hD hqq ⊢
  have hA : ∀ q : Nat, s.heap.size ≤ q → A q := fun q h => by rw [← hAe]; exact Or.inr h
  have hS : va_S A s.heap s.heap [] := va_S.rf
  have hl := lv_entry ([.ref (a0 0), .int x1, .int x2]) (n := 3) (Nat.le_of_ble_eq_true rfl)
  have hE : entryFrame m aa 3 = F0 m 0 ((lg_sl ([.ref (a0 0), .int x1, .int x2]) ++ List.replicate (3 - (lg_sl ([.ref (a0 0), .int x1, .int x2])).length) Slot.unset).toArray) [] := by rw [haa]; exact lg_entry_eq m _ 3
  refine W.eq hE ?_
  generalize (lg_sl ([.ref (a0 0), .int x1, .int x2]) ++ List.replicate (3 - (lg_sl ([.ref (a0 0), .int x1, .int x2])).length) Slot.unset).toArray = ls at hl ⊢
  have hl : lv_has ls 3 [(0, .ref (a0 0)), (1, .int x1), (2, .int x2)] := hl
  change W p l e rm_X7_takeOneOf s m aa below meth c s.heap [] 0 0 (MQ below qq aa s 0 0 A) (F0 m 0 ls [])
  have hS0 := hS
  have lk0 := hts (.fieldLink RX7 77 "GoatDoors$Reader" "value" "I") (by decide +kernel)
  have in_X7 : ∀ w ∈ wsX70, w ∈ wsX7_takeOneOf := by decide +kernel
  obtain ⟨H, hH⟩ : ∃ H : Heap, H = s.heap := ⟨_, rfl⟩
  obtain ⟨locs, hlocs⟩ : ∃ locs : List Loc, locs = [] := ⟨_, rfl⟩
  have hS : va_S A s.heap H locs := by rw [hH, hlocs]; exact hS
  rw [← hH] at hP
  suffices hg : W p l e rm_X7_takeOneOf s m aa below meth c H locs 0 0 (MQ below qq aa s 0 0 A) (F0 m 0 ls []) by subst hH; subst hlocs; exact hg
  unfold p_X7_takeOneOf at h
  refine lv_aload_n hx hb dX7_takeOneOf_0 rfl (lv_at hl 0 rfl) ?_
  obtain ⟨v1, hv2, h⟩ := ok_bind h
  refine cl_vi (w2 := fun (u : (Int32 × Int32 × Int32 × Int32 × Int32 × Int32 × Int32 × Int32 × Int32)) => w_X7_takeOneOf cy a0 u gtx) (As := []) (rest := []) ⟨hx, hb, hml, hown, hts⟩ (c_X7_isShortNumber l dC dI cy a0 gr gtx H.size v1 hv2) (cwV 0 hts gX7_takeOneOf_X7_isShortNumber rfl rfl rfl (by decide +kernel) ⟨Nat.le_of_ble_eq_true rfl, Nat.le_of_ble_eq_true rfl⟩) (va_recv hK hP (ci := 5) (q0 := 0) rfl rfl) cl_blind (cl_pre hK hP hD [0, 1] (by decide) rfl) hP hD hS hA [0, 1] rfl rfl hl.1 rfl (lv_room (Nat.le_of_ble_eq_true rfl)) dX7_takeOneOf_1 ⟨Nat.le_of_ble_eq_true rfl, Nat.le_of_ble_eq_true rfl⟩ ⟨rfl, rfl⟩ (fun _ => updM [0, 1] [] [] 2 rfl rfl rfl rfl rfl (by decide +kernel) (by decide +kernel) rfl) (fun r u H locs hw hP hD hS => ?_)
  obtain ⟨rfl, rfl⟩ := hw
  have hP : va_P (dC, dI) vwCl (w_X7_takeOneOf cy a0 v1.2 gtx) H := hP
  have hD : va_D A (w_X7_takeOneOf cy a0 v1.2 gtx) := hD
  refine lv_if_ne (tgt := 9) hx hb dX7_takeOneOf_4 (by decide) (fun c3 => ?_) (fun c3 => ?_)
  · rw [if_neg c3] at h
    refine lv_aload_n hx hb dX7_takeOneOf_9 rfl (lv_at hl 0 rfl) ?_
    refine va_get (D := (dC, dI)) (ci := 5) (v := .int v1.2.2.2.2.2.2.2.1) (C := RX7) (T := TX7) (N := 10) hx hb hts in_X7 hown hK hP 0 rfl rfl 7 (by decide) lk0 (fun _ h9 => h9) rfl dX7_takeOneOf_10 ?_
    refine lv_iload_n hx hb dX7_takeOneOf_13 rfl (lv_at hl 1 rfl) ?_
    refine lv_icmp_lt (tgt := 23) hx hb dX7_takeOneOf_14 (by decide) (fun c4 => ?_) (fun c4 => ?_)
    · rw [if_pos c4] at h
      refine lv_aload_n hx hb dX7_takeOneOf_23 rfl (lv_at hl 0 rfl) ?_
      refine va_get (D := (dC, dI)) (ci := 5) (v := .int v1.2.2.2.2.2.2.2.1) (C := RX7) (T := TX7) (N := 10) hx hb hts in_X7 hown hK hP 0 rfl rfl 7 (by decide) lk0 (fun _ h9 => h9) rfl dX7_takeOneOf_24 ?_
      refine lv_iload_n hx hb dX7_takeOneOf_27 rfl (lv_at hl 2 rfl) ?_
      refine lv_icmp_ne (tgt := 37) hx hb dX7_takeOneOf_28 (by decide) (fun c5 => ?_) (fun c5 => ?_)
      · rw [if_neg c5] at h
        refine lv_aload_n hx hb dX7_takeOneOf_37 rfl (lv_at hl 0 rfl) ?_
        obtain ⟨v6, hv7, h⟩ := ok_bind h
        refine cl_vv (w2 := fun (u : (Int32 × Int32 × Int32 × Int32 × Int32 × Int32 × Int32 × Int32 × Int32)) => w_X7_takeOneOf cy a0 u gtx) (As := []) (rest := []) ⟨hx, hb, hml, hown, hts⟩ (c_X7_step l dC dI cy a0 v1.2 gtx H.size v6 hv7) (cwV 0 hts gX7_takeOneOf_X7_step rfl rfl rfl (by decide +kernel) ⟨Nat.le_of_ble_eq_true rfl, Nat.le_of_ble_eq_true rfl⟩) (va_recv hK hP (ci := 5) (q0 := 0) rfl rfl) cl_blind (cl_pre hK hP hD [0, 1] (by decide) rfl) hP hD hS hA [0, 1] rfl rfl hl.1 rfl (lv_room (Nat.le_of_ble_eq_true rfl)) dX7_takeOneOf_38 ⟨Nat.le_of_ble_eq_true rfl, Nat.le_of_ble_eq_true rfl⟩ ⟨rfl, rfl⟩ (fun _ => updM [0, 1] [] [] 2 rfl rfl rfl rfl rfl (by decide +kernel) (by decide +kernel) rfl) (fun u H locs hw hP hD hS => ?_)
        have hw := hw.symm
        subst hw
        have hP : va_P (dC, dI) vwCl (w_X7_takeOneOf cy a0 v6 gtx) H := hP
        have hD : va_D A (w_X7_takeOneOf cy a0 v6 gtx) := hD
        refine lv_iconst (v := (1 : Int32)) hx hb dX7_takeOneOf_41 (by decide) ?_
        exact W.zret (v := (1 : Int32)) (ty := .boolean) hx hb hr rfl (fun t ht hW => by rw [hqq]; have hh := Option.some.inj h; exact ⟨⟨(1 : Int32), (v6), rfl, ⟨fst_of hh, snd_of hh⟩, by rw [ht]; exact hP, va_K.moved hW.alike hK⟩, hS.F ht⟩) hS.2.2 dX7_takeOneOf_42
      · rw [if_pos c5] at h
        refine lv_aload_n hx hb dX7_takeOneOf_31 rfl (lv_at hl 0 rfl) ?_
        refine lv_iconst (v := (4 : Int32)) hx hb dX7_takeOneOf_32 (by decide) ?_
        obtain ⟨v8, hv9, h⟩ := ok_bind h
        refine cl_vi (w2 := fun (u : (Int32 × Int32 × Int32 × Int32 × Int32 × Int32 × Int32 × Int32 × Int32)) => w_X7_takeOneOf cy a0 u gtx) (As := [.int (4 : Int32)]) (rest := []) ⟨hx, hb, hml, hown, hts⟩ (c_X7_refuse l dC dI cy a0 v1.2 (4 : Int32) H.size v8 hv9) (cwV 1 hts gX7_takeOneOf_X7_refuse rfl rfl rfl (by decide +kernel) ⟨Nat.le_of_ble_eq_true rfl, Nat.le_of_ble_eq_true rfl⟩) (va_recv hK hP (ci := 5) (q0 := 0) rfl rfl) cl_blind (cl_pre hK hP hD [0] (by decide) rfl) hP hD hS hA [0] rfl rfl hl.1 rfl (lv_room (Nat.le_of_ble_eq_true rfl)) dX7_takeOneOf_33 ⟨Nat.le_of_ble_eq_true rfl, Nat.le_of_ble_eq_true rfl⟩ ⟨rfl, rfl⟩ (fun _ => updM [0] [1] [(a0 1, .inl (cy 0, 600, .inl (gtx)))] 2 rfl rfl rfl rfl rfl (by decide +kernel) (by decide +kernel) rfl) (fun r u H locs hw hP hD hS => ?_)
        obtain ⟨rfl, rfl⟩ := hw
        have hP : va_P (dC, dI) vwCl (w_X7_takeOneOf cy a0 v8.2 gtx) H := hP
        have hD : va_D A (w_X7_takeOneOf cy a0 v8.2 gtx) := hD
        obtain ⟨hz10, h⟩ := ok_if h
        exact W.zret (v := v8.1) (ty := .boolean) hx hb hr (isZ_nar hz10) (fun t ht hW => by rw [hqq]; have hh := Option.some.inj h; exact ⟨⟨v8.1, (v8.2), rfl, ⟨fst_of hh, snd_of hh⟩, by rw [ht]; exact hP, va_K.moved hW.alike hK⟩, hS.F ht⟩) hS.2.2 dX7_takeOneOf_36
    · rw [if_neg c4] at h
      refine lv_aload_n hx hb dX7_takeOneOf_17 rfl (lv_at hl 0 rfl) ?_
      refine lv_iconst (v := (3 : Int32)) hx hb dX7_takeOneOf_18 (by decide) ?_
      obtain ⟨v11, hv12, h⟩ := ok_bind h
      refine cl_vi (w2 := fun (u : (Int32 × Int32 × Int32 × Int32 × Int32 × Int32 × Int32 × Int32 × Int32)) => w_X7_takeOneOf cy a0 u gtx) (As := [.int (3 : Int32)]) (rest := []) ⟨hx, hb, hml, hown, hts⟩ (c_X7_refuse l dC dI cy a0 v1.2 (3 : Int32) H.size v11 hv12) (cwV 1 hts gX7_takeOneOf_X7_refuse rfl rfl rfl (by decide +kernel) ⟨Nat.le_of_ble_eq_true rfl, Nat.le_of_ble_eq_true rfl⟩) (va_recv hK hP (ci := 5) (q0 := 0) rfl rfl) cl_blind (cl_pre hK hP hD [0] (by decide) rfl) hP hD hS hA [0] rfl rfl hl.1 rfl (lv_room (Nat.le_of_ble_eq_true rfl)) dX7_takeOneOf_19 ⟨Nat.le_of_ble_eq_true rfl, Nat.le_of_ble_eq_true rfl⟩ ⟨rfl, rfl⟩ (fun _ => updM [0] [1] [(a0 1, .inl (cy 0, 600, .inl (gtx)))] 2 rfl rfl rfl rfl rfl (by decide +kernel) (by decide +kernel) rfl) (fun r u H locs hw hP hD hS => ?_)
      obtain ⟨rfl, rfl⟩ := hw
      have hP : va_P (dC, dI) vwCl (w_X7_takeOneOf cy a0 v11.2 gtx) H := hP
      have hD : va_D A (w_X7_takeOneOf cy a0 v11.2 gtx) := hD
      obtain ⟨hz13, h⟩ := ok_if h
      exact W.zret (v := v11.1) (ty := .boolean) hx hb hr (isZ_nar hz13) (fun t ht hW => by rw [hqq]; have hh := Option.some.inj h; exact ⟨⟨v11.1, (v11.2), rfl, ⟨fst_of hh, snd_of hh⟩, by rw [ht]; exact hP, va_K.moved hW.alike hK⟩, hS.F ht⟩) hS.2.2 dX7_takeOneOf_22
  · rw [if_pos c3] at h
    refine lv_iconst (v := (0 : Int32)) hx hb dX7_takeOneOf_7 (by decide) ?_
    exact W.zret (v := (0 : Int32)) (ty := .boolean) hx hb hr rfl (fun t ht hW => by rw [hqq]; have hh := Option.some.inj h; exact ⟨⟨(0 : Int32), (v1.2), rfl, ⟨fst_of hh, snd_of hh⟩, by rw [ht]; exact hP, va_K.moved hW.alike hK⟩, hS.F ht⟩) hS.2.2 dX7_takeOneOf_8

abbrev w_X7_takeStop (cy : Nat → ClassId) (a0 : Nat → Nat) (gr : Int32 × Int32 × Int32 × Int32 × Int32 × Int32 × Int32 × Int32 × Int32) (gtx : (Nat → Int32)) : va_W := [(a0 0, .inr (5, [.ref (a0 1), .int (gr.1), .int (gr.2.1), .int (gr.2.2.1), .int (gr.2.2.2.1), .int (gr.2.2.2.2.1), .int (gr.2.2.2.2.2.1), .int (gr.2.2.2.2.2.2.1), .int (gr.2.2.2.2.2.2.2.1), .int (gr.2.2.2.2.2.2.2.2)])), (a0 1, .inl (cy 0, 600, .inl (gtx)))]
abbrev rm_X7_takeStop : Room := { frames := 2, cells := 0, slots := 0, locals := 46 }
set_option maxHeartbeats 1000000 in
set_option maxRecDepth 100000 in
theorem c_X7_takeStop (l : Launch) (dC : Nat → ClassId) (dI : Nat → Nat → Nat) (cy : Nat → ClassId) (a0 : Nat → Nat) (gr : Int32 × Int32 × Int32 × Int32 × Int32 × Int32 × Int32 × Int32 × Int32) (gtx : (Nat → Int32)) (sz : Nat) (R0 : Int32 × (Int32 × Int32 × Int32 × Int32 × Int32 × Int32 × Int32 × Int32 × Int32)) (h : p_X7_takeStop gr gtx = some R0) : Met l yX7_takeStop wsX7_takeStop rm_X7_takeStop (va_Pc [.ref (a0 0)] (prC dC dI cy (w_X7_takeStop cy a0 gr gtx) sz)) (va_Qi (fun (r : Int32) (u : (Int32 × Int32 × Int32 × Int32 × Int32 × Int32 × Int32 × Int32 × Int32)) => r = R0.1 ∧ u = R0.2) (fun (u : (Int32 × Int32 × Int32 × Int32 × Int32 × Int32 × Int32 × Int32 × Int32)) t => poC dC dI cy (w_X7_takeStop cy a0 u gtx) t) (va_A (w_X7_takeStop cy a0 gr gtx) sz)) 0 0 (va_A (w_X7_takeStop cy a0 gr gtx) sz) := by
  refine Met.ofW (cc := cX7_takeStop) (maxL := 1) (ret := (some .boolean)) (by decide) rfl ?_
  intro p e s m aa below meth c s₁ B hml hv
  obtain ⟨haa, hsz, hP, hK, hD0⟩ := hv
  have hx := B.exec
  have hb := B.bytes
  have hr := B.returns
  have hts := atoms_spec (ws := wsX7_takeStop) B.pre
  have hown : s.vm.findClass RX7 = some m.cls := findClass_of_methodNamed B.named
  have hlocks := B.notSynchronized
  subst hsz
  have hD := hD0.self (sz := s.heap.size)
  obtain ⟨qq, hqq⟩ : ∃ qq, qq = (va_Qi (fun (r : Int32) (u : (Int32 × Int32 × Int32 × Int32 × Int32 × Int32 × Int32 × Int32 × Int32)) => r = R0.1 ∧ u = R0.2) (fun (u : (Int32 × Int32 × Int32 × Int32 × Int32 × Int32 × Int32 × Int32 × Int32)) t => poC dC dI cy (w_X7_takeStop cy a0 u gtx) t) (va_A (w_X7_takeStop cy a0 gr gtx) s.heap.size)) := ⟨_, rfl⟩
  rw [← hqq]
  generalize hAe : va_A (w_X7_takeStop cy a0 gr gtx) s.heap.size = A at hD hqq ⊢
  have hA : ∀ q : Nat, s.heap.size ≤ q → A q := fun q h => by rw [← hAe]; exact Or.inr h
  have hS : va_S A s.heap s.heap [] := va_S.rf
  have hl := lv_entry ([.ref (a0 0)]) (n := 1) (Nat.le_of_ble_eq_true rfl)
  have hE : entryFrame m aa 1 = F0 m 0 ((lg_sl ([.ref (a0 0)]) ++ List.replicate (1 - (lg_sl ([.ref (a0 0)])).length) Slot.unset).toArray) [] := by rw [haa]; exact lg_entry_eq m _ 1
  refine W.eq hE ?_
  generalize (lg_sl ([.ref (a0 0)]) ++ List.replicate (1 - (lg_sl ([.ref (a0 0)])).length) Slot.unset).toArray = ls at hl ⊢
  have hl : lv_has ls 1 [(0, .ref (a0 0))] := hl
  change W p l e rm_X7_takeStop s m aa below meth c s.heap [] 0 0 (MQ below qq aa s 0 0 A) (F0 m 0 ls [])
  have hS0 := hS
  have lk0 := hts (.fieldLink RX7 37 "GoatDoors$Reader" "kind" "I") (by decide +kernel)
  have in_X7 : ∀ w ∈ wsX70, w ∈ wsX7_takeStop := by decide +kernel
  obtain ⟨H, hH⟩ : ∃ H : Heap, H = s.heap := ⟨_, rfl⟩
  obtain ⟨locs, hlocs⟩ : ∃ locs : List Loc, locs = [] := ⟨_, rfl⟩
  have hS : va_S A s.heap H locs := by rw [hH, hlocs]; exact hS
  rw [← hH] at hP
  suffices hg : W p l e rm_X7_takeStop s m aa below meth c H locs 0 0 (MQ below qq aa s 0 0 A) (F0 m 0 ls []) by subst hH; subst hlocs; exact hg
  unfold p_X7_takeStop at h
  refine lv_aload_n hx hb dX7_takeStop_0 rfl (lv_at hl 0 rfl) ?_
  refine va_get (D := (dC, dI)) (ci := 5) (v := .int gr.2.1) (C := RX7) (T := TX7) (N := 10) hx hb hts in_X7 hown hK hP 0 rfl rfl 2 (by decide) lk0 (fun _ h9 => h9) rfl dX7_takeStop_1 ?_
  refine lv_iconst (v := (5 : Int32)) hx hb dX7_takeStop_4 (by decide) ?_
  refine lv_icmp_eq (tgt := 14) hx hb dX7_takeStop_5 (by decide) (fun c1 => ?_) (fun c1 => ?_)
  · rw [if_pos c1] at h
    refine lv_aload_n hx hb dX7_takeStop_14 rfl (lv_at hl 0 rfl) ?_
    obtain ⟨v2, hv3, h⟩ := ok_bind h
    refine cl_vv (w2 := fun (u : (Int32 × Int32 × Int32 × Int32 × Int32 × Int32 × Int32 × Int32 × Int32)) => w_X7_takeStop cy a0 u gtx) (As := []) (rest := []) ⟨hx, hb, hml, hown, hts⟩ (c_X7_step l dC dI cy a0 gr gtx H.size v2 hv3) (cwV 0 hts gX7_takeStop_X7_step rfl rfl rfl (by decide +kernel) ⟨Nat.le_of_ble_eq_true rfl, Nat.le_of_ble_eq_true rfl⟩) (va_recv hK hP (ci := 5) (q0 := 0) rfl rfl) cl_blind (cl_pre hK hP hD [0, 1] (by decide) rfl) hP hD hS hA [0, 1] rfl rfl hl.1 rfl (lv_room (Nat.le_of_ble_eq_true rfl)) dX7_takeStop_15 ⟨Nat.le_of_ble_eq_true rfl, Nat.le_of_ble_eq_true rfl⟩ ⟨rfl, rfl⟩ (fun _ => updM [0, 1] [] [] 2 rfl rfl rfl rfl rfl (by decide +kernel) (by decide +kernel) rfl) (fun u H locs hw hP hD hS => ?_)
    have hw := hw.symm
    subst hw
    have hP : va_P (dC, dI) vwCl (w_X7_takeStop cy a0 v2 gtx) H := hP
    have hD : va_D A (w_X7_takeStop cy a0 v2 gtx) := hD
    refine lv_iconst (v := (1 : Int32)) hx hb dX7_takeStop_18 (by decide) ?_
    exact W.zret (v := (1 : Int32)) (ty := .boolean) hx hb hr rfl (fun t ht hW => by rw [hqq]; have hh := Option.some.inj h; exact ⟨⟨(1 : Int32), (v2), rfl, ⟨fst_of hh, snd_of hh⟩, by rw [ht]; exact hP, va_K.moved hW.alike hK⟩, hS.F ht⟩) hS.2.2 dX7_takeStop_19
  · rw [if_neg c1] at h
    refine lv_aload_n hx hb dX7_takeStop_8 rfl (lv_at hl 0 rfl) ?_
    refine lv_iconst (v := (1 : Int32)) hx hb dX7_takeStop_9 (by decide) ?_
    obtain ⟨v4, hv5, h⟩ := ok_bind h
    refine cl_vi (w2 := fun (u : (Int32 × Int32 × Int32 × Int32 × Int32 × Int32 × Int32 × Int32 × Int32)) => w_X7_takeStop cy a0 u gtx) (As := [.int (1 : Int32)]) (rest := []) ⟨hx, hb, hml, hown, hts⟩ (c_X7_refuse l dC dI cy a0 gr (1 : Int32) H.size v4 hv5) (cwV 1 hts gX7_takeStop_X7_refuse rfl rfl rfl (by decide +kernel) ⟨Nat.le_of_ble_eq_true rfl, Nat.le_of_ble_eq_true rfl⟩) (va_recv hK hP (ci := 5) (q0 := 0) rfl rfl) cl_blind (cl_pre hK hP hD [0] (by decide) rfl) hP hD hS hA [0] rfl rfl hl.1 rfl (lv_room (Nat.le_of_ble_eq_true rfl)) dX7_takeStop_10 ⟨Nat.le_of_ble_eq_true rfl, Nat.le_of_ble_eq_true rfl⟩ ⟨rfl, rfl⟩ (fun _ => updM [0] [1] [(a0 1, .inl (cy 0, 600, .inl (gtx)))] 2 rfl rfl rfl rfl rfl (by decide +kernel) (by decide +kernel) rfl) (fun r u H locs hw hP hD hS => ?_)
    obtain ⟨rfl, rfl⟩ := hw
    have hP : va_P (dC, dI) vwCl (w_X7_takeStop cy a0 v4.2 gtx) H := hP
    have hD : va_D A (w_X7_takeStop cy a0 v4.2 gtx) := hD
    obtain ⟨hz6, h⟩ := ok_if h
    exact W.zret (v := v4.1) (ty := .boolean) hx hb hr (isZ_nar hz6) (fun t ht hW => by rw [hqq]; have hh := Option.some.inj h; exact ⟨⟨v4.1, (v4.2), rfl, ⟨fst_of hh, snd_of hh⟩, by rw [ht]; exact hP, va_K.moved hW.alike hK⟩, hS.F ht⟩) hS.2.2 dX7_takeStop_13

abbrev w_X7_takeRow (cy : Nat → ClassId) (a0 : Nat → Nat) (gr : Int32 × Int32 × Int32 × Int32 × Int32 × Int32 × Int32 × Int32 × Int32) (gtx : (Nat → Int32)) : va_W := [(a0 0, .inr (5, [.ref (a0 1), .int (gr.1), .int (gr.2.1), .int (gr.2.2.1), .int (gr.2.2.2.1), .int (gr.2.2.2.2.1), .int (gr.2.2.2.2.2.1), .int (gr.2.2.2.2.2.2.1), .int (gr.2.2.2.2.2.2.2.1), .int (gr.2.2.2.2.2.2.2.2)])), (a0 1, .inl (cy 0, 600, .inl (gtx)))]
abbrev rm_X7_takeRow : Room := { frames := 2, cells := 0, slots := 0, locals := 46 }
set_option maxHeartbeats 1000000 in
set_option maxRecDepth 100000 in
theorem c_X7_takeRow (l : Launch) (dC : Nat → ClassId) (dI : Nat → Nat → Nat) (cy : Nat → ClassId) (a0 : Nat → Nat) (gr : Int32 × Int32 × Int32 × Int32 × Int32 × Int32 × Int32 × Int32 × Int32) (gtx : (Nat → Int32)) (sz : Nat) (R0 : Int32 × (Int32 × Int32 × Int32 × Int32 × Int32 × Int32 × Int32 × Int32 × Int32)) (h : p_X7_takeRow gr gtx = some R0) : Met l yX7_takeRow wsX7_takeRow rm_X7_takeRow (va_Pc [.ref (a0 0)] (prC dC dI cy (w_X7_takeRow cy a0 gr gtx) sz)) (va_Qi (fun (r : Int32) (u : (Int32 × Int32 × Int32 × Int32 × Int32 × Int32 × Int32 × Int32 × Int32)) => r = R0.1 ∧ u = R0.2) (fun (u : (Int32 × Int32 × Int32 × Int32 × Int32 × Int32 × Int32 × Int32 × Int32)) t => poC dC dI cy (w_X7_takeRow cy a0 u gtx) t) (va_A (w_X7_takeRow cy a0 gr gtx) sz)) 0 0 (va_A (w_X7_takeRow cy a0 gr gtx) sz) := by
  refine Met.ofW (cc := cX7_takeRow) (maxL := 1) (ret := (some .boolean)) (by decide) rfl ?_
  intro p e s m aa below meth c s₁ B hml hv
  obtain ⟨haa, hsz, hP, hK, hD0⟩ := hv
  have hx := B.exec
  have hb := B.bytes
  have hr := B.returns
  have hts := atoms_spec (ws := wsX7_takeRow) B.pre
  have hown : s.vm.findClass RX7 = some m.cls := findClass_of_methodNamed B.named
  have hlocks := B.notSynchronized
  subst hsz
  have hD := hD0.self (sz := s.heap.size)
  obtain ⟨qq, hqq⟩ : ∃ qq, qq = (va_Qi (fun (r : Int32) (u : (Int32 × Int32 × Int32 × Int32 × Int32 × Int32 × Int32 × Int32 × Int32)) => r = R0.1 ∧ u = R0.2) (fun (u : (Int32 × Int32 × Int32 × Int32 × Int32 × Int32 × Int32 × Int32 × Int32)) t => poC dC dI cy (w_X7_takeRow cy a0 u gtx) t) (va_A (w_X7_takeRow cy a0 gr gtx) s.heap.size)) := ⟨_, rfl⟩
  rw [← hqq]
  generalize hAe : va_A (w_X7_takeRow cy a0 gr gtx) s.heap.size = A at hD hqq ⊢
  have hA : ∀ q : Nat, s.heap.size ≤ q → A q := fun q h => by rw [← hAe]; exact Or.inr h
  have hS : va_S A s.heap s.heap [] := va_S.rf
  have hl := lv_entry ([.ref (a0 0)]) (n := 1) (Nat.le_of_ble_eq_true rfl)
  have hE : entryFrame m aa 1 = F0 m 0 ((lg_sl ([.ref (a0 0)]) ++ List.replicate (1 - (lg_sl ([.ref (a0 0)])).length) Slot.unset).toArray) [] := by rw [haa]; exact lg_entry_eq m _ 1
  refine W.eq hE ?_
  generalize (lg_sl ([.ref (a0 0)]) ++ List.replicate (1 - (lg_sl ([.ref (a0 0)])).length) Slot.unset).toArray = ls at hl ⊢
  have hl : lv_has ls 1 [(0, .ref (a0 0))] := hl
  change W p l e rm_X7_takeRow s m aa below meth c s.heap [] 0 0 (MQ below qq aa s 0 0 A) (F0 m 0 ls [])
  have hS0 := hS
  have lk0 := hts (.fieldLink RX7 37 "GoatDoors$Reader" "kind" "I") (by decide +kernel)
  have lk1 := hts (.fieldLink RX7 25 "GoatDoors$Reader" "behind" "I") (by decide +kernel)
  have lk2 := hts (.fieldLink RX7 40 "GoatDoors$Reader" "start" "I") (by decide +kernel)
  have lk3 := hts (.fieldLink RX7 80 "GoatDoors$Reader" "rowStart" "I") (by decide +kernel)
  have lk4 := hts (.fieldLink RX7 83 "GoatDoors$Reader" "rowLength" "I") (by decide +kernel)
  have in_X7 : ∀ w ∈ wsX70, w ∈ wsX7_takeRow := by decide +kernel
  obtain ⟨H, hH⟩ : ∃ H : Heap, H = s.heap := ⟨_, rfl⟩
  obtain ⟨locs, hlocs⟩ : ∃ locs : List Loc, locs = [] := ⟨_, rfl⟩
  have hS : va_S A s.heap H locs := by rw [hH, hlocs]; exact hS
  rw [← hH] at hP
  suffices hg : W p l e rm_X7_takeRow s m aa below meth c H locs 0 0 (MQ below qq aa s 0 0 A) (F0 m 0 ls []) by subst hH; subst hlocs; exact hg
  unfold p_X7_takeRow at h
  refine lv_aload_n hx hb dX7_takeRow_0 rfl (lv_at hl 0 rfl) ?_
  refine va_get (D := (dC, dI)) (ci := 5) (v := .int gr.2.1) (C := RX7) (T := TX7) (N := 10) hx hb hts in_X7 hown hK hP 0 rfl rfl 2 (by decide) lk0 (fun _ h9 => h9) rfl dX7_takeRow_1 ?_
  refine lv_iconst (v := (4 : Int32)) hx hb dX7_takeRow_4 (by decide) ?_
  refine lv_icmp_eq (tgt := 14) hx hb dX7_takeRow_5 (by decide) (fun c1 => ?_) (fun c1 => ?_)
  · rw [if_pos c1] at h
    refine lv_aload_n hx hb dX7_takeRow_14 rfl (lv_at hl 0 rfl) ?_
    refine va_get (D := (dC, dI)) (ci := 5) (v := .int gr.2.2.2.1) (C := RX7) (T := TX7) (N := 10) hx hb hts in_X7 hown hK hP 0 rfl rfl 4 (by decide) lk1 (fun _ h9 => h9) rfl dX7_takeRow_15 ?_
    refine lv_aload_n hx hb dX7_takeRow_18 rfl (lv_at hl 0 rfl) ?_
    refine va_get (D := (dC, dI)) (ci := 5) (v := .int gr.2.2.1) (C := RX7) (T := TX7) (N := 10) hx hb hts in_X7 hown hK hP 0 rfl rfl 3 (by decide) lk2 (fun _ h9 => h9) rfl dX7_takeRow_19 ?_
    refine lv_isub hx hb dX7_takeRow_22 ?_
    refine lv_iconst (v := (1 : Int32)) hx hb dX7_takeRow_23 (by decide) ?_
    refine lv_isub hx hb dX7_takeRow_24 ?_
    refine lv_iconst (v := (5 : Int32)) hx hb dX7_takeRow_25 (by decide) ?_
    refine lv_icmp_le (tgt := 35) hx hb dX7_takeRow_26 (by decide) (fun c2 => ?_) (fun c2 => ?_)
    · rw [if_pos c2] at h
      refine lv_aload_n hx hb dX7_takeRow_35 rfl (lv_at hl 0 rfl) ?_
      refine lv_aload_n hx hb dX7_takeRow_36 rfl (lv_at hl 0 rfl) ?_
      refine va_get (D := (dC, dI)) (ci := 5) (v := .int gr.2.2.1) (C := RX7) (T := TX7) (N := 10) hx hb hts in_X7 hown hK hP 0 rfl rfl 3 (by decide) lk2 (fun _ h9 => h9) rfl dX7_takeRow_37 ?_
      refine lv_iconst (v := (1 : Int32)) hx hb dX7_takeRow_40 (by decide) ?_
      refine lv_iadd hx hb dX7_takeRow_41 ?_
      refine va_put (D := (dC, dI)) (ci := 5) (v := .int (gr.2.2.1 + (1 : Int32))) (ty := .int) (C := RX7) (T := TX7) (N := 10) hx hb hts in_X7 tyX7 tyX7_ok nmX7 hown hK hP hD hS 0 rfl rfl 9 (by decide) lk3 (fun _ h9 => h9) rfl (by decide +kernel) rfl rfl (Nat.le_of_ble_eq_true rfl) dX7_takeRow_42 (fun H locs hP hD hS => ?_)
      have hP : va_P (dC, dI) vwCl (w_X7_takeRow cy a0 ((gr.1, gr.2.1, gr.2.2.1, gr.2.2.2.1, gr.2.2.2.2.1, gr.2.2.2.2.2.1, gr.2.2.2.2.2.2.1, gr.2.2.2.2.2.2.2.1, (gr.2.2.1 + (1 : Int32)))) gtx) H := hP
      have hD : va_D A (w_X7_takeRow cy a0 ((gr.1, gr.2.1, gr.2.2.1, gr.2.2.2.1, gr.2.2.2.2.1, gr.2.2.2.2.2.1, gr.2.2.2.2.2.2.1, gr.2.2.2.2.2.2.2.1, (gr.2.2.1 + (1 : Int32)))) gtx) := hD
      refine lv_aload_n hx hb dX7_takeRow_45 rfl (lv_at hl 0 rfl) ?_
      refine lv_aload_n hx hb dX7_takeRow_46 rfl (lv_at hl 0 rfl) ?_
      refine va_get (D := (dC, dI)) (ci := 5) (v := .int gr.2.2.2.1) (C := RX7) (T := TX7) (N := 10) hx hb hts in_X7 hown hK hP 0 rfl rfl 4 (by decide) lk1 (fun _ h9 => h9) rfl dX7_takeRow_47 ?_
      refine lv_aload_n hx hb dX7_takeRow_50 rfl (lv_at hl 0 rfl) ?_
      refine va_get (D := (dC, dI)) (ci := 5) (v := .int (gr.2.2.1 + (1 : Int32))) (C := RX7) (T := TX7) (N := 10) hx hb hts in_X7 hown hK hP 0 rfl rfl 9 (by decide) lk3 (fun _ h9 => h9) rfl dX7_takeRow_51 ?_
      refine lv_isub hx hb dX7_takeRow_54 ?_
      refine va_put (D := (dC, dI)) (ci := 5) (v := .int (gr.2.2.2.1 - (gr.2.2.1 + (1 : Int32)))) (ty := .int) (C := RX7) (T := TX7) (N := 10) hx hb hts in_X7 tyX7 tyX7_ok nmX7 hown hK hP hD hS 0 rfl rfl 8 (by decide) lk4 (fun _ h9 => h9) rfl (by decide +kernel) rfl rfl (Nat.le_of_ble_eq_true rfl) dX7_takeRow_55 (fun H locs hP hD hS => ?_)
      have hP : va_P (dC, dI) vwCl (w_X7_takeRow cy a0 ((gr.1, gr.2.1, gr.2.2.1, gr.2.2.2.1, gr.2.2.2.2.1, gr.2.2.2.2.2.1, gr.2.2.2.2.2.2.1, (gr.2.2.2.1 - (gr.2.2.1 + (1 : Int32))), (gr.2.2.1 + (1 : Int32)))) gtx) H := hP
      have hD : va_D A (w_X7_takeRow cy a0 ((gr.1, gr.2.1, gr.2.2.1, gr.2.2.2.1, gr.2.2.2.2.1, gr.2.2.2.2.2.1, gr.2.2.2.2.2.2.1, (gr.2.2.2.1 - (gr.2.2.1 + (1 : Int32))), (gr.2.2.1 + (1 : Int32)))) gtx) := hD
      refine lv_aload_n hx hb dX7_takeRow_58 rfl (lv_at hl 0 rfl) ?_
      obtain ⟨v3, hv4, h⟩ := ok_bind h
      refine cl_vv (w2 := fun (u : (Int32 × Int32 × Int32 × Int32 × Int32 × Int32 × Int32 × Int32 × Int32)) => w_X7_takeRow cy a0 u gtx) (As := []) (rest := []) ⟨hx, hb, hml, hown, hts⟩ (c_X7_step l dC dI cy a0 (gr.1, gr.2.1, gr.2.2.1, gr.2.2.2.1, gr.2.2.2.2.1, gr.2.2.2.2.2.1, gr.2.2.2.2.2.2.1, (gr.2.2.2.1 - (gr.2.2.1 + (1 : Int32))), (gr.2.2.1 + (1 : Int32))) gtx H.size v3 hv4) (cwV 0 hts gX7_takeRow_X7_step rfl rfl rfl (by decide +kernel) ⟨Nat.le_of_ble_eq_true rfl, Nat.le_of_ble_eq_true rfl⟩) (va_recv hK hP (ci := 5) (q0 := 0) rfl rfl) cl_blind (cl_pre hK hP hD [0, 1] (by decide) rfl) hP hD hS hA [0, 1] rfl rfl hl.1 rfl (lv_room (Nat.le_of_ble_eq_true rfl)) dX7_takeRow_59 ⟨Nat.le_of_ble_eq_true rfl, Nat.le_of_ble_eq_true rfl⟩ ⟨rfl, rfl⟩ (fun _ => updM [0, 1] [] [] 2 rfl rfl rfl rfl rfl (by decide +kernel) (by decide +kernel) rfl) (fun u H locs hw hP hD hS => ?_)
      have hw := hw.symm
      subst hw
      have hP : va_P (dC, dI) vwCl (w_X7_takeRow cy a0 v3 gtx) H := hP
      have hD : va_D A (w_X7_takeRow cy a0 v3 gtx) := hD
      refine lv_iconst (v := (1 : Int32)) hx hb dX7_takeRow_62 (by decide) ?_
      exact W.zret (v := (1 : Int32)) (ty := .boolean) hx hb hr rfl (fun t ht hW => by rw [hqq]; have hh := Option.some.inj h; exact ⟨⟨(1 : Int32), (v3), rfl, ⟨fst_of hh, snd_of hh⟩, by rw [ht]; exact hP, va_K.moved hW.alike hK⟩, hS.F ht⟩) hS.2.2 dX7_takeRow_63
    · rw [if_neg c2] at h
      refine lv_aload_n hx hb dX7_takeRow_29 rfl (lv_at hl 0 rfl) ?_
      refine lv_iconst (v := (2 : Int32)) hx hb dX7_takeRow_30 (by decide) ?_
      obtain ⟨v5, hv6, h⟩ := ok_bind h
      refine cl_vi (w2 := fun (u : (Int32 × Int32 × Int32 × Int32 × Int32 × Int32 × Int32 × Int32 × Int32)) => w_X7_takeRow cy a0 u gtx) (As := [.int (2 : Int32)]) (rest := []) ⟨hx, hb, hml, hown, hts⟩ (c_X7_refuse l dC dI cy a0 gr (2 : Int32) H.size v5 hv6) (cwV 1 hts gX7_takeRow_X7_refuse rfl rfl rfl (by decide +kernel) ⟨Nat.le_of_ble_eq_true rfl, Nat.le_of_ble_eq_true rfl⟩) (va_recv hK hP (ci := 5) (q0 := 0) rfl rfl) cl_blind (cl_pre hK hP hD [0] (by decide) rfl) hP hD hS hA [0] rfl rfl hl.1 rfl (lv_room (Nat.le_of_ble_eq_true rfl)) dX7_takeRow_31 ⟨Nat.le_of_ble_eq_true rfl, Nat.le_of_ble_eq_true rfl⟩ ⟨rfl, rfl⟩ (fun _ => updM [0] [1] [(a0 1, .inl (cy 0, 600, .inl (gtx)))] 2 rfl rfl rfl rfl rfl (by decide +kernel) (by decide +kernel) rfl) (fun r u H locs hw hP hD hS => ?_)
      obtain ⟨rfl, rfl⟩ := hw
      have hP : va_P (dC, dI) vwCl (w_X7_takeRow cy a0 v5.2 gtx) H := hP
      have hD : va_D A (w_X7_takeRow cy a0 v5.2 gtx) := hD
      obtain ⟨hz7, h⟩ := ok_if h
      exact W.zret (v := v5.1) (ty := .boolean) hx hb hr (isZ_nar hz7) (fun t ht hW => by rw [hqq]; have hh := Option.some.inj h; exact ⟨⟨v5.1, (v5.2), rfl, ⟨fst_of hh, snd_of hh⟩, by rw [ht]; exact hP, va_K.moved hW.alike hK⟩, hS.F ht⟩) hS.2.2 dX7_takeRow_34
  · rw [if_neg c1] at h
    refine lv_aload_n hx hb dX7_takeRow_8 rfl (lv_at hl 0 rfl) ?_
    refine lv_iconst (v := (1 : Int32)) hx hb dX7_takeRow_9 (by decide) ?_
    obtain ⟨v8, hv9, h⟩ := ok_bind h
    refine cl_vi (w2 := fun (u : (Int32 × Int32 × Int32 × Int32 × Int32 × Int32 × Int32 × Int32 × Int32)) => w_X7_takeRow cy a0 u gtx) (As := [.int (1 : Int32)]) (rest := []) ⟨hx, hb, hml, hown, hts⟩ (c_X7_refuse l dC dI cy a0 gr (1 : Int32) H.size v8 hv9) (cwV 1 hts gX7_takeRow_X7_refuse rfl rfl rfl (by decide +kernel) ⟨Nat.le_of_ble_eq_true rfl, Nat.le_of_ble_eq_true rfl⟩) (va_recv hK hP (ci := 5) (q0 := 0) rfl rfl) cl_blind (cl_pre hK hP hD [0] (by decide) rfl) hP hD hS hA [0] rfl rfl hl.1 rfl (lv_room (Nat.le_of_ble_eq_true rfl)) dX7_takeRow_10 ⟨Nat.le_of_ble_eq_true rfl, Nat.le_of_ble_eq_true rfl⟩ ⟨rfl, rfl⟩ (fun _ => updM [0] [1] [(a0 1, .inl (cy 0, 600, .inl (gtx)))] 2 rfl rfl rfl rfl rfl (by decide +kernel) (by decide +kernel) rfl) (fun r u H locs hw hP hD hS => ?_)
    obtain ⟨rfl, rfl⟩ := hw
    have hP : va_P (dC, dI) vwCl (w_X7_takeRow cy a0 v8.2 gtx) H := hP
    have hD : va_D A (w_X7_takeRow cy a0 v8.2 gtx) := hD
    obtain ⟨hz10, h⟩ := ok_if h
    exact W.zret (v := v8.1) (ty := .boolean) hx hb hr (isZ_nar hz10) (fun t ht hW => by rw [hqq]; have hh := Option.some.inj h; exact ⟨⟨v8.1, (v8.2), rfl, ⟨fst_of hh, snd_of hh⟩, by rw [ht]; exact hP, va_K.moved hW.alike hK⟩, hS.F ht⟩) hS.2.2 dX7_takeRow_13

abbrev w_X7_takeNumber (cy : Nat → ClassId) (a0 : Nat → Nat) (gr : Int32 × Int32 × Int32 × Int32 × Int32 × Int32 × Int32 × Int32 × Int32) (gtx : (Nat → Int32)) : va_W := [(a0 0, .inr (5, [.ref (a0 1), .int (gr.1), .int (gr.2.1), .int (gr.2.2.1), .int (gr.2.2.2.1), .int (gr.2.2.2.2.1), .int (gr.2.2.2.2.2.1), .int (gr.2.2.2.2.2.2.1), .int (gr.2.2.2.2.2.2.2.1), .int (gr.2.2.2.2.2.2.2.2)])), (a0 1, .inl (cy 0, 600, .inl (gtx)))]
abbrev rm_X7_takeNumber : Room := { frames := 2, cells := 0, slots := 0, locals := 46 }
set_option maxHeartbeats 1000000 in
set_option maxRecDepth 100000 in
theorem c_X7_takeNumber (l : Launch) (dC : Nat → ClassId) (dI : Nat → Nat → Nat) (cy : Nat → ClassId) (a0 : Nat → Nat) (gr : Int32 × Int32 × Int32 × Int32 × Int32 × Int32 × Int32 × Int32 × Int32) (gtx : (Nat → Int32)) (x1 : Int32) (x2 : Int32) (sz : Nat) (R0 : Int32 × (Int32 × Int32 × Int32 × Int32 × Int32 × Int32 × Int32 × Int32 × Int32)) (h : p_X7_takeNumber gr gtx x1 x2 = some R0) : Met l yX7_takeNumber wsX7_takeNumber rm_X7_takeNumber (va_Pc [.ref (a0 0), .int x1, .int x2] (prC dC dI cy (w_X7_takeNumber cy a0 gr gtx) sz)) (va_Qi (fun (r : Int32) (u : (Int32 × Int32 × Int32 × Int32 × Int32 × Int32 × Int32 × Int32 × Int32)) => r = R0.1 ∧ u = R0.2) (fun (u : (Int32 × Int32 × Int32 × Int32 × Int32 × Int32 × Int32 × Int32 × Int32)) t => poC dC dI cy (w_X7_takeNumber cy a0 u gtx) t) (va_A (w_X7_takeNumber cy a0 gr gtx) sz)) 0 0 (va_A (w_X7_takeNumber cy a0 gr gtx) sz) := by
  refine Met.ofW (cc := cX7_takeNumber) (maxL := 3) (ret := (some .boolean)) (by decide) rfl ?_
  intro p e s m aa below meth c s₁ B hml hv
  obtain ⟨haa, hsz, hP, hK, hD0⟩ := hv
  have hx := B.exec
  have hb := B.bytes
  have hr := B.returns
  have hts := atoms_spec (ws := wsX7_takeNumber) B.pre
  have hown : s.vm.findClass RX7 = some m.cls := findClass_of_methodNamed B.named
  have hlocks := B.notSynchronized
  subst hsz
  have hD := hD0.self (sz := s.heap.size)
  obtain ⟨qq, hqq⟩ : ∃ qq, qq = (va_Qi (fun (r : Int32) (u : (Int32 × Int32 × Int32 × Int32 × Int32 × Int32 × Int32 × Int32 × Int32)) => r = R0.1 ∧ u = R0.2) (fun (u : (Int32 × Int32 × Int32 × Int32 × Int32 × Int32 × Int32 × Int32 × Int32)) t => poC dC dI cy (w_X7_takeNumber cy a0 u gtx) t) (va_A (w_X7_takeNumber cy a0 gr gtx) s.heap.size)) := ⟨_, rfl⟩
  rw [← hqq]
  generalize hAe : va_A (w_X7_takeNumber cy a0 gr gtx) s.heap.size = A at hD hqq ⊢
  have hA : ∀ q : Nat, s.heap.size ≤ q → A q := fun q h => by rw [← hAe]; exact Or.inr h
  have hS : va_S A s.heap s.heap [] := va_S.rf
  have hl := lv_entry ([.ref (a0 0), .int x1, .int x2]) (n := 3) (Nat.le_of_ble_eq_true rfl)
  have hE : entryFrame m aa 3 = F0 m 0 ((lg_sl ([.ref (a0 0), .int x1, .int x2]) ++ List.replicate (3 - (lg_sl ([.ref (a0 0), .int x1, .int x2])).length) Slot.unset).toArray) [] := by rw [haa]; exact lg_entry_eq m _ 3
  refine W.eq hE ?_
  generalize (lg_sl ([.ref (a0 0), .int x1, .int x2]) ++ List.replicate (3 - (lg_sl ([.ref (a0 0), .int x1, .int x2])).length) Slot.unset).toArray = ls at hl ⊢
  have hl : lv_has ls 3 [(0, .ref (a0 0)), (1, .int x1), (2, .int x2)] := hl
  change W p l e rm_X7_takeNumber s m aa below meth c s.heap [] 0 0 (MQ below qq aa s 0 0 A) (F0 m 0 ls [])
  have hS0 := hS
  have lk0 := hts (.fieldLink RX7 77 "GoatDoors$Reader" "value" "I") (by decide +kernel)
  have in_X7 : ∀ w ∈ wsX70, w ∈ wsX7_takeNumber := by decide +kernel
  have c25 : ∀ (_u : Unit), ∀ (gr : Int32 × Int32 × Int32 × Int32 × Int32 × Int32 × Int32 × Int32 × Int32) (H : Heap) (locs : List Loc) (ls : Array Slot), p_X7_takeNumber_25 gtx gr = some R0 → va_P (dC, dI) vwCl (w_X7_takeNumber cy a0 gr gtx) H → va_D A (w_X7_takeNumber cy a0 gr gtx) → va_S A s.heap H locs → lv_has ls 3 [(0, .ref (a0 0))] → W p l e rm_X7_takeNumber s m aa below meth c H locs 0 0 (MQ below qq aa s 0 0 A) (F0 m 25 ls []) := by
    intro _ gr H locs ls h hP hD hS hl
    unfold p_X7_takeNumber_25 at h
    refine lv_aload_n hx hb dX7_takeNumber_25 rfl (lv_at hl 0 rfl) ?_
    refine lv_iconst (v := (2 : Int32)) hx hb dX7_takeNumber_26 (by decide) ?_
    obtain ⟨v1, hv2, h⟩ := ok_bind h
    refine cl_vi (w2 := fun (u : (Int32 × Int32 × Int32 × Int32 × Int32 × Int32 × Int32 × Int32 × Int32)) => w_X7_takeNumber cy a0 u gtx) (As := [.int (2 : Int32)]) (rest := []) ⟨hx, hb, hml, hown, hts⟩ (c_X7_refuse l dC dI cy a0 gr (2 : Int32) H.size v1 hv2) (cwV 1 hts gX7_takeNumber_X7_refuse rfl rfl rfl (by decide +kernel) ⟨Nat.le_of_ble_eq_true rfl, Nat.le_of_ble_eq_true rfl⟩) (va_recv hK hP (ci := 5) (q0 := 0) rfl rfl) cl_blind (cl_pre hK hP hD [0] (by decide) rfl) hP hD hS hA [0] rfl rfl hl.1 rfl (lv_room (Nat.le_of_ble_eq_true rfl)) dX7_takeNumber_27 ⟨Nat.le_of_ble_eq_true rfl, Nat.le_of_ble_eq_true rfl⟩ ⟨rfl, rfl⟩ (fun _ => updM [0] [1] [(a0 1, .inl (cy 0, 600, .inl (gtx)))] 2 rfl rfl rfl rfl rfl (by decide +kernel) (by decide +kernel) rfl) (fun r u H locs hw hP hD hS => ?_)
    obtain ⟨rfl, rfl⟩ := hw
    have hP : va_P (dC, dI) vwCl (w_X7_takeNumber cy a0 v1.2 gtx) H := hP
    have hD : va_D A (w_X7_takeNumber cy a0 v1.2 gtx) := hD
    obtain ⟨hz3, h⟩ := ok_if h
    exact W.zret (v := v1.1) (ty := .boolean) hx hb hr (isZ_nar hz3) (fun t ht hW => by rw [hqq]; have hh := Option.some.inj h; exact ⟨⟨v1.1, (v1.2), rfl, ⟨fst_of hh, snd_of hh⟩, by rw [ht]; exact hP, va_K.moved hW.alike hK⟩, hS.F ht⟩) hS.2.2 dX7_takeNumber_30
  obtain ⟨H, hH⟩ : ∃ H : Heap, H = s.heap := ⟨_, rfl⟩
  obtain ⟨locs, hlocs⟩ : ∃ locs : List Loc, locs = [] := ⟨_, rfl⟩
  have hS : va_S A s.heap H locs := by rw [hH, hlocs]; exact hS
  rw [← hH] at hP
  suffices hg : W p l e rm_X7_takeNumber s m aa below meth c H locs 0 0 (MQ below qq aa s 0 0 A) (F0 m 0 ls []) by subst hH; subst hlocs; exact hg
  unfold p_X7_takeNumber at h
  refine lv_aload_n hx hb dX7_takeNumber_0 rfl (lv_at hl 0 rfl) ?_
  obtain ⟨v1, hv2, h⟩ := ok_bind h
  refine cl_vi (w2 := fun (u : (Int32 × Int32 × Int32 × Int32 × Int32 × Int32 × Int32 × Int32 × Int32)) => w_X7_takeNumber cy a0 u gtx) (As := []) (rest := []) ⟨hx, hb, hml, hown, hts⟩ (c_X7_isShortNumber l dC dI cy a0 gr gtx H.size v1 hv2) (cwV 0 hts gX7_takeNumber_X7_isShortNumber rfl rfl rfl (by decide +kernel) ⟨Nat.le_of_ble_eq_true rfl, Nat.le_of_ble_eq_true rfl⟩) (va_recv hK hP (ci := 5) (q0 := 0) rfl rfl) cl_blind (cl_pre hK hP hD [0, 1] (by decide) rfl) hP hD hS hA [0, 1] rfl rfl hl.1 rfl (lv_room (Nat.le_of_ble_eq_true rfl)) dX7_takeNumber_1 ⟨Nat.le_of_ble_eq_true rfl, Nat.le_of_ble_eq_true rfl⟩ ⟨rfl, rfl⟩ (fun _ => updM [0, 1] [] [] 2 rfl rfl rfl rfl rfl (by decide +kernel) (by decide +kernel) rfl) (fun r u H locs hw hP hD hS => ?_)
  obtain ⟨rfl, rfl⟩ := hw
  have hP : va_P (dC, dI) vwCl (w_X7_takeNumber cy a0 v1.2 gtx) H := hP
  have hD : va_D A (w_X7_takeNumber cy a0 v1.2 gtx) := hD
  refine lv_if_ne (tgt := 9) hx hb dX7_takeNumber_4 (by decide) (fun c3 => ?_) (fun c3 => ?_)
  · rw [if_neg c3] at h
    refine lv_aload_n hx hb dX7_takeNumber_9 rfl (lv_at hl 0 rfl) ?_
    refine va_get (D := (dC, dI)) (ci := 5) (v := .int v1.2.2.2.2.2.2.2.1) (C := RX7) (T := TX7) (N := 10) hx hb hts in_X7 hown hK hP 0 rfl rfl 7 (by decide) lk0 (fun _ h9 => h9) rfl dX7_takeNumber_10 ?_
    refine lv_iload_n hx hb dX7_takeNumber_13 rfl (lv_at hl 1 rfl) ?_
    refine lv_icmp_lt (tgt := 25) hx hb dX7_takeNumber_14 (by decide) (fun c4 => ?_) (fun c4 => ?_)
    · rw [if_pos c4] at h
      exact c25 () v1.2 H locs ls h hP hD hS (lv_sub hl [0] rfl)
    · rw [if_neg c4] at h
      refine lv_aload_n hx hb dX7_takeNumber_17 rfl (lv_at hl 0 rfl) ?_
      refine va_get (D := (dC, dI)) (ci := 5) (v := .int v1.2.2.2.2.2.2.2.1) (C := RX7) (T := TX7) (N := 10) hx hb hts in_X7 hown hK hP 0 rfl rfl 7 (by decide) lk0 (fun _ h9 => h9) rfl dX7_takeNumber_18 ?_
      refine lv_iload_n hx hb dX7_takeNumber_21 rfl (lv_at hl 2 rfl) ?_
      refine lv_icmp_le (tgt := 31) hx hb dX7_takeNumber_22 (by decide) (fun c5 => ?_) (fun c5 => ?_)
      · rw [if_pos c5] at h
        refine lv_aload_n hx hb dX7_takeNumber_31 rfl (lv_at hl 0 rfl) ?_
        obtain ⟨v6, hv7, h⟩ := ok_bind h
        refine cl_vv (w2 := fun (u : (Int32 × Int32 × Int32 × Int32 × Int32 × Int32 × Int32 × Int32 × Int32)) => w_X7_takeNumber cy a0 u gtx) (As := []) (rest := []) ⟨hx, hb, hml, hown, hts⟩ (c_X7_step l dC dI cy a0 v1.2 gtx H.size v6 hv7) (cwV 0 hts gX7_takeNumber_X7_step rfl rfl rfl (by decide +kernel) ⟨Nat.le_of_ble_eq_true rfl, Nat.le_of_ble_eq_true rfl⟩) (va_recv hK hP (ci := 5) (q0 := 0) rfl rfl) cl_blind (cl_pre hK hP hD [0, 1] (by decide) rfl) hP hD hS hA [0, 1] rfl rfl hl.1 rfl (lv_room (Nat.le_of_ble_eq_true rfl)) dX7_takeNumber_32 ⟨Nat.le_of_ble_eq_true rfl, Nat.le_of_ble_eq_true rfl⟩ ⟨rfl, rfl⟩ (fun _ => updM [0, 1] [] [] 2 rfl rfl rfl rfl rfl (by decide +kernel) (by decide +kernel) rfl) (fun u H locs hw hP hD hS => ?_)
        have hw := hw.symm
        subst hw
        have hP : va_P (dC, dI) vwCl (w_X7_takeNumber cy a0 v6 gtx) H := hP
        have hD : va_D A (w_X7_takeNumber cy a0 v6 gtx) := hD
        refine lv_iconst (v := (1 : Int32)) hx hb dX7_takeNumber_35 (by decide) ?_
        exact W.zret (v := (1 : Int32)) (ty := .boolean) hx hb hr rfl (fun t ht hW => by rw [hqq]; have hh := Option.some.inj h; exact ⟨⟨(1 : Int32), (v6), rfl, ⟨fst_of hh, snd_of hh⟩, by rw [ht]; exact hP, va_K.moved hW.alike hK⟩, hS.F ht⟩) hS.2.2 dX7_takeNumber_36
      · rw [if_neg c5] at h
        exact c25 () v1.2 H locs ls h hP hD hS (lv_sub hl [0] rfl)
  · rw [if_pos c3] at h
    refine lv_iconst (v := (0 : Int32)) hx hb dX7_takeNumber_7 (by decide) ?_
    exact W.zret (v := (0 : Int32)) (ty := .boolean) hx hb hr rfl (fun t ht hW => by rw [hqq]; have hh := Option.some.inj h; exact ⟨⟨(0 : Int32), (v1.2), rfl, ⟨fst_of hh, snd_of hh⟩, by rw [ht]; exact hP, va_K.moved hW.alike hK⟩, hS.F ht⟩) hS.2.2 dX7_takeNumber_8

abbrev w_X7_rowFigure (cy : Nat → ClassId) (a0 : Nat → Nat) (gr : Int32 × Int32 × Int32 × Int32 × Int32 × Int32 × Int32 × Int32 × Int32) (gtx : (Nat → Int32)) : va_W := [(a0 0, .inr (5, [.ref (a0 1), .int (gr.1), .int (gr.2.1), .int (gr.2.2.1), .int (gr.2.2.2.1), .int (gr.2.2.2.2.1), .int (gr.2.2.2.2.2.1), .int (gr.2.2.2.2.2.2.1), .int (gr.2.2.2.2.2.2.2.1), .int (gr.2.2.2.2.2.2.2.2)])), (a0 1, .inl (cy 0, 600, .inl (gtx)))]
abbrev rm_X7_rowFigure : Room := { frames := 1, cells := 0, slots := 0, locals := 21 }
set_option maxHeartbeats 1000000 in
set_option maxRecDepth 100000 in
theorem c_X7_rowFigure (l : Launch) (dC : Nat → ClassId) (dI : Nat → Nat → Nat) (cy : Nat → ClassId) (a0 : Nat → Nat) (gr : Int32 × Int32 × Int32 × Int32 × Int32 × Int32 × Int32 × Int32 × Int32) (gtx : (Nat → Int32)) (x1 : Int32) (sz : Nat) (R0 : Int32) (h : p_X7_rowFigure gr gtx x1 = some R0) : Met l yX7_rowFigure wsX7_rowFigure rm_X7_rowFigure (va_Pc [.ref (a0 0), .int x1] (prC dC dI cy (w_X7_rowFigure cy a0 gr gtx) sz)) (va_Qi (fun (r : Int32) (_ : Unit) => r = R0) (fun (_ : Unit) t => poC dC dI cy (w_X7_rowFigure cy a0 gr gtx) t) (va_A (w_X7_rowFigure cy a0 gr gtx) sz)) 0 0 (va_A (w_X7_rowFigure cy a0 gr gtx) sz) := by
  refine Met.ofW (cc := cX7_rowFigure) (maxL := 3) (ret := (some .int)) (by decide) rfl ?_
  intro p e s m aa below meth c s₁ B hml hv
  obtain ⟨haa, hsz, hP, hK, hD0⟩ := hv
  have hx := B.exec
  have hb := B.bytes
  have hr := B.returns
  have hts := atoms_spec (ws := wsX7_rowFigure) B.pre
  have hown : s.vm.findClass RX7 = some m.cls := findClass_of_methodNamed B.named
  have hlocks := B.notSynchronized
  subst hsz
  have hD := hD0.self (sz := s.heap.size)
  obtain ⟨qq, hqq⟩ : ∃ qq, qq = (va_Qi (fun (r : Int32) (_ : Unit) => r = R0) (fun (_ : Unit) t => poC dC dI cy (w_X7_rowFigure cy a0 gr gtx) t) (va_A (w_X7_rowFigure cy a0 gr gtx) s.heap.size)) := ⟨_, rfl⟩
  rw [← hqq]
  generalize hAe : va_A (w_X7_rowFigure cy a0 gr gtx) s.heap.size = A at hD hqq ⊢
  have hA : ∀ q : Nat, s.heap.size ≤ q → A q := fun q h => by rw [← hAe]; exact Or.inr h
  have hS : va_S A s.heap s.heap [] := va_S.rf
  have hl := lv_entry ([.ref (a0 0), .int x1]) (n := 3) (Nat.le_of_ble_eq_true rfl)
  have hE : entryFrame m aa 3 = F0 m 0 ((lg_sl ([.ref (a0 0), .int x1]) ++ List.replicate (3 - (lg_sl ([.ref (a0 0), .int x1])).length) Slot.unset).toArray) [] := by rw [haa]; exact lg_entry_eq m _ 3
  refine W.eq hE ?_
  generalize (lg_sl ([.ref (a0 0), .int x1]) ++ List.replicate (3 - (lg_sl ([.ref (a0 0), .int x1])).length) Slot.unset).toArray = ls at hl ⊢
  have hl : lv_has ls 3 [(0, .ref (a0 0)), (1, .int x1)] := hl
  change W p l e rm_X7_rowFigure s m aa below meth c s.heap [] 0 0 (MQ below qq aa s 0 0 A) (F0 m 0 ls [])
  have hS0 := hS
  have lk0 := hts (.fieldLink RX7 83 "GoatDoors$Reader" "rowLength" "I") (by decide +kernel)
  have lk1 := hts (.fieldLink RX7 80 "GoatDoors$Reader" "rowStart" "I") (by decide +kernel)
  have in_X7 : ∀ w ∈ wsX70, w ∈ wsX7_rowFigure := by decide +kernel
  obtain ⟨H, hH⟩ : ∃ H : Heap, H = s.heap := ⟨_, rfl⟩
  obtain ⟨locs, hlocs⟩ : ∃ locs : List Loc, locs = [] := ⟨_, rfl⟩
  have hS : va_S A s.heap H locs := by rw [hH, hlocs]; exact hS
  rw [← hH] at hP
  suffices hg : W p l e rm_X7_rowFigure s m aa below meth c H locs 0 0 (MQ below qq aa s 0 0 A) (F0 m 0 ls []) by subst hH; subst hlocs; exact hg
  unfold p_X7_rowFigure at h
  refine lv_iload_n hx hb dX7_rowFigure_0 rfl (lv_at hl 1 rfl) ?_
  refine lv_if_lt (tgt := 12) hx hb dX7_rowFigure_1 (by decide) (fun c1 => ?_) (fun c1 => ?_)
  · rw [if_pos c1] at h
    refine lv_iconst (v := (0 : Int32)) hx hb dX7_rowFigure_12 (by decide) ?_
    exact W.iret (v := (0 : Int32)) hx hb hr (fun t ht hW => by rw [hqq]; have hh := Option.some.inj h; exact ⟨⟨(0 : Int32), (()), rfl, Option.some.inj h, by rw [ht]; exact hP, va_K.moved hW.alike hK⟩, hS.F ht⟩) hS.2.2 dX7_rowFigure_13
  · rw [if_neg c1] at h
    refine lv_iload_n hx hb dX7_rowFigure_4 rfl (lv_at hl 1 rfl) ?_
    refine lv_aload_n hx hb dX7_rowFigure_5 rfl (lv_at hl 0 rfl) ?_
    refine va_get (D := (dC, dI)) (ci := 5) (v := .int gr.2.2.2.2.2.2.2.1) (C := RX7) (T := TX7) (N := 10) hx hb hts in_X7 hown hK hP 0 rfl rfl 8 (by decide) lk0 (fun _ h9 => h9) rfl dX7_rowFigure_6 ?_
    refine lv_icmp_lt (tgt := 14) hx hb dX7_rowFigure_9 (by decide) (fun c2 => ?_) (fun c2 => ?_)
    · rw [if_pos c2] at h
      refine lv_aload_n hx hb dX7_rowFigure_14 rfl (lv_at hl 0 rfl) ?_
      refine lv_aload_n hx hb dX7_rowFigure_15 rfl (lv_at hl 0 rfl) ?_
      refine va_get (D := (dC, dI)) (ci := 5) (v := .int gr.2.2.2.2.2.2.2.2) (C := RX7) (T := TX7) (N := 10) hx hb hts in_X7 hown hK hP 0 rfl rfl 9 (by decide) lk1 (fun _ h9 => h9) rfl dX7_rowFigure_16 ?_
      refine lv_iload_n hx hb dX7_rowFigure_19 rfl (lv_at hl 1 rfl) ?_
      refine lv_iadd hx hb dX7_rowFigure_20 ?_
      obtain ⟨v3, hv4, h⟩ := ok_bind h
      refine cl_vi (w2 := fun (_ : Unit) => w_X7_rowFigure cy a0 gr gtx) (As := [.int (gr.2.2.2.2.2.2.2.2 + x1)]) (rest := []) ⟨hx, hb, hml, hown, hts⟩ (c_X7_signAt l dC dI cy a0 gr gtx (gr.2.2.2.2.2.2.2.2 + x1) H.size v3 hv4) (cwV 1 hts gX7_rowFigure_X7_signAt rfl rfl rfl (by decide +kernel) ⟨Nat.le_of_ble_eq_true rfl, Nat.le_of_ble_eq_true rfl⟩) (va_recv hK hP (ci := 5) (q0 := 0) rfl rfl) cl_blind (cl_pre hK hP hD [0, 1] (by decide) rfl) hP hD hS hA [0, 1] rfl rfl hl.1 rfl (lv_room (Nat.le_of_ble_eq_true rfl)) dX7_rowFigure_21 ⟨Nat.le_of_ble_eq_true rfl, Nat.le_of_ble_eq_true rfl⟩ ⟨rfl, rfl⟩ (fun _ => updR [0, 1] rfl) (fun r u H locs hw hP hD hS => ?_)
      have hw := hw.symm
      subst hw
      have hP : va_P (dC, dI) vwCl (w_X7_rowFigure cy a0 gr gtx) H := hP
      have hD : va_D A (w_X7_rowFigure cy a0 gr gtx) := hD
      refine lv_istore_n (lv' := [(2, .int v3), (0, .ref (a0 0)), (1, .int x1)]) hx hb dX7_rowFigure_24 rfl hl (by decide) rfl (fun ls hl => ?_)
      refine lv_iload_n hx hb dX7_rowFigure_25 rfl (lv_at hl 0 rfl) ?_
      obtain ⟨v5, hv6, h⟩ := ok_bind h
      refine cl_si (w2 := fun (_ : Unit) => w_X7_rowFigure cy a0 gr gtx) (As := [.int v3]) (rest := []) ⟨hx, hb, hml, hown, hts⟩ (c_X7_isLetter l dC dI cy  v3 H.size v5 hv6) (va_cwS 1 hts gX7_rowFigure_X7_isLetter rfl rfl rfl (by decide +kernel) ⟨Nat.le_of_ble_eq_true rfl, Nat.le_of_ble_eq_true rfl⟩) cl_blind (cl_pre hK hP hD [] (by decide) rfl) hP hD hS hA [] rfl rfl hl.1 rfl (lv_room (Nat.le_of_ble_eq_true rfl)) dX7_rowFigure_26 ⟨Nat.le_of_ble_eq_true rfl, Nat.le_of_ble_eq_true rfl⟩ ⟨rfl, rfl⟩ (fun _ => updR [] rfl) (fun r u H locs hw hP hD hS => ?_)
      have hw := hw.symm
      subst hw
      have hP : va_P (dC, dI) vwCl (w_X7_rowFigure cy a0 gr gtx) H := hP
      have hD : va_D A (w_X7_rowFigure cy a0 gr gtx) := hD
      refine lv_if_eq (tgt := 42) hx hb dX7_rowFigure_29 (by decide) (fun c7 => ?_) (fun c7 => ?_)
      · rw [if_pos c7] at h
        refine lv_iload_n hx hb dX7_rowFigure_42 rfl (lv_at hl 0 rfl) ?_
        refine lv_bipush (v := (48 : Int32)) hx hb dX7_rowFigure_43 (by decide) ?_
        refine lv_isub hx hb dX7_rowFigure_45 ?_
        exact W.iret (v := (v3 - (48 : Int32))) hx hb hr (fun t ht hW => by rw [hqq]; have hh := Option.some.inj h; exact ⟨⟨(v3 - (48 : Int32)), (()), rfl, Option.some.inj h, by rw [ht]; exact hP, va_K.moved hW.alike hK⟩, hS.F ht⟩) hS.2.2 dX7_rowFigure_46
      · rw [if_neg c7] at h
        refine lv_iload_n hx hb dX7_rowFigure_32 rfl (lv_at hl 0 rfl) ?_
        refine lv_bipush (v := (97 : Int32)) hx hb dX7_rowFigure_33 (by decide) ?_
        refine lv_isub hx hb dX7_rowFigure_35 ?_
        refine lv_bipush (v := (10 : Int32)) hx hb dX7_rowFigure_36 (by decide) ?_
        refine lv_iadd hx hb dX7_rowFigure_38 ?_
        refine lv_goto (tgt := 46) hx hb dX7_rowFigure_39 (by decide) ?_
        exact W.iret (v := ((v3 - (97 : Int32)) + (10 : Int32))) hx hb hr (fun t ht hW => by rw [hqq]; have hh := Option.some.inj h; exact ⟨⟨((v3 - (97 : Int32)) + (10 : Int32)), (()), rfl, Option.some.inj h, by rw [ht]; exact hP, va_K.moved hW.alike hK⟩, hS.F ht⟩) hS.2.2 dX7_rowFigure_46
    · rw [if_neg c2] at h
      refine lv_iconst (v := (0 : Int32)) hx hb dX7_rowFigure_12 (by decide) ?_
      exact W.iret (v := (0 : Int32)) hx hb hr (fun t ht hW => by rw [hqq]; have hh := Option.some.inj h; exact ⟨⟨(0 : Int32), (()), rfl, Option.some.inj h, by rw [ht]; exact hP, va_K.moved hW.alike hK⟩, hS.F ht⟩) hS.2.2 dX7_rowFigure_13
