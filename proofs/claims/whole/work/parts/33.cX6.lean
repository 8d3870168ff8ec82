abbrev w_X5_firstOf (cy : Nat → ClassId) (a0 : Nat → Nat) (ggm : Int32 × Int32 × Int32 × (Nat → Int32) × (Nat → Int32) × (Nat → Int32) × (Nat → Nat → Int64)) : va_W := [(a0 0, .inr (3, [.int (ggm.1), .int (ggm.2.1), .int (ggm.2.2.1), .ref (a0 1), .ref (a0 2), .ref (a0 3), .ref (a0 4)])), (a0 1, .inl (cy 1, 5, .inl (ggm.2.2.2.1))), (a0 2, .inl (cy 1, 5, .inl (ggm.2.2.2.2.1))), (a0 3, .inl (cy 1, 5, .inl (ggm.2.2.2.2.2.1))), (a0 4, .inl (cy 4, 5, .inr (.inr (.inr (.inr (fun i => some ([a0 5, a0 6, a0 7, a0 8, a0 9].getD i 0))))))), (a0 5, .inl (cy 2, 26, .inr (.inl (ggm.2.2.2.2.2.2 0)))), (a0 6, .inl (cy 2, 26, .inr (.inl (ggm.2.2.2.2.2.2 1)))), (a0 7, .inl (cy 2, 26, .inr (.inl (ggm.2.2.2.2.2.2 2)))), (a0 8, .inl (cy 2, 26, .inr (.inl (ggm.2.2.2.2.2.2 3)))), (a0 9, .inl (cy 2, 26, .inr (.inl (ggm.2.2.2.2.2.2 4))))]
abbrev rm_X5_firstOf : Room := { frames := 0, cells := 0, slots := 0, locals := 0 }
set_option maxHeartbeats 1000000 in
set_option maxRecDepth 100000 in
theorem c_X5_firstOf (l : Launch) (dC : Nat → ClassId) (dI : Nat → Nat → Nat) (cy : Nat → ClassId) (a0 : Nat → Nat) (ggm : Int32 × Int32 × Int32 × (Nat → Int32) × (Nat → Int32) × (Nat → Int32) × (Nat → Nat → Int64)) (x1 : Int32) (sz : Nat) (R0 : Int32) (h : p_X5_firstOf ggm x1 = some R0) : Met l yX5_firstOf wsX5_firstOf rm_X5_firstOf (va_Pc [.ref (a0 0), .int x1] (prC dC dI cy (w_X5_firstOf cy a0 ggm) sz)) (va_Qi (fun (r : Int32) (_ : Unit) => r = R0) (fun (_ : Unit) t => poC dC dI cy (w_X5_firstOf cy a0 ggm) t) (va_A (w_X5_firstOf cy a0 ggm) sz)) 0 0 (va_A (w_X5_firstOf cy a0 ggm) sz) := by
  refine Met.ofW (cc := cX5_firstOf) (maxL := 2) (ret := (some .int)) (by decide) rfl ?_
  intro p e s m aa below meth c s₁ B hml hv
  obtain ⟨haa, hsz, hP, hK, hD0⟩ := hv
  have hx := B.exec
  have hb := B.bytes
  have hr := B.returns
  have hts := atoms_spec (ws := wsX5_firstOf) B.pre
  have hown : s.vm.findClass RX5 = some m.cls := findClass_of_methodNamed B.named
  have hlocks := B.notSynchronized
  subst hsz
  have hD := hD0.self (sz := s.heap.size)
  obtain ⟨qq, hqq⟩ : ∃ qq, qq = (va_Qi (fun (r : Int32) (_ : Unit) => r = R0) (fun (_ : Unit) t => poC dC dI cy (w_X5_firstOf cy a0 ggm) t) (va_A (w_X5_firstOf cy a0 ggm) s.heap.size)) := ⟨_, rfl⟩
  rw [← hqq]
  generalize hAe : va_A (w_X5_firstOf cy a0 ggm) s.heap.size = A at hD hqq ⊢
  have hA : ∀ q : Nat, s.heap.size ≤ q → A q := fun q h => by rw [← hAe]; exact Or.inr h
  have hS : va_S A s.heap s.heap [] := va_S.rf
  have hl := lv_entry ([.ref (a0 0), .int x1]) (n := 2) (Nat.le_of_ble_eq_true rfl)
  have hE : entryFrame m aa 2 = F0 m 0 ((lg_sl ([.ref (a0 0), .int x1]) ++ List.replicate (2 - (lg_sl ([.ref (a0 0), .int x1])).length) Slot.unset).toArray) [] := by rw [haa]; exact lg_entry_eq m _ 2
  refine W.eq hE ?_
  generalize (lg_sl ([.ref (a0 0), .int x1]) ++ List.replicate (2 - (lg_sl ([.ref (a0 0), .int x1])).length) Slot.unset).toArray = ls at hl ⊢
  have hl : lv_has ls 2 [(0, .ref (a0 0)), (1, .int x1)] := hl
  change W p l e rm_X5_firstOf s m aa below meth c s.heap [] 0 0 (MQ below qq aa s 0 0 A) (F0 m 0 ls [])
  have hS0 := hS
  have lk0 := hts (.fieldLink RX5 18 "GoatDoors$Game" "first" "[I") (by decide +kernel)
  have in_X5 : ∀ w ∈ wsX50, w ∈ wsX5_firstOf := by decide +kernel
  obtain ⟨H, hH⟩ : ∃ H : Heap, H = s.heap := ⟨_, rfl⟩
  obtain ⟨locs, hlocs⟩ : ∃ locs : List Loc, locs = [] := ⟨_, rfl⟩
  have hS : va_S A s.heap H locs := by rw [hH, hlocs]; exact hS
  rw [← hH] at hP
  suffices hg : W p l e rm_X5_firstOf s m aa below meth c H locs 0 0 (MQ below qq aa s 0 0 A) (F0 m 0 ls []) by subst hH; subst hlocs; exact hg
  unfold p_X5_firstOf at h
  refine lv_iload_n hx hb dX5_firstOf_0 rfl (lv_at hl 1 rfl) ?_
  refine lv_if_lt (tgt := 18) hx hb dX5_firstOf_1 (by decide) (fun c1 => ?_) (fun c1 => ?_)
  · rw [if_pos c1] at h
    refine lv_iconst (v := (0 : Int32)) hx hb dX5_firstOf_18 (by decide) ?_
    exact W.iret (v := (0 : Int32)) hx hb hr (fun t ht hW => by rw [hqq]; have hh := Option.some.inj h; exact ⟨⟨(0 : Int32), (()), rfl, Option.some.inj h, by rw [ht]; exact hP, va_K.moved hW.alike hK⟩, hS.F ht⟩) hS.2.2 dX5_firstOf_19
  · rw [if_neg c1] at h
    refine lv_iload_n hx hb dX5_firstOf_4 rfl (lv_at hl 1 rfl) ?_
    refine lv_iconst (v := (5 : Int32)) hx hb dX5_firstOf_5 (by decide) ?_
    refine lv_icmp_ge (tgt := 18) hx hb dX5_firstOf_6 (by decide) (fun c2 => ?_) (fun c2 => ?_)
    · rw [if_pos c2] at h
      refine lv_iconst (v := (0 : Int32)) hx hb dX5_firstOf_18 (by decide) ?_
      exact W.iret (v := (0 : Int32)) hx hb hr (fun t ht hW => by rw [hqq]; have hh := Option.some.inj h; exact ⟨⟨(0 : Int32), (()), rfl, Option.some.inj h, by rw [ht]; exact hP, va_K.moved hW.alike hK⟩, hS.F ht⟩) hS.2.2 dX5_firstOf_19
    · rw [if_neg c2] at h
      refine lv_aload_n hx hb dX5_firstOf_9 rfl (lv_at hl 0 rfl) ?_
      refine va_get (D := (dC, dI)) (ci := 3) (v := .ref (a0 3)) (C := RX5) (T := TX5) (N := 7) hx hb hts in_X5 hown hK hP 0 rfl rfl 5 (by decide) lk0 (fun _ h9 => h9) rfl dX5_firstOf_10 ?_
      refine lv_iload_n hx hb dX5_firstOf_13 rfl (lv_at hl 1 rfl) ?_
      obtain ⟨hi3, h⟩ := ok_if h
      refine va_iald hx hb hK hP 3 1 rfl rfl (ix_in hi3) dX5_firstOf_14 ?_
      refine lv_goto (tgt := 19) hx hb dX5_firstOf_15 (by decide) ?_
      exact W.iret (v := (ggm.2.2.2.2.2.1 x1.toNatClampNeg)) hx hb hr (fun t ht hW => by rw [hqq]; have hh := Option.some.inj h; exact ⟨⟨(ggm.2.2.2.2.2.1 x1.toNatClampNeg), (()), rfl, Option.some.inj h, by rw [ht]; exact hP, va_K.moved hW.alike hK⟩, hS.F ht⟩) hS.2.2 dX5_firstOf_19

abbrev w_X6_netIn (cy : Nat → ClassId) (a0 : Nat → Nat) (gne : (Nat → Nat → Int32) × (Nat → Nat → Int64)) : va_W := [(a0 0, .inr (4, [.ref (a0 1), .ref (a0 12)])), (a0 1, .inl (cy 3, 10, .inr (.inr (.inr (.inr (fun i => some ([a0 2, a0 3, a0 4, a0 5, a0 6, a0 7, a0 8, a0 9, a0 10, a0 11].getD i 0))))))), (a0 2, .inl (cy 1, 41, .inl (gne.1 0))), (a0 3, .inl (cy 1, 41, .inl (gne.1 1))), (a0 4, .inl (cy 1, 41, .inl (gne.1 2))), (a0 5, .inl (cy 1, 41, .inl (gne.1 3))), (a0 6, .inl (cy 1, 41, .inl (gne.1 4))), (a0 7, .inl (cy 1, 41, .inl (gne.1 5))), (a0 8, .inl (cy 1, 41, .inl (gne.1 6))), (a0 9, .inl (cy 1, 41, .inl (gne.1 7))), (a0 10, .inl (cy 1, 41, .inl (gne.1 8))), (a0 11, .inl (cy 1, 41, .inl (gne.1 9))), (a0 12, .inl (cy 4, 5, .inr (.inr (.inr (.inr (fun i => some ([a0 13, a0 14, a0 15, a0 16, a0 17].getD i 0))))))), (a0 13, .inl (cy 2, 41, .inr (.inl (gne.2 0)))), (a0 14, .inl (cy 2, 41, .inr (.inl (gne.2 1)))), (a0 15, .inl (cy 2, 41, .inr (.inl (gne.2 2)))), (a0 16, .inl (cy 2, 41, .inr (.inl (gne.2 3)))), (a0 17, .inl (cy 2, 41, .inr (.inl (gne.2 4))))]
abbrev rm_X6_netIn : Room := { frames := 0, cells := 0, slots := 0, locals := 0 }
set_option maxHeartbeats 1000000 in
set_option maxRecDepth 100000 in
theorem c_X6_netIn (l : Launch) (dC : Nat → ClassId) (dI : Nat → Nat → Nat) (cy : Nat → ClassId) (a0 : Nat → Nat) (gne : (Nat → Nat → Int32) × (Nat → Nat → Int64)) (x1 : Int32) (x2 : Int32) (sz : Nat) (R0 : Int64) (h : p_X6_netIn gne x1 x2 = some R0) : Met l yX6_netIn wsX6_netIn rm_X6_netIn (va_Pc [.ref (a0 0), .int x1, .int x2] (prC dC dI cy (w_X6_netIn cy a0 gne) sz)) (va_Ql (fun (r : Int64) (_ : Unit) => r = R0) (fun (_ : Unit) t => poC dC dI cy (w_X6_netIn cy a0 gne) t) (va_A (w_X6_netIn cy a0 gne) sz)) 0 0 (va_A (w_X6_netIn cy a0 gne) sz) := by
  refine Met.ofW (cc := cX6_netIn) (maxL := 3) (ret := (some .long)) (by decide) rfl ?_
  intro p e s m aa below meth c s₁ B hml hv
  obtain ⟨haa, hsz, hP, hK, hD0⟩ := hv
  have hx := B.exec
  have hb := B.bytes
  have hr := B.returns
  have hts := atoms_spec (ws := wsX6_netIn) B.pre
  have hown : s.vm.findClass RX6 = some m.cls := findClass_of_methodNamed B.named
  have hlocks := B.notSynchronized
  subst hsz
  have hD := hD0.self (sz := s.heap.size)
  obtain ⟨qq, hqq⟩ : ∃ qq, qq = (va_Ql (fun (r : Int64) (_ : Unit) => r = R0) (fun (_ : Unit) t => poC dC dI cy (w_X6_netIn cy a0 gne) t) (va_A (w_X6_netIn cy a0 gne) s.heap.size)) := ⟨_, rfl⟩
  rw [← hqq]
  generalize hAe : va_A (w_X6_netIn cy a0 gne) s.heap.size = A at hD hqq ⊢
  have hA : ∀ q : Nat, s.heap.size ≤ q → A q := fun q h => by rw [← hAe]; exact Or.inr h
  have hS : va_S A s.heap s.heap [] := va_S.rf
  have hl := lv_entry ([.ref (a0 0), .int x1, .int x2]) (n := 3) (Nat.le_of_ble_eq_true rfl)
  have hE : entryFrame m aa 3 = F0 m 0 ((lg_sl ([.ref (a0 0), .int x1, .int x2]) ++ List.replicate (3 - (lg_sl ([.ref (a0 0), .int x1, .int x2])).length) Slot.unset).toArray) [] := by rw [haa]; exact lg_entry_eq m _ 3
  refine W.eq hE ?_
  generalize (lg_sl ([.ref (a0 0), .int x1, .int x2]) ++ List.replicate (3 - (lg_sl ([.ref (a0 0), .int x1, .int x2])).length) Slot.unset).toArray = ls at hl ⊢
  have hl : lv_has ls 3 [(0, .ref (a0 0)), (1, .int x1), (2, .int x2)] := hl
  change W p l e rm_X6_netIn s m aa below meth c s.heap [] 0 0 (MQ below qq aa s 0 0 A) (F0 m 0 ls [])
  have hS0 := hS
  have lk0 := hts (.fieldLink RX6 18 "GoatDoors$Nets" "nets" "[[J") (by decide +kernel)
  have in_X6 : ∀ w ∈ wsX60, w ∈ wsX6_netIn := by decide +kernel
  obtain ⟨H, hH⟩ : ∃ H : Heap, H = s.heap := ⟨_, rfl⟩
  obtain ⟨locs, hlocs⟩ : ∃ locs : List Loc, locs = [] := ⟨_, rfl⟩
  have hS : va_S A s.heap H locs := by rw [hH, hlocs]; exact hS
  rw [← hH] at hP
  suffices hg : W p l e rm_X6_netIn s m aa below meth c H locs 0 0 (MQ below qq aa s 0 0 A) (F0 m 0 ls []) by subst hH; subst hlocs; exact hg
  unfold p_X6_netIn at h
  refine lv_iload_n hx hb dX6_netIn_0 rfl (lv_at hl 1 rfl) ?_
  refine lv_if_lt (tgt := 30) hx hb dX6_netIn_1 (by decide) (fun c1 => ?_) (fun c1 => ?_)
  · rw [if_pos c1] at h
    refine lv_lconst (v := (0 : Int64)) hx hb dX6_netIn_30 (by decide) ?_
    exact W.lret (v := (0 : Int64)) hx hb hr (fun t ht hW => by rw [hqq]; have hh := Option.some.inj h; exact ⟨⟨(0 : Int64), (()), rfl, Option.some.inj h, by rw [ht]; exact hP, va_K.moved hW.alike hK⟩, hS.F ht⟩) hS.2.2 dX6_netIn_31
  · rw [if_neg c1] at h
    refine lv_iload_n hx hb dX6_netIn_4 rfl (lv_at hl 1 rfl) ?_
    refine lv_iconst (v := (5 : Int32)) hx hb dX6_netIn_5 (by decide) ?_
    refine lv_icmp_ge (tgt := 30) hx hb dX6_netIn_6 (by decide) (fun c2 => ?_) (fun c2 => ?_)
    · rw [if_pos c2] at h
      refine lv_lconst (v := (0 : Int64)) hx hb dX6_netIn_30 (by decide) ?_
      exact W.lret (v := (0 : Int64)) hx hb hr (fun t ht hW => by rw [hqq]; have hh := Option.some.inj h; exact ⟨⟨(0 : Int64), (()), rfl, Option.some.inj h, by rw [ht]; exact hP, va_K.moved hW.alike hK⟩, hS.F ht⟩) hS.2.2 dX6_netIn_31
    · rw [if_neg c2] at h
      refine lv_iload_n hx hb dX6_netIn_9 rfl (lv_at hl 2 rfl) ?_
      refine lv_if_lt (tgt := 30) hx hb dX6_netIn_10 (by decide) (fun c3 => ?_) (fun c3 => ?_)
      · rw [if_pos c3] at h
        refine lv_lconst (v := (0 : Int64)) hx hb dX6_netIn_30 (by decide) ?_
        exact W.lret (v := (0 : Int64)) hx hb hr (fun t ht hW => by rw [hqq]; have hh := Option.some.inj h; exact ⟨⟨(0 : Int64), (()), rfl, Option.some.inj h, by rw [ht]; exact hP, va_K.moved hW.alike hK⟩, hS.F ht⟩) hS.2.2 dX6_netIn_31
      · rw [if_neg c3] at h
        refine lv_iload_n hx hb dX6_netIn_13 rfl (lv_at hl 2 rfl) ?_
        refine lv_bipush (v := (41 : Int32)) hx hb dX6_netIn_14 (by decide) ?_
        refine lv_icmp_ge (tgt := 30) hx hb dX6_netIn_16 (by decide) (fun c4 => ?_) (fun c4 => ?_)
        · rw [if_pos c4] at h
          refine lv_lconst (v := (0 : Int64)) hx hb dX6_netIn_30 (by decide) ?_
          exact W.lret (v := (0 : Int64)) hx hb hr (fun t ht hW => by rw [hqq]; have hh := Option.some.inj h; exact ⟨⟨(0 : Int64), (()), rfl, Option.some.inj h, by rw [ht]; exact hP, va_K.moved hW.alike hK⟩, hS.F ht⟩) hS.2.2 dX6_netIn_31
        · rw [if_neg c4] at h
          refine lv_aload_n hx hb dX6_netIn_19 rfl (lv_at hl 0 rfl) ?_
          refine va_get (D := (dC, dI)) (ci := 4) (v := .ref (a0 12)) (C := RX6) (T := TX6) (N := 2) hx hb hts in_X6 hown hK hP 0 rfl rfl 1 (by decide) lk0 (fun _ h9 => h9) rfl dX6_netIn_20 ?_
          refine lv_iload_n hx hb dX6_netIn_23 rfl (lv_at hl 1 rfl) ?_
          obtain ⟨hi5, h⟩ := ok_if h
          refine va_aldA hx hb hK hP 12 4 rfl rfl (ix_in hi5) dX6_netIn_24 ?_
          refine W.eq (g2 := F0 m 25 ls [.ref ([a0 13, a0 14, a0 15, a0 16, a0 17].getD (x1).toNatClampNeg 0)]) rfl ?_
          refine lv_iload_n hx hb dX6_netIn_25 rfl (lv_at hl 2 rfl) ?_
          obtain ⟨hi6, h⟩ := ok_if h
          refine va_lald hx hb hK hP (13 + x1.toNatClampNeg) 2 (lt5 (P := fun z => (w_X6_netIn cy a0 gne)[13 + z]? = some (([a0 13, a0 14, a0 15, a0 16, a0 17].getD z 0), .inl (cy 2, 41, .inr (.inl (gne.2 z))))) (ix_lt hi5) rfl rfl rfl rfl rfl) rfl (ix_in hi6) dX6_netIn_26 ?_
          refine lv_goto (tgt := 31) hx hb dX6_netIn_27 (by decide) ?_
          exact W.lret (v := (gne.2 x1.toNatClampNeg x2.toNatClampNeg)) hx hb hr (fun t ht hW => by rw [hqq]; have hh := Option.some.inj h; exact ⟨⟨(gne.2 x1.toNatClampNeg x2.toNatClampNeg), (()), rfl, Option.some.inj h, by rw [ht]; exact hP, va_K.moved hW.alike hK⟩, hS.F ht⟩) hS.2.2 dX6_netIn_31

abbrev w_X5_bestReply (cy : Nat → ClassId) (a0 : Nat → Nat) (gne : (Nat → Nat → Int32) × (Nat → Nat → Int64)) : va_W := [(a0 0, .inr (4, [.ref (a0 1), .ref (a0 12)])), (a0 1, .inl (cy 3, 10, .inr (.inr (.inr (.inr (fun i => some ([a0 2, a0 3, a0 4, a0 5, a0 6, a0 7, a0 8, a0 9, a0 10, a0 11].getD i 0))))))), (a0 2, .inl (cy 1, 41, .inl (gne.1 0))), (a0 3, .inl (cy 1, 41, .inl (gne.1 1))), (a0 4, .inl (cy 1, 41, .inl (gne.1 2))), (a0 5, .inl (cy 1, 41, .inl (gne.1 3))), (a0 6, .inl (cy 1, 41, .inl (gne.1 4))), (a0 7, .inl (cy 1, 41, .inl (gne.1 5))), (a0 8, .inl (cy 1, 41, .inl (gne.1 6))), (a0 9, .inl (cy 1, 41, .inl (gne.1 7))), (a0 10, .inl (cy 1, 41, .inl (gne.1 8))), (a0 11, .inl (cy 1, 41, .inl (gne.1 9))), (a0 12, .inl (cy 4, 5, .inr (.inr (.inr (.inr (fun i => some ([a0 13, a0 14, a0 15, a0 16, a0 17].getD i 0))))))), (a0 13, .inl (cy 2, 41, .inr (.inl (gne.2 0)))), (a0 14, .inl (cy 2, 41, .inr (.inl (gne.2 1)))), (a0 15, .inl (cy 2, 41, .inr (.inl (gne.2 2)))), (a0 16, .inl (cy 2, 41, .inr (.inl (gne.2 3)))), (a0 17, .inl (cy 2, 41, .inr (.inl (gne.2 4))))]
abbrev rm_X5_bestReply : Room := { frames := 1, cells := 0, slots := 0, locals := 23 }
set_option maxHeartbeats 1000000 in
set_option maxRecDepth 100000 in
theorem c_X5_bestReply (l : Launch) (dC : Nat → ClassId) (dI : Nat → Nat → Nat) (cy : Nat → ClassId) (a0 : Nat → Nat) (gne : (Nat → Nat → Int32) × (Nat → Nat → Int64)) (x1 : Int32) (x2 : Int32) (x3 : Int32) (sz : Nat) (R0 : Int64) (h : p_X5_bestReply gne x1 x2 x3 = some R0) : Met l yX5_bestReply wsX5_bestReply rm_X5_bestReply (va_Pc [.ref (a0 0), .int x1, .int x2, .int x3] (prC dC dI cy (w_X5_bestReply cy a0 gne) sz)) (va_Ql (fun (r : Int64) (_ : Unit) => r = R0) (fun (_ : Unit) t => poC dC dI cy (w_X5_bestReply cy a0 gne) t) (va_A (w_X5_bestReply cy a0 gne) sz)) 0 0 (va_A (w_X5_bestReply cy a0 gne) sz) := by
  refine Met.ofW (cc := cX5_bestReply) (maxL := 7) (ret := (some .long)) (by decide) rfl ?_
  intro p e s m aa below meth c s₁ B hml hv
  obtain ⟨haa, hsz, hP, hK, hD0⟩ := hv
  have hx := B.exec
  have hb := B.bytes
  have hr := B.returns
  have hts := atoms_spec (ws := wsX5_bestReply) B.pre
  have hown : s.vm.findClass RX5 = some m.cls := findClass_of_methodNamed B.named
  have hlocks := B.notSynchronized
  subst hsz
  have hD := hD0.self (sz := s.heap.size)
  obtain ⟨qq, hqq⟩ : ∃ qq, qq = (va_Ql (fun (r : Int64) (_ : Unit) => r = R0) (fun (_ : Unit) t => poC dC dI cy (w_X5_bestReply cy a0 gne) t) (va_A (w_X5_bestReply cy a0 gne) s.heap.size)) := ⟨_, rfl⟩
  rw [← hqq]
  generalize hAe : va_A (w_X5_bestReply cy a0 gne) s.heap.size = A at hD hqq ⊢
  have hA : ∀ q : Nat, s.heap.size ≤ q → A q := fun q h => by rw [← hAe]; exact Or.inr h
  have hS : va_S A s.heap s.heap [] := va_S.rf
  have hl := lv_entry ([.ref (a0 0), .int x1, .int x2, .int x3]) (n := 7) (Nat.le_of_ble_eq_true rfl)
  have hE : entryFrame m aa 7 = F0 m 0 ((lg_sl ([.ref (a0 0), .int x1, .int x2, .int x3]) ++ List.replicate (7 - (lg_sl ([.ref (a0 0), .int x1, .int x2, .int x3])).length) Slot.unset).toArray) [] := by rw [haa]; exact lg_entry_eq m _ 7
  refine W.eq hE ?_
  generalize (lg_sl ([.ref (a0 0), .int x1, .int x2, .int x3]) ++ List.replicate (7 - (lg_sl ([.ref (a0 0), .int x1, .int x2, .int x3])).length) Slot.unset).toArray = ls at hl ⊢
  have hl : lv_has ls 7 [(0, .ref (a0 0)), (1, .int x1), (2, .int x2), (3, .int x3)] := hl
  change W p l e rm_X5_bestReply s m aa below meth c s.heap [] 0 0 (MQ below qq aa s 0 0 A) (F0 m 0 ls [])
  have hS0 := hS
  have lk0 := hts (.methodLink RX5 84 Lib.MathLoose.max_long.x) (by decide +kernel)
  have lk1 := hts (.static Lib.MathLoose.max_long.x) (by decide +kernel)
  have lk2 := hts (.initialized "java/lang/Math") (by decide +kernel)
  have lk3 := hts (.code Lib.MathLoose.max_long.x Lib.MathLoose.max_long.code 4 (some .long)) (by decide +kernel)
  have c11 : ∀ (n : Nat), ∀ (x1 : Int32) (x2 : Int32) (x3 : Int32) (x4 : Int64) (x6 : Int32) (H : Heap) (locs : List Loc) (ls : Array Slot), p_X5_bestReply_11 gne n x1 x2 x3 x4 x6 = some R0 → va_P (dC, dI) vwCl (w_X5_bestReply cy a0 gne) H → va_D A (w_X5_bestReply cy a0 gne) → va_S A s.heap H locs → lv_has ls 7 [(0, .ref (a0 0)), (1, .int x1), (2, .int x2), (3, .int x3), (4, .long x4), (6, .int x6)] → W p l e rm_X5_bestReply s m aa below meth c H locs 0 0 (MQ below qq aa s 0 0 A) (F0 m 11 ls []) := by
    intro  n
    induction n with
    | zero => intro x1 x2 x3 x4 x6 H locs ls h; exact no_some h
    | succ n ih =>
      intro x1 x2 x3 x4 x6 H locs ls h hP hD hS hl
      rw [p_X5_bestReply_11.eq_2] at h
      refine lv_iload hx hb dX5_bestReply_11 (lv_at hl 5 rfl) ?_
      refine lv_iload_n hx hb dX5_bestReply_13 rfl (lv_at hl 2 rfl) ?_
      refine lv_icmp_gt (tgt := 39) hx hb dX5_bestReply_14 (by decide) (fun c1 => ?_) (fun c1 => ?_)
      · rw [if_pos c1] at h
        refine lv_lload hx hb dX5_bestReply_39 (lv_at hl 4 rfl) ?_
        exact W.lret (v := x4) hx hb hr (fun t ht hW => by rw [hqq]; have hh := Option.some.inj h; exact ⟨⟨x4, (()), rfl, Option.some.inj h, by rw [ht]; exact hP, va_K.moved hW.alike hK⟩, hS.F ht⟩) hS.2.2 dX5_bestReply_41
      · rw [if_neg c1] at h
        refine lv_lload hx hb dX5_bestReply_17 (lv_at hl 4 rfl) ?_
        refine lv_aload_n hx hb dX5_bestReply_19 rfl (lv_at hl 0 rfl) ?_
        refine lv_iload_n hx hb dX5_bestReply_20 rfl (lv_at hl 1 rfl) ?_
        refine lv_iload_n hx hb dX5_bestReply_21 rfl (lv_at hl 3 rfl) ?_
        refine lv_iload hx hb dX5_bestReply_22 (lv_at hl 5 rfl) ?_
        refine lv_isub hx hb dX5_bestReply_24 ?_
        obtain ⟨v2, hv3, h⟩ := ok_bind h
        refine cl_vl (w2 := fun (_ : Unit) => w_X5_bestReply cy a0 gne) (As := [.int x1, .int (x3 - x6)]) (rest := [.long x4]) ⟨hx, hb, hml, hown, hts⟩ (c_X6_netIn l dC dI cy a0 gne x1 (x3 - x6) H.size v2 hv3) (cwV 2 hts gX5_bestReply_X6_netIn rfl rfl rfl (by decide +kernel) ⟨Nat.le_of_ble_eq_true rfl, Nat.le_of_ble_eq_true rfl⟩) (va_recv hK hP (ci := 4) (q0 := 0) rfl rfl) cl_blind (cl_pre hK hP hD [0, 1, 2, 3, 4, 5, 6, 7, 8, 9, 10, 11, 12, 13, 14, 15, 16, 17] (by decide) rfl) hP hD hS hA [0, 1, 2, 3, 4, 5, 6, 7, 8, 9, 10, 11, 12, 13, 14, 15, 16, 17] rfl rfl hl.1 rfl (lv_room (Nat.le_of_ble_eq_true rfl)) dX5_bestReply_25 ⟨Nat.le_of_ble_eq_true rfl, Nat.le_of_ble_eq_true rfl⟩ ⟨rfl, rfl⟩ (fun _ => updR [0, 1, 2, 3, 4, 5, 6, 7, 8, 9, 10, 11, 12, 13, 14, 15, 16, 17] rfl) (fun r u H locs hw hP hD hS => ?_)
        have hw := hw.symm
        subst hw
        have hP : va_P (dC, dI) vwCl (w_X5_bestReply cy a0 gne) H := hP
        have hD : va_D A (w_X5_bestReply cy a0 gne) := hD
        refine va_mmax_long hx hb (by rw [hml]; exact hl.1.symm) hown lk0 lk1 lk2 lk3 (Nat.le_of_ble_eq_true rfl) (Nat.le_of_ble_eq_true rfl) (Nat.le_of_ble_eq_true rfl) (Nat.le_of_ble_eq_true rfl) dX5_bestReply_28 ?_
        refine lv_lstore (lv' := [(4, .long (if v2 < x4 then x4 else v2)), (0, .ref (a0 0)), (1, .int x1), (2, .int x2), (3, .int x3), (6, .int x6)]) hx hb dX5_bestReply_31 hl (by decide) rfl (fun ls hl => ?_)
        refine lv_iinc (v := (x6 + (1 : Int32))) (lv' := [(6, .int (x6 + (1 : Int32))), (4, .long (if v2 < x4 then x4 else v2)), (0, .ref (a0 0)), (1, .int x1), (2, .int x2), (3, .int x3)]) hx hb dX5_bestReply_33 hl (k := 5) rfl rfl (by decide) rfl (fun ls hl => ?_)
        refine lv_goto (tgt := 11) hx hb dX5_bestReply_36 (by decide) ?_
        exact ih x1 x2 x3 (if v2 < x4 then x4 else v2) (x6 + (1 : Int32)) H locs ls h hP hD hS (lv_sub hl [2, 3, 4, 5, 1, 0] rfl)
  obtain ⟨H, hH⟩ : ∃ H : Heap, H = s.heap := ⟨_, rfl⟩
  obtain ⟨locs, hlocs⟩ : ∃ locs : List Loc, locs = [] := ⟨_, rfl⟩
  have hS : va_S A s.heap H locs := by rw [hH, hlocs]; exact hS
  rw [← hH] at hP
  suffices hg : W p l e rm_X5_bestReply s m aa below meth c H locs 0 0 (MQ below qq aa s 0 0 A) (F0 m 0 ls []) by subst hH; subst hlocs; exact hg
  unfold p_X5_bestReply at h
  refine lv_aload_n hx hb dX5_bestReply_0 rfl (lv_at hl 0 rfl) ?_
  refine lv_iload_n hx hb dX5_bestReply_1 rfl (lv_at hl 1 rfl) ?_
  refine lv_iload_n hx hb dX5_bestReply_2 rfl (lv_at hl 3 rfl) ?_
  obtain ⟨v1, hv2, h⟩ := ok_bind h
  refine cl_vl (w2 := fun (_ : Unit) => w_X5_bestReply cy a0 gne) (As := [.int x1, .int x3]) (rest := []) ⟨hx, hb, hml, hown, hts⟩ (c_X6_netIn l dC dI cy a0 gne x1 x3 H.size v1 hv2) (cwV 2 hts gX5_bestReply_X6_netIn rfl rfl rfl (by decide +kernel) ⟨Nat.le_of_ble_eq_true rfl, Nat.le_of_ble_eq_true rfl⟩) (va_recv hK hP (ci := 4) (q0 := 0) rfl rfl) cl_blind (cl_pre hK hP hD [0, 1, 2, 3, 4, 5, 6, 7, 8, 9, 10, 11, 12, 13, 14, 15, 16, 17] (by decide) rfl) hP hD hS hA [0, 1, 2, 3, 4, 5, 6, 7, 8, 9, 10, 11, 12, 13, 14, 15, 16, 17] rfl rfl hl.1 rfl (lv_room (Nat.le_of_ble_eq_true rfl)) dX5_bestReply_3 ⟨Nat.le_of_ble_eq_true rfl, Nat.le_of_ble_eq_true rfl⟩ ⟨rfl, rfl⟩ (fun _ => updR [0, 1, 2, 3, 4, 5, 6, 7, 8, 9, 10, 11, 12, 13, 14, 15, 16, 17] rfl) (fun r u H locs hw hP hD hS => ?_)
  have hw := hw.symm
  subst hw
  have hP : va_P (dC, dI) vwCl (w_X5_bestReply cy a0 gne) H := hP
  have hD : va_D A (w_X5_bestReply cy a0 gne) := hD
  refine lv_lstore (lv' := [(4, .long v1), (0, .ref (a0 0)), (1, .int x1), (2, .int x2), (3, .int x3)]) hx hb dX5_bestReply_6 hl (by decide) rfl (fun ls hl => ?_)
  refine lv_iconst (v := (1 : Int32)) hx hb dX5_bestReply_8 (by decide) ?_
  refine lv_istore (lv' := [(6, .int (1 : Int32)), (4, .long v1), (0, .ref (a0 0)), (1, .int x1), (2, .int x2), (3, .int x3)]) hx hb dX5_bestReply_9 hl (by decide) rfl (fun ls hl => ?_)
  exact c11 fu x1 x2 x3 v1 (1 : Int32) H locs ls h hP hD hS (lv_sub hl [2, 3, 4, 5, 1, 0] rfl)

abbrev w_X5_setUp (cy : Nat → ClassId) (a0 : Nat → Nat) (a1 : Nat → Nat) (a2 : Nat → Nat) (ggm_0 : Int32 × Int32 × Int32 × (Nat → Int32) × (Nat → Int32) × (Nat → Int32) × (Nat → Nat → Int64)) (gv_1 : Int32 × Int32 × (Nat → Int32) × (Nat → Int32) × (Nat → Int32) × (Nat → Int32) × (Nat → Int32)) (gne_2 : (Nat → Nat → Int32) × (Nat → Nat → Int64)) : va_W := [(a0 0, .inr (3, [.int (ggm_0.1), .int (ggm_0.2.1), .int (ggm_0.2.2.1), .ref (a0 1), .ref (a0 2), .ref (a0 3), .ref (a0 4)])), (a0 1, .inl (cy 1, 5, .inl (ggm_0.2.2.2.1))), (a0 2, .inl (cy 1, 5, .inl (ggm_0.2.2.2.2.1))), (a0 3, .inl (cy 1, 5, .inl (ggm_0.2.2.2.2.2.1))), (a0 4, .inl (cy 4, 5, .inr (.inr (.inr (.inr (fun i => some ([a0 5, a0 6, a0 7, a0 8, a0 9].getD i 0))))))), (a0 5, .inl (cy 2, 26, .inr (.inl (ggm_0.2.2.2.2.2.2 0)))), (a0 6, .inl (cy 2, 26, .inr (.inl (ggm_0.2.2.2.2.2.2 1)))), (a0 7, .inl (cy 2, 26, .inr (.inl (ggm_0.2.2.2.2.2.2 2)))), (a0 8, .inl (cy 2, 26, .inr (.inl (ggm_0.2.2.2.2.2.2 3)))), (a0 9, .inl (cy 2, 26, .inr (.inl (ggm_0.2.2.2.2.2.2 4)))), (a1 0, .inr (7, [.int (gv_1.1), .int (gv_1.2.1), .ref (a1 1), .ref (a1 6), .ref (a1 10), .ref (a1 11), .ref (a1 12), .ref (a1 13), .ref (a1 14)])), (a1 10, .inl (cy 1, 5, .inl (gv_1.2.2.1))), (a1 11, .inl (cy 1, 5, .inl (gv_1.2.2.2.1))), (a1 12, .inl (cy 1, 5, .inl (gv_1.2.2.2.2.1))), (a1 13, .inl (cy 1, 5, .inl (gv_1.2.2.2.2.2.1))), (a1 14, .inl (cy 1, 5, .inl (gv_1.2.2.2.2.2.2))), (a2 0, .inr (4, [.ref (a2 1), .ref (a2 12)])), (a2 1, .inl (cy 3, 10, .inr (.inr (.inr (.inr (fun i => some ([a2 2, a2 3, a2 4, a2 5, a2 6, a2 7, a2 8, a2 9, a2 10, a2 11].getD i 0))))))), (a2 2, .inl (cy 1, 41, .inl (gne_2.1 0))), (a2 3, .inl (cy 1, 41, .inl (gne_2.1 1))), (a2 4, .inl (cy 1, 41, .inl (gne_2.1 2))), (a2 5, .inl (cy 1, 41, .inl (gne_2.1 3))), (a2 6, .inl (cy 1, 41, .inl (gne_2.1 4))), (a2 7, .inl (cy 1, 41, .inl (gne_2.1 5))), (a2 8, .inl (cy 1, 41, .inl (gne_2.1 6))), (a2 9, .inl (cy 1, 41, .inl (gne_2.1 7))), (a2 10, .inl (cy 1, 41, .inl (gne_2.1 8))), (a2 11, .inl (cy 1, 41, .inl (gne_2.1 9))), (a2 12, .inl (cy 4, 5, .inr (.inr (.inr (.inr (fun i => some ([a2 13, a2 14, a2 15, a2 16, a2 17].getD i 0))))))), (a2 13, .inl (cy 2, 41, .inr (.inl (gne_2.2 0)))), (a2 14, .inl (cy 2, 41, .inr (.inl (gne_2.2 1)))), (a2 15, .inl (cy 2, 41, .inr (.inl (gne_2.2 2)))), (a2 16, .inl (cy 2, 41, .inr (.inl (gne_2.2 3)))), (a2 17, .inl (cy 2, 41, .inr (.inl (gne_2.2 4))))]
abbrev rm_X5_setUp : Room := { frames := 3, cells := 0, slots := 0, locals := 64 }
set_option maxHeartbeats 1000000 in
set_option maxRecDepth 100000 in
theorem c_X5_setUp (l : Launch) (dC : Nat → ClassId) (dI : Nat → Nat → Nat) (cy : Nat → ClassId) (a0 : Nat → Nat) (a1 : Nat → Nat) (a2 : Nat → Nat) (ggm_0 : Int32 × Int32 × Int32 × (Nat → Int32) × (Nat → Int32) × (Nat → Int32) × (Nat → Nat → Int64)) (gv_1 : Int32 × Int32 × (Nat → Int32) × (Nat → Int32) × (Nat → Int32) × (Nat → Int32) × (Nat → Int32)) (gne_2 : (Nat → Nat → Int32) × (Nat → Nat → Int64)) (sz : Nat) (R0 : (Int32 × Int32 × Int32 × (Nat → Int32) × (Nat → Int32) × (Nat → Int32) × (Nat → Nat → Int64))) (h : p_X5_setUp ggm_0 gv_1 gne_2 = some R0) : Met l yX5_setUp wsX5_setUp rm_X5_setUp (va_Pc [.ref (a0 0), .ref (a1 0), .ref (a2 0)] (prC dC dI cy (w_X5_setUp cy a0 a1 a2 ggm_0 gv_1 gne_2) sz)) (va_Qv (fun (u : (Int32 × Int32 × Int32 × (Nat → Int32) × (Nat → Int32) × (Nat → Int32) × (Nat → Nat → Int64))) => u = R0) (fun (u : (Int32 × Int32 × Int32 × (Nat → Int32) × (Nat → Int32) × (Nat → Int32) × (Nat → Nat → Int64))) t => poC dC dI cy (w_X5_setUp cy a0 a1 a2 u gv_1 gne_2) t) (va_A (w_X5_setUp cy a0 a1 a2 ggm_0 gv_1 gne_2) sz)) 0 0 (va_A (w_X5_setUp cy a0 a1 a2 ggm_0 gv_1 gne_2) sz) := by
  refine Met.ofW (cc := cX5_setUp) (maxL := 5) (ret := none) (by decide) rfl ?_
  intro p e s m aa below meth c s₁ B hml hv
  obtain ⟨haa, hsz, hP, hK, hD0⟩ := hv
  have hx := B.exec
  have hb := B.bytes
  have hr := B.returns
  have hts := atoms_spec (ws := wsX5_setUp) B.pre
  have hown : s.vm.findClass RX5 = some m.cls := findClass_of_methodNamed B.named
  have hlocks := B.notSynchronized
  subst hsz
  have hD := hD0.self (sz := s.heap.size)
  obtain ⟨qq, hqq⟩ : ∃ qq, qq = (va_Qv (fun (u : (Int32 × Int32 × Int32 × (Nat → Int32) × (Nat → Int32) × (Nat → Int32) × (Nat → Nat → Int64))) => u = R0) (fun (u : (Int32 × Int32 × Int32 × (Nat → Int32) × (Nat → Int32) × (Nat → Int32) × (Nat → Nat → Int64))) t => poC dC dI cy (w_X5_setUp cy a0 a1 a2 u gv_1 gne_2) t) (va_A (w_X5_setUp cy a0 a1 a2 ggm_0 gv_1 gne_2) s.heap.size)) := ⟨_, rfl⟩
  rw [← hqq]
  generalize hAe : va_A (w_X5_setUp cy a0 a1 a2 ggm_0 gv_1 gne_2) s.heap.size = A at hD hqq ⊢
  have hA : ∀ q : Nat, s.heap.size ≤ q → A q := fun q h => by rw [← hAe]; exact Or.inr h
  have hS : va_S A s.heap s.heap [] := va_S.rf
  have hl := lv_entry ([.ref (a0 0), .ref (a1 0), .ref (a2 0)]) (n := 5) (Nat.le_of_ble_eq_true rfl)
  have hE : entryFrame m aa 5 = F0 m 0 ((lg_sl ([.ref (a0 0), .ref (a1 0), .ref (a2 0)]) ++ List.replicate (5 - (lg_sl ([.ref (a0 0), .ref (a1 0), .ref (a2 0)])).length) Slot.unset).toArray) [] := by rw [haa]; exact lg_entry_eq m _ 5
  refine W.eq hE ?_
  generalize (lg_sl ([.ref (a0 0), .ref (a1 0), .ref (a2 0)]) ++ List.replicate (5 - (lg_sl ([.ref (a0 0), .ref (a1 0), .ref (a2 0)])).length) Slot.unset).toArray = ls at hl ⊢
  have hl : lv_has ls 5 [(0, .ref (a0 0)), (1, .ref (a1 0)), (2, .ref (a2 0))] := hl
  change W p l e rm_X5_setUp s m aa below meth c s.heap [] 0 0 (MQ below qq aa s 0 0 A) (F0 m 0 ls [])
  have hS0 := hS
  have lk0 := hts (.fieldLink RX5 23 "GoatDoors$Game" "bestReplies" "[[J") (by decide +kernel)
  have lk1 := hts (.fieldLink RX5 9 "GoatDoors$Game" "limits" "[I") (by decide +kernel)
  have lk2 := hts (.fieldLink RX5 58 "GoatDoors$Game" "goats" "I") (by decide +kernel)
  have lk3 := hts (.fieldLink RX5 15 "GoatDoors$Game" "row" "[I") (by decide +kernel)
  have lk4 := hts (.methodLink RX5 68 Lib.Math.min.name) (by decide +kernel)
  have lk5 := hts (.static Lib.Math.min.name) (by decide +kernel)
  have lk6 := hts (.initialized "java/lang/Math") (by decide +kernel)
  have lk7 := hts (.code Lib.Math.min.name Lib.Math.min.code 2 (some .int)) (by decide +kernel)
  have lk8 := hts (.fieldLink RX5 48 "GoatDoors$Village" "owners" "I") (by decide +kernel)
  have lk9 := hts (.fieldLink RX5 53 "GoatDoors$Game" "owners" "I") (by decide +kernel)
  have in_X5 : ∀ w ∈ wsX50, w ∈ wsX5_setUp := by decide +kernel
  have in_X9 : ∀ w ∈ wsX90, w ∈ wsX5_setUp := by decide +kernel
  have c52 : ∀ (k18 : (Int32 × Int32 × Int32 × (Nat → Int32) × (Nat → Int32) × (Nat → Int32) × (Nat → Nat → Int64)) → Int32 → Option ((Int32 × Int32 × Int32 × (Nat → Int32) × (Nat → Int32) × (Nat → Int32) × (Nat → Nat → Int64)))) (hk18 : ∀ (ggm_0 : Int32 × Int32 × Int32 × (Nat → Int32) × (Nat → Int32) × (Nat → Int32) × (Nat → Nat → Int64)) (x3 : Int32) (H : Heap) (locs : List Loc) (ls : Array Slot), k18 ggm_0 x3 = some R0 → va_P (dC, dI) vwCl (w_X5_setUp cy a0 a1 a2 ggm_0 gv_1 gne_2) H → va_D A (w_X5_setUp cy a0 a1 a2 ggm_0 gv_1 gne_2) → va_S A s.heap H locs → lv_has ls 5 [(0, .ref (a0 0)), (1, .ref (a1 0)), (2, .ref (a2 0)), (3, .int x3)] → W p l e rm_X5_setUp s m aa below meth c H locs 0 0 (MQ below qq aa s 0 0 A) (F0 m 18 ls [])) (n : Nat), ∀ (ggm_0 : Int32 × Int32 × Int32 × (Nat → Int32) × (Nat → Int32) × (Nat → Int32) × (Nat → Nat → Int64)) (x3 : Int32) (x4 : Int32) (H : Heap) (locs : List Loc) (ls : Array Slot), p_X5_setUp_52 k18 gv_1 gne_2 n ggm_0 x3 x4 = some R0 → va_P (dC, dI) vwCl (w_X5_setUp cy a0 a1 a2 ggm_0 gv_1 gne_2) H → va_D A (w_X5_setUp cy a0 a1 a2 ggm_0 gv_1 gne_2) → va_S A s.heap H locs → lv_has ls 5 [(0, .ref (a0 0)), (1, .ref (a1 0)), (2, .ref (a2 0)), (3, .int x3), (4, .int x4)] → W p l e rm_X5_setUp s m aa below meth c H locs 0 0 (MQ below qq aa s 0 0 A) (F0 m 52 ls []) := by
    intro k18 hk18 n
    induction n with
    | zero => intro ggm_0 x3 x4 H locs ls h; exact no_some h
    | succ n ih =>
      intro ggm_0 x3 x4 H locs ls h hP hD hS hl
      rw [p_X5_setUp_52.eq_2] at h
      refine lv_iload hx hb dX5_setUp_52 (lv_at hl 4 rfl) ?_
      refine lv_bipush (v := (25 : Int32)) hx hb dX5_setUp_54 (by decide) ?_
      refine lv_icmp_gt (tgt := 92) hx hb dX5_setUp_56 (by decide) (fun c1 => ?_) (fun c1 => ?_)
      · rw [if_pos c1] at h
        refine lv_iinc (v := (x3 + (1 : Int32))) (lv' := [(3, .int (x3 + (1 : Int32))), (0, .ref (a0 0)), (1, .ref (a1 0)), (2, .ref (a2 0)), (4, .int x4)]) hx hb dX5_setUp_92 hl (k := 3) rfl rfl (by decide) rfl (fun ls hl => ?_)
        refine lv_goto (tgt := 18) hx hb dX5_setUp_95 (by decide) ?_
        exact hk18 ggm_0 (x3 + (1 : Int32)) H locs ls h hP hD hS (lv_sub hl [1, 2, 3, 0] rfl)
      · rw [if_neg c1] at h
        refine lv_aload_n hx hb dX5_setUp_59 rfl (lv_at hl 0 rfl) ?_
        refine va_get (D := (dC, dI)) (ci := 3) (v := .ref (a0 4)) (C := RX5) (T := TX5) (N := 7) hx hb hts in_X5 hown hK hP 0 rfl rfl 6 (by decide) lk0 (fun _ h9 => h9) rfl dX5_setUp_60 ?_
        refine lv_iload_n hx hb dX5_setUp_63 rfl (lv_at hl 3 rfl) ?_
        obtain ⟨hi2, h⟩ := ok_if h
        refine va_aldA hx hb hK hP 4 4 rfl rfl (ix_in hi2) dX5_setUp_64 ?_
        refine W.eq (g2 := F0 m 65 ls [.ref ([a0 5, a0 6, a0 7, a0 8, a0 9].getD (x3).toNatClampNeg 0)]) rfl ?_
        refine lv_iload hx hb dX5_setUp_65 (lv_at hl 4 rfl) ?_
        refine lv_aload_n hx hb dX5_setUp_67 rfl (lv_at hl 2 rfl) ?_
        refine lv_iload_n hx hb dX5_setUp_68 rfl (lv_at hl 3 rfl) ?_
        refine lv_aload_n hx hb dX5_setUp_69 rfl (lv_at hl 0 rfl) ?_
        refine va_get (D := (dC, dI)) (ci := 3) (v := .ref (a0 1)) (C := RX5) (T := TX5) (N := 7) hx hb hts in_X5 hown hK hP 0 rfl rfl 3 (by decide) lk1 (fun _ h9 => h9) rfl dX5_setUp_70 ?_
        refine lv_iload_n hx hb dX5_setUp_73 rfl (lv_at hl 3 rfl) ?_
        obtain ⟨hi3, h⟩ := ok_if h
        refine va_iald hx hb hK hP 1 1 rfl rfl (ix_in hi3) dX5_setUp_74 ?_
        refine lv_aload_n hx hb dX5_setUp_75 rfl (lv_at hl 0 rfl) ?_
        refine va_get (D := (dC, dI)) (ci := 3) (v := .int ggm_0.2.2.1) (C := RX5) (T := TX5) (N := 7) hx hb hts in_X5 hown hK hP 0 rfl rfl 2 (by decide) lk2 (fun _ h9 => h9) rfl dX5_setUp_76 ?_
        refine lv_iload hx hb dX5_setUp_79 (lv_at hl 4 rfl) ?_
        refine lv_isub hx hb dX5_setUp_81 ?_
        obtain ⟨v4, hv5, h⟩ := ok_bind h
        refine cl_sl (w2 := fun (_ : Unit) => w_X5_setUp cy a0 a1 a2 ggm_0 gv_1 gne_2) (As := [.ref (a2 0), .int x3, .int (ggm_0.2.2.2.1 x3.toNatClampNeg), .int (ggm_0.2.2.1 - x4)]) (rest := [.int x4, .ref ([a0 5, a0 6, a0 7, a0 8, a0 9].getD (x3).toNatClampNeg 0)]) ⟨hx, hb, hml, hown, hts⟩ (c_X5_bestReply l dC dI cy a2 gne_2 x3 (ggm_0.2.2.2.1 x3.toNatClampNeg) (ggm_0.2.2.1 - x4) H.size v4 hv5) (va_cwS 4 hts gX5_setUp_X5_bestReply rfl rfl rfl (by decide +kernel) ⟨Nat.le_of_ble_eq_true rfl, Nat.le_of_ble_eq_true rfl⟩) cl_blind (cl_pre hK hP hD [16, 17, 18, 19, 20, 21, 22, 23, 24, 25, 26, 27, 28, 29, 30, 31, 32, 33] (by decide) rfl) hP hD hS hA [16, 17, 18, 19, 20, 21, 22, 23, 24, 25, 26, 27, 28, 29, 30, 31, 32, 33] rfl rfl hl.1 rfl (lv_room (Nat.le_of_ble_eq_true rfl)) dX5_setUp_82 ⟨Nat.le_of_ble_eq_true rfl, Nat.le_of_ble_eq_true rfl⟩ ⟨rfl, rfl⟩ (fun _ => updR [16, 17, 18, 19, 20, 21, 22, 23, 24, 25, 26, 27, 28, 29, 30, 31, 32, 33] rfl) (fun r u H locs hw hP hD hS => ?_)
        have hw := hw.symm
        subst hw
        have hP : va_P (dC, dI) vwCl (w_X5_setUp cy a0 a1 a2 ggm_0 gv_1 gne_2) H := hP
        have hD : va_D A (w_X5_setUp cy a0 a1 a2 ggm_0 gv_1 gne_2) := hD
        obtain ⟨hi6, h⟩ := ok_if h
        refine va_last hx hb hK hP hD hS (5 + x3.toNatClampNeg) 2 (lt5 (P := fun z => (w_X5_setUp cy a0 a1 a2 ggm_0 gv_1 gne_2)[5 + z]? = some (([a0 5, a0 6, a0 7, a0 8, a0 9].getD z 0), .inl (cy 2, 26, .inr (.inl (ggm_0.2.2.2.2.2.2 z))))) (ix_lt hi2) rfl rfl rfl rfl rfl) rfl (ix_in hi6) dX5_setUp_85 (fun H locs hP hD hS => ?_)
        have e7 := lt5 (P := fun z => (w_X5_setUp cy a0 a1 a2 ggm_0 gv_1 gne_2).set (5 + z) (([a0 5, a0 6, a0 7, a0 8, a0 9].getD z 0), .inl (cy 2, 26, .inr (.inl ((vp_updL (ggm_0.2.2.2.2.2.2 z) x4.toNatClampNeg v4))))) = w_X5_setUp cy a0 a1 a2 ((ggm_0.1, ggm_0.2.1, ggm_0.2.2.1, ggm_0.2.2.2.1, ggm_0.2.2.2.2.1, ggm_0.2.2.2.2.2.1, (va_up ggm_0.2.2.2.2.2.2 z (vp_updL (ggm_0.2.2.2.2.2.2 z) x4.toNatClampNeg v4)))) gv_1 gne_2) (ix_lt hi2) rfl rfl rfl rfl rfl
        have hP : va_P (dC, dI) vwCl (w_X5_setUp cy a0 a1 a2 ((ggm_0.1, ggm_0.2.1, ggm_0.2.2.1, ggm_0.2.2.2.1, ggm_0.2.2.2.2.1, ggm_0.2.2.2.2.2.1, (va_up ggm_0.2.2.2.2.2.2 x3.toNatClampNeg (vp_updL (ggm_0.2.2.2.2.2.2 x3.toNatClampNeg) x4.toNatClampNeg v4)))) gv_1 gne_2) H := e7 ▸ hP
        have hD : va_D A (w_X5_setUp cy a0 a1 a2 ((ggm_0.1, ggm_0.2.1, ggm_0.2.2.1, ggm_0.2.2.2.1, ggm_0.2.2.2.2.1, ggm_0.2.2.2.2.2.1, (va_up ggm_0.2.2.2.2.2.2 x3.toNatClampNeg (vp_updL (ggm_0.2.2.2.2.2.2 x3.toNatClampNeg) x4.toNatClampNeg v4)))) gv_1 gne_2) := e7 ▸ hD
        refine lv_iinc (v := (x4 + (1 : Int32))) (lv' := [(4, .int (x4 + (1 : Int32))), (0, .ref (a0 0)), (1, .ref (a1 0)), (2, .ref (a2 0)), (3, .int x3)]) hx hb dX5_setUp_86 hl (k := 4) rfl rfl (by decide) rfl (fun ls hl => ?_)
        refine lv_goto (tgt := 52) hx hb dX5_setUp_89 (by decide) ?_
        exact ih (ggm_0.1, ggm_0.2.1, ggm_0.2.2.1, ggm_0.2.2.2.1, ggm_0.2.2.2.2.1, ggm_0.2.2.2.2.2.1, (va_up ggm_0.2.2.2.2.2.2 x3.toNatClampNeg (vp_updL (ggm_0.2.2.2.2.2.2 x3.toNatClampNeg) x4.toNatClampNeg v4))) x3 (x4 + (1 : Int32)) H locs ls h hP hD hS (lv_sub hl [1, 2, 3, 4, 0] rfl)
  have c18 : ∀ (n : Nat), ∀ (ggm_0 : Int32 × Int32 × Int32 × (Nat → Int32) × (Nat → Int32) × (Nat → Int32) × (Nat → Nat → Int64)) (x3 : Int32) (H : Heap) (locs : List Loc) (ls : Array Slot), p_X5_setUp_18 gv_1 gne_2 n ggm_0 x3 = some R0 → va_P (dC, dI) vwCl (w_X5_setUp cy a0 a1 a2 ggm_0 gv_1 gne_2) H → va_D A (w_X5_setUp cy a0 a1 a2 ggm_0 gv_1 gne_2) → va_S A s.heap H locs → lv_has ls 5 [(0, .ref (a0 0)), (1, .ref (a1 0)), (2, .ref (a2 0)), (3, .int x3)] → W p l e rm_X5_setUp s m aa below meth c H locs 0 0 (MQ below qq aa s 0 0 A) (F0 m 18 ls []) := by
    intro  n
    induction n with
    | zero => intro ggm_0 x3 H locs ls h; exact no_some h
    | succ n ih =>
      intro ggm_0 x3 H locs ls h hP hD hS hl
      rw [p_X5_setUp_18.eq_2] at h
      refine lv_iload_n hx hb dX5_setUp_18 rfl (lv_at hl 3 rfl) ?_
      refine lv_iconst (v := (5 : Int32)) hx hb dX5_setUp_19 (by decide) ?_
      refine lv_icmp_ge (tgt := 98) hx hb dX5_setUp_20 (by decide) (fun c1 => ?_) (fun c1 => ?_)
      · rw [if_pos c1] at h
        exact W.vret hx hb hr (fun t ht hW => by rw [hqq]; have hh := Option.some.inj h; exact ⟨⟨(ggm_0), rfl, Option.some.inj h, by rw [ht]; exact hP, va_K.moved hW.alike hK⟩, hS.F ht⟩) hS.2.2 dX5_setUp_98
      · rw [if_neg c1] at h
        refine lv_aload_n hx hb dX5_setUp_23 rfl (lv_at hl 0 rfl) ?_
        refine va_get (D := (dC, dI)) (ci := 3) (v := .ref (a0 2)) (C := RX5) (T := TX5) (N := 7) hx hb hts in_X5 hown hK hP 0 rfl rfl 4 (by decide) lk3 (fun _ h9 => h9) rfl dX5_setUp_24 ?_
        refine lv_iload_n hx hb dX5_setUp_27 rfl (lv_at hl 3 rfl) ?_
        refine lv_iconst (v := (0 : Int32)) hx hb dX5_setUp_28 (by decide) ?_
        obtain ⟨hi2, h⟩ := ok_if h
        refine va_iast hx hb hK hP hD hS 2 1 rfl rfl (ix_in hi2) dX5_setUp_29 (fun H locs hP hD hS => ?_)
        have hP : va_P (dC, dI) vwCl (w_X5_setUp cy a0 a1 a2 ((ggm_0.1, ggm_0.2.1, ggm_0.2.2.1, ggm_0.2.2.2.1, (upd ggm_0.2.2.2.2.1 x3.toNatClampNeg (0 : Int32)), ggm_0.2.2.2.2.2)) gv_1 gne_2) H := hP
        have hD : va_D A (w_X5_setUp cy a0 a1 a2 ((ggm_0.1, ggm_0.2.1, ggm_0.2.2.1, ggm_0.2.2.2.1, (upd ggm_0.2.2.2.2.1 x3.toNatClampNeg (0 : Int32)), ggm_0.2.2.2.2.2)) gv_1 gne_2) := hD
        refine lv_aload_n hx hb dX5_setUp_30 rfl (lv_at hl 0 rfl) ?_
        refine va_get (D := (dC, dI)) (ci := 3) (v := .ref (a0 1)) (C := RX5) (T := TX5) (N := 7) hx hb hts in_X5 hown hK hP 0 rfl rfl 3 (by decide) lk1 (fun _ h9 => h9) rfl dX5_setUp_31 ?_
        refine lv_iload_n hx hb dX5_setUp_34 rfl (lv_at hl 3 rfl) ?_
        refine lv_aload_n hx hb dX5_setUp_35 rfl (lv_at hl 1 rfl) ?_
        refine lv_iload_n hx hb dX5_setUp_36 rfl (lv_at hl 3 rfl) ?_
        obtain ⟨v3, hv4, h⟩ := ok_bind h
        refine cl_vi (w2 := fun (_ : Unit) => w_X5_setUp cy a0 a1 a2 ((ggm_0.1, ggm_0.2.1, ggm_0.2.2.1, ggm_0.2.2.2.1, (upd ggm_0.2.2.2.2.1 x3.toNatClampNeg (0 : Int32)), ggm_0.2.2.2.2.2)) gv_1 gne_2) (As := [.int x3]) (rest := [.int x3, .ref (a0 1)]) ⟨hx, hb, hml, hown, hts⟩ (c_X9_hidesOf l dC dI cy a1 gv_1 x3 H.size v3 hv4) (cwV 1 hts gX5_setUp_X9_hidesOf rfl rfl rfl (by decide +kernel) ⟨Nat.le_of_ble_eq_true rfl, Nat.le_of_ble_eq_true rfl⟩) (va_recv hK hP (ci := 7) (q0 := 10) rfl rfl) cl_blind (cl_pre hK hP hD [10, 11, 12, 13, 14, 15] (by decide) rfl) hP hD hS hA [10, 11, 12, 13, 14, 15] rfl rfl hl.1 rfl (lv_room (Nat.le_of_ble_eq_true rfl)) dX5_setUp_37 ⟨Nat.le_of_ble_eq_true rfl, Nat.le_of_ble_eq_true rfl⟩ ⟨rfl, rfl⟩ (fun _ => updR [10, 11, 12, 13, 14, 15] rfl) (fun r u H locs hw hP hD hS => ?_)
        have hw := hw.symm
        subst hw
        have hP : va_P (dC, dI) vwCl (w_X5_setUp cy a0 a1 a2 ((ggm_0.1, ggm_0.2.1, ggm_0.2.2.1, ggm_0.2.2.2.1, (upd ggm_0.2.2.2.2.1 x3.toNatClampNeg (0 : Int32)), ggm_0.2.2.2.2.2)) gv_1 gne_2) H := hP
        have hD : va_D A (w_X5_setUp cy a0 a1 a2 ((ggm_0.1, ggm_0.2.1, ggm_0.2.2.1, ggm_0.2.2.2.1, (upd ggm_0.2.2.2.2.1 x3.toNatClampNeg (0 : Int32)), ggm_0.2.2.2.2.2)) gv_1 gne_2) := hD
        refine lv_aload_n hx hb dX5_setUp_40 rfl (lv_at hl 1 rfl) ?_
        refine lv_iload_n hx hb dX5_setUp_41 rfl (lv_at hl 3 rfl) ?_
        obtain ⟨v5, hv6, h⟩ := ok_bind h
        refine cl_vi (w2 := fun (_ : Unit) => w_X5_setUp cy a0 a1 a2 ((ggm_0.1, ggm_0.2.1, ggm_0.2.2.1, ggm_0.2.2.2.1, (upd ggm_0.2.2.2.2.1 x3.toNatClampNeg (0 : Int32)), ggm_0.2.2.2.2.2)) gv_1 gne_2) (As := [.int x3]) (rest := [.int v3, .int x3, .ref (a0 1)]) ⟨hx, hb, hml, hown, hts⟩ (c_X9_goatsOf l dC dI cy a1 gv_1 x3 H.size v5 hv6) (cwV 1 hts gX5_setUp_X9_goatsOf rfl rfl rfl (by decide +kernel) ⟨Nat.le_of_ble_eq_true rfl, Nat.le_of_ble_eq_true rfl⟩) (va_recv hK hP (ci := 7) (q0 := 10) rfl rfl) cl_blind (cl_pre hK hP hD [10, 11, 12, 13, 14, 15] (by decide) rfl) hP hD hS hA [10, 11, 12, 13, 14, 15] rfl rfl hl.1 rfl (lv_room (Nat.le_of_ble_eq_true rfl)) dX5_setUp_42 ⟨Nat.le_of_ble_eq_true rfl, Nat.le_of_ble_eq_true rfl⟩ ⟨rfl, rfl⟩ (fun _ => updR [10, 11, 12, 13, 14, 15] rfl) (fun r u H locs hw hP hD hS => ?_)
        have hw := hw.symm
        subst hw
        have hP : va_P (dC, dI) vwCl (w_X5_setUp cy a0 a1 a2 ((ggm_0.1, ggm_0.2.1, ggm_0.2.2.1, ggm_0.2.2.2.1, (upd ggm_0.2.2.2.2.1 x3.toNatClampNeg (0 : Int32)), ggm_0.2.2.2.2.2)) gv_1 gne_2) H := hP
        have hD : va_D A (w_X5_setUp cy a0 a1 a2 ((ggm_0.1, ggm_0.2.1, ggm_0.2.2.1, ggm_0.2.2.2.1, (upd ggm_0.2.2.2.2.1 x3.toNatClampNeg (0 : Int32)), ggm_0.2.2.2.2.2)) gv_1 gne_2) := hD
        refine va_mmin hx hb (by rw [hml]; exact hl.1.symm) hown lk4 lk5 lk6 lk7 (Nat.le_of_ble_eq_true rfl) (Nat.le_of_ble_eq_true rfl) (Nat.le_of_ble_eq_true rfl) (Nat.le_of_ble_eq_true rfl) dX5_setUp_45 ?_
        obtain ⟨hi7, h⟩ := ok_if h
        refine va_iast hx hb hK hP hD hS 1 1 rfl rfl (ix_in hi7) dX5_setUp_48 (fun H locs hP hD hS => ?_)
        have hP : va_P (dC, dI) vwCl (w_X5_setUp cy a0 a1 a2 ((ggm_0.1, ggm_0.2.1, ggm_0.2.2.1, (upd ggm_0.2.2.2.1 x3.toNatClampNeg (if v5 < v3 then v5 else v3)), (upd ggm_0.2.2.2.2.1 x3.toNatClampNeg (0 : Int32)), ggm_0.2.2.2.2.2)) gv_1 gne_2) H := hP
        have hD : va_D A (w_X5_setUp cy a0 a1 a2 ((ggm_0.1, ggm_0.2.1, ggm_0.2.2.1, (upd ggm_0.2.2.2.1 x3.toNatClampNeg (if v5 < v3 then v5 else v3)), (upd ggm_0.2.2.2.2.1 x3.toNatClampNeg (0 : Int32)), ggm_0.2.2.2.2.2)) gv_1 gne_2) := hD
        refine lv_iconst (v := (0 : Int32)) hx hb dX5_setUp_49 (by decide) ?_
        refine lv_istore (lv' := [(4, .int (0 : Int32)), (0, .ref (a0 0)), (1, .ref (a1 0)), (2, .ref (a2 0)), (3, .int x3)]) hx hb dX5_setUp_50 hl (by decide) rfl (fun ls hl => ?_)
        exact c52 (p_X5_setUp_18 gv_1 gne_2 n) ih fu (ggm_0.1, ggm_0.2.1, ggm_0.2.2.1, (upd ggm_0.2.2.2.1 x3.toNatClampNeg (if v5 < v3 then v5 else v3)), (upd ggm_0.2.2.2.2.1 x3.toNatClampNeg (0 : Int32)), ggm_0.2.2.2.2.2) x3 (0 : Int32) H locs ls h hP hD hS (lv_sub hl [1, 2, 3, 4, 0] rfl)
  obtain ⟨H, hH⟩ : ∃ H : Heap, H = s.heap := ⟨_, rfl⟩
  obtain ⟨locs, hlocs⟩ : ∃ locs : List Loc, locs = [] := ⟨_, rfl⟩
  have hS : va_S A s.heap H locs := by rw [hH, hlocs]; exact hS
  rw [← hH] at hP
  suffices hg : W p l e rm_X5_setUp s m aa below meth c H locs 0 0 (MQ below qq aa s 0 0 A) (F0 m 0 ls []) by subst hH; subst hlocs; exact hg
  unfold p_X5_setUp at h
  refine lv_aload_n hx hb dX5_setUp_0 rfl (lv_at hl 0 rfl) ?_
  refine lv_aload_n hx hb dX5_setUp_1 rfl (lv_at hl 1 rfl) ?_
  refine va_get (D := (dC, dI)) (ci := 7) (v := .int gv_1.1) (C := RX9) (T := TX9) (N := 9) hx hb hts in_X9 hown hK hP 10 rfl rfl 0 (by decide) lk8 (fun _ h9 => h9) rfl dX5_setUp_2 ?_
  refine va_put (D := (dC, dI)) (ci := 3) (v := .int gv_1.1) (ty := .int) (C := RX5) (T := TX5) (N := 7) hx hb hts in_X5 tyX5 tyX5_ok nmX5 hown hK hP hD hS 0 rfl rfl 1 (by decide) lk9 (fun _ h9 => h9) rfl (by decide +kernel) rfl rfl (Nat.le_of_ble_eq_true rfl) dX5_setUp_5 (fun H locs hP hD hS => ?_)
  have hP : va_P (dC, dI) vwCl (w_X5_setUp cy a0 a1 a2 ((ggm_0.1, gv_1.1, ggm_0.2.2)) gv_1 gne_2) H := hP
  have hD : va_D A (w_X5_setUp cy a0 a1 a2 ((ggm_0.1, gv_1.1, ggm_0.2.2)) gv_1 gne_2) := hD
  refine lv_aload_n hx hb dX5_setUp_8 rfl (lv_at hl 0 rfl) ?_
  refine lv_aload_n hx hb dX5_setUp_9 rfl (lv_at hl 1 rfl) ?_
  obtain ⟨v1, hv2, h⟩ := ok_bind h
  refine cl_vi (w2 := fun (_ : Unit) => w_X5_setUp cy a0 a1 a2 ((ggm_0.1, gv_1.1, ggm_0.2.2)) gv_1 gne_2) (As := []) (rest := [.ref (a0 0)]) ⟨hx, hb, hml, hown, hts⟩ (c_X9_allGoats l dC dI cy a1 gv_1 H.size v1 hv2) (cwV 0 hts gX5_setUp_X9_allGoats rfl rfl rfl (by decide +kernel) ⟨Nat.le_of_ble_eq_true rfl, Nat.le_of_ble_eq_true rfl⟩) (va_recv hK hP (ci := 7) (q0 := 10) rfl rfl) cl_blind (cl_pre hK hP hD [10, 11, 12, 13, 14, 15] (by decide) rfl) hP hD hS hA [10, 11, 12, 13, 14, 15] rfl rfl hl.1 rfl (lv_room (Nat.le_of_ble_eq_true rfl)) dX5_setUp_10 ⟨Nat.le_of_ble_eq_true rfl, Nat.le_of_ble_eq_true rfl⟩ ⟨rfl, rfl⟩ (fun _ => updR [10, 11, 12, 13, 14, 15] rfl) (fun r u H locs hw hP hD hS => ?_)
  have hw := hw.symm
  subst hw
  have hP : va_P (dC, dI) vwCl (w_X5_setUp cy a0 a1 a2 ((ggm_0.1, gv_1.1, ggm_0.2.2)) gv_1 gne_2) H := hP
  have hD : va_D A (w_X5_setUp cy a0 a1 a2 ((ggm_0.1, gv_1.1, ggm_0.2.2)) gv_1 gne_2) := hD
  refine va_put (D := (dC, dI)) (ci := 3) (v := .int v1) (ty := .int) (C := RX5) (T := TX5) (N := 7) hx hb hts in_X5 tyX5 tyX5_ok nmX5 hown hK hP hD hS 0 rfl rfl 2 (by decide) lk2 (fun _ h9 => h9) rfl (by decide +kernel) rfl rfl (Nat.le_of_ble_eq_true rfl) dX5_setUp_13 (fun H locs hP hD hS => ?_)
  have hP : va_P (dC, dI) vwCl (w_X5_setUp cy a0 a1 a2 ((ggm_0.1, gv_1.1, v1, ggm_0.2.2.2)) gv_1 gne_2) H := hP
  have hD : va_D A (w_X5_setUp cy a0 a1 a2 ((ggm_0.1, gv_1.1, v1, ggm_0.2.2.2)) gv_1 gne_2) := hD
  refine lv_iconst (v := (0 : Int32)) hx hb dX5_setUp_16 (by decide) ?_
  refine lv_istore_n (lv' := [(3, .int (0 : Int32)), (0, .ref (a0 0)), (1, .ref (a1 0)), (2, .ref (a2 0))]) hx hb dX5_setUp_17 rfl hl (by decide) rfl (fun ls hl => ?_)
  exact c18 fu (ggm_0.1, gv_1.1, v1, ggm_0.2.2.2) (0 : Int32) H locs ls h hP hD hS (lv_sub hl [1, 2, 3, 0] rfl)

abbrev w_X5_rowRests (cy : Nat → ClassId) (a0 : Nat → Nat) (a1 : Nat → Nat) (ggm_0 : Int32 × Int32 × Int32 × (Nat → Int32) × (Nat → Int32) × (Nat → Int32) × (Nat → Nat → Int64)) (gne_1 : (Nat → Nat → Int32) × (Nat → Nat → Int64)) : va_W := [(a0 0, .inr (3, [.int (ggm_0.1), .int (ggm_0.2.1), .int (ggm_0.2.2.1), .ref (a0 1), .ref (a0 2), .ref (a0 3), .ref (a0 4)])), (a0 1, .inl (cy 1, 5, .inl (ggm_0.2.2.2.1))), (a0 2, .inl (cy 1, 5, .inl (ggm_0.2.2.2.2.1))), (a0 3, .inl (cy 1, 5, .inl (ggm_0.2.2.2.2.2.1))), (a0 4, .inl (cy 4, 5, .inr (.inr (.inr (.inr (fun i => some ([a0 5, a0 6, a0 7, a0 8, a0 9].getD i 0))))))), (a0 5, .inl (cy 2, 26, .inr (.inl (ggm_0.2.2.2.2.2.2 0)))), (a0 6, .inl (cy 2, 26, .inr (.inl (ggm_0.2.2.2.2.2.2 1)))), (a0 7, .inl (cy 2, 26, .inr (.inl (ggm_0.2.2.2.2.2.2 2)))), (a0 8, .inl (cy 2, 26, .inr (.inl (ggm_0.2.2.2.2.2.2 3)))), (a0 9, .inl (cy 2, 26, .inr (.inl (ggm_0.2.2.2.2.2.2 4)))), (a1 0, .inr (4, [.ref (a1 1), .ref (a1 12)])), (a1 1, .inl (cy 3, 10, .inr (.inr (.inr (.inr (fun i => some ([a1 2, a1 3, a1 4, a1 5, a1 6, a1 7, a1 8, a1 9, a1 10, a1 11].getD i 0))))))), (a1 2, .inl (cy 1, 41, .inl (gne_1.1 0))), (a1 3, .inl (cy 1, 41, .inl (gne_1.1 1))), (a1 4, .inl (cy 1, 41, .inl (gne_1.1 2))), (a1 5, .inl (cy 1, 41, .inl (gne_1.1 3))), (a1 6, .inl (cy 1, 41, .inl (gne_1.1 4))), (a1 7, .inl (cy 1, 41, .inl (gne_1.1 5))), (a1 8, .inl (cy 1, 41, .inl (gne_1.1 6))), (a1 9, .inl (cy 1, 41, .inl (gne_1.1 7))), (a1 10, .inl (cy 1, 41, .inl (gne_1.1 8))), (a1 11, .inl (cy 1, 41, .inl (gne_1.1 9))), (a1 12, .inl (cy 4, 5, .inr (.inr (.inr (.inr (fun i => some ([a1 13, a1 14, a1 15, a1 16, a1 17].getD i 0))))))), (a1 13, .inl (cy 2, 41, .inr (.inl (gne_1.2 0)))), (a1 14, .inl (cy 2, 41, .inr (.inl (gne_1.2 1)))), (a1 15, .inl (cy 2, 41, .inr (.inl (gne_1.2 2)))), (a1 16, .inl (cy 2, 41, .inr (.inl (gne_1.2 3)))), (a1 17, .inl (cy 2, 41, .inr (.inl (gne_1.2 4))))]
abbrev rm_X5_rowRests : Room := { frames := 1, cells := 0, slots := 0, locals := 22 }
set_option maxHeartbeats 1000000 in
set_option maxRecDepth 100000 in
theorem c_X5_rowRests (l : Launch) (dC : Nat → ClassId) (dI : Nat → Nat → Nat) (cy : Nat → ClassId) (a0 : Nat → Nat) (a1 : Nat → Nat) (ggm_0 : Int32 × Int32 × Int32 × (Nat → Int32) × (Nat → Int32) × (Nat → Int32) × (Nat → Nat → Int64)) (gne_1 : (Nat → Nat → Int32) × (Nat → Nat → Int64)) (sz : Nat) (R0 : Int32) (h : p_X5_rowRests ggm_0 gne_1 = some R0) : Met l yX5_rowRests wsX5_rowRests rm_X5_rowRests (va_Pc [.ref (a0 0), .ref (a1 0)] (prC dC dI cy (w_X5_rowRests cy a0 a1 ggm_0 gne_1) sz)) (va_Qi (fun (r : Int32) (_ : Unit) => r = R0) (fun (_ : Unit) t => poC dC dI cy (w_X5_rowRests cy a0 a1 ggm_0 gne_1) t) (va_A (w_X5_rowRests cy a0 a1 ggm_0 gne_1) sz)) 0 0 (va_A (w_X5_rowRests cy a0 a1 ggm_0 gne_1) sz) := by
  refine Met.ofW (cc := cX5_rowRests) (maxL := 5) (ret := (some .boolean)) (by decide) rfl ?_
  intro p e s m aa below meth c s₁ B hml hv
  obtain ⟨haa, hsz, hP, hK, hD0⟩ := hv
  have hx := B.exec
  have hb := B.bytes
  have hr := B.returns
  have hts := atoms_spec (ws := wsX5_rowRests) B.pre
  have hown : s.vm.findClass RX5 = some m.cls := findClass_of_methodNamed B.named
  have hlocks := B.notSynchronized
  subst hsz
  have hD := hD0.self (sz := s.heap.size)
  obtain ⟨qq, hqq⟩ : ∃ qq, qq = (va_Qi (fun (r : Int32) (_ : Unit) => r = R0) (fun (_ : Unit) t => poC dC dI cy (w_X5_rowRests cy a0 a1 ggm_0 gne_1) t) (va_A (w_X5_rowRests cy a0 a1 ggm_0 gne_1) s.heap.size)) := ⟨_, rfl⟩
  rw [← hqq]
  generalize hAe : va_A (w_X5_rowRests cy a0 a1 ggm_0 gne_1) s.heap.size = A at hD hqq ⊢
  have hA : ∀ q : Nat, s.heap.size ≤ q → A q := fun q h => by rw [← hAe]; exact Or.inr h
  have hS : va_S A s.heap s.heap [] := va_S.rf
  have hl := lv_entry ([.ref (a0 0), .ref (a1 0)]) (n := 5) (Nat.le_of_ble_eq_true rfl)
  have hE : entryFrame m aa 5 = F0 m 0 ((lg_sl ([.ref (a0 0), .ref (a1 0)]) ++ List.replicate (5 - (lg_sl ([.ref (a0 0), .ref (a1 0)])).length) Slot.unset).toArray) [] := by rw [haa]; exact lg_entry_eq m _ 5
  refine W.eq hE ?_
  generalize (lg_sl ([.ref (a0 0), .ref (a1 0)]) ++ List.replicate (5 - (lg_sl ([.ref (a0 0), .ref (a1 0)])).length) Slot.unset).toArray = ls at hl ⊢
  have hl : lv_has ls 5 [(0, .ref (a0 0)), (1, .ref (a1 0))] := hl
  change W p l e rm_X5_rowRests s m aa below meth c s.heap [] 0 0 (MQ below qq aa s 0 0 A) (F0 m 0 ls [])
  have hS0 := hS
  have lk0 := hts (.fieldLink RX5 53 "GoatDoors$Game" "owners" "I") (by decide +kernel)
  have lk1 := hts (.fieldLink RX5 15 "GoatDoors$Game" "row" "[I") (by decide +kernel)
  have lk2 := hts (.fieldLink RX5 58 "GoatDoors$Game" "goats" "I") (by decide +kernel)
  have lk3 := hts (.fieldLink RX5 23 "GoatDoors$Game" "bestReplies" "[[J") (by decide +kernel)
  have in_X5 : ∀ w ∈ wsX50, w ∈ wsX5_rowRests := by decide +kernel
  have c87 : ∀ (k26 : Int32 → Int32 → Option (Int32)) (hk26 : ∀ (x2 : Int32) (x3 : Int32) (H : Heap) (locs : List Loc) (ls : Array Slot), k26 x2 x3 = some R0 → va_P (dC, dI) vwCl (w_X5_rowRests cy a0 a1 ggm_0 gne_1) H → va_D A (w_X5_rowRests cy a0 a1 ggm_0 gne_1) → va_S A s.heap H locs → lv_has ls 5 [(0, .ref (a0 0)), (1, .ref (a1 0)), (2, .int x2), (3, .int x3)] → W p l e rm_X5_rowRests s m aa below meth c H locs 0 0 (MQ below qq aa s 0 0 A) (F0 m 26 ls [])), ∀ (x2 : Int32) (x3 : Int32) (H : Heap) (locs : List Loc) (ls : Array Slot), p_X5_rowRests_87 k26 ggm_0 gne_1 x2 x3 = some R0 → va_P (dC, dI) vwCl (w_X5_rowRests cy a0 a1 ggm_0 gne_1) H → va_D A (w_X5_rowRests cy a0 a1 ggm_0 gne_1) → va_S A s.heap H locs → lv_has ls 5 [(0, .ref (a0 0)), (1, .ref (a1 0)), (2, .int x2), (3, .int x3)] → W p l e rm_X5_rowRests s m aa below meth c H locs 0 0 (MQ below qq aa s 0 0 A) (F0 m 87 ls []) := by
    intro k26 hk26 x2 x3 H locs ls h hP hD hS hl
    unfold p_X5_rowRests_87 at h
    refine lv_iinc (v := (x3 + (1 : Int32))) (lv' := [(3, .int (x3 + (1 : Int32))), (0, .ref (a0 0)), (1, .ref (a1 0)), (2, .int x2)]) hx hb dX5_rowRests_87 hl (k := 3) rfl rfl (by decide) rfl (fun ls hl => ?_)
    refine lv_goto (tgt := 26) hx hb dX5_rowRests_90 (by decide) ?_
    exact hk26 x2 (x3 + (1 : Int32)) H locs ls h hP hD hS (lv_sub hl [1, 2, 3, 0] rfl)
  have c26 : ∀ (n : Nat), ∀ (x2 : Int32) (x3 : Int32) (H : Heap) (locs : List Loc) (ls : Array Slot), p_X5_rowRests_26 ggm_0 gne_1 n x2 x3 = some R0 → va_P (dC, dI) vwCl (w_X5_rowRests cy a0 a1 ggm_0 gne_1) H → va_D A (w_X5_rowRests cy a0 a1 ggm_0 gne_1) → va_S A s.heap H locs → lv_has ls 5 [(0, .ref (a0 0)), (1, .ref (a1 0)), (2, .int x2), (3, .int x3)] → W p l e rm_X5_rowRests s m aa below meth c H locs 0 0 (MQ below qq aa s 0 0 A) (F0 m 26 ls []) := by
    intro  n
    induction n with
    | zero => intro x2 x3 H locs ls h; exact no_some h
    | succ n ih =>
      intro x2 x3 H locs ls h hP hD hS hl
      rw [p_X5_rowRests_26.eq_2] at h
      refine lv_iload_n hx hb dX5_rowRests_26 rfl (lv_at hl 3 rfl) ?_
      refine lv_iconst (v := (5 : Int32)) hx hb dX5_rowRests_27 (by decide) ?_
      refine lv_icmp_ge (tgt := 93) hx hb dX5_rowRests_28 (by decide) (fun c1 => ?_) (fun c1 => ?_)
      · rw [if_pos c1] at h
        refine lv_iconst (v := (1 : Int32)) hx hb dX5_rowRests_93 (by decide) ?_
        exact W.zret (v := (1 : Int32)) (ty := .boolean) hx hb hr rfl (fun t ht hW => by rw [hqq]; have hh := Option.some.inj h; exact ⟨⟨(1 : Int32), (()), rfl, Option.some.inj h, by rw [ht]; exact hP, va_K.moved hW.alike hK⟩, hS.F ht⟩) hS.2.2 dX5_rowRests_94
      · rw [if_neg c1] at h
        refine lv_iload_n hx hb dX5_rowRests_31 rfl (lv_at hl 3 rfl) ?_
        refine lv_aload_n hx hb dX5_rowRests_32 rfl (lv_at hl 0 rfl) ?_
        refine va_get (D := (dC, dI)) (ci := 3) (v := .int ggm_0.2.1) (C := RX5) (T := TX5) (N := 7) hx hb hts in_X5 hown hK hP 0 rfl rfl 1 (by decide) lk0 (fun _ h9 => h9) rfl dX5_rowRests_33 ?_
        refine lv_icmp_ge (tgt := 93) hx hb dX5_rowRests_36 (by decide) (fun c2 => ?_) (fun c2 => ?_)
        · rw [if_pos c2] at h
          refine lv_iconst (v := (1 : Int32)) hx hb dX5_rowRests_93 (by decide) ?_
          exact W.zret (v := (1 : Int32)) (ty := .boolean) hx hb hr rfl (fun t ht hW => by rw [hqq]; have hh := Option.some.inj h; exact ⟨⟨(1 : Int32), (()), rfl, Option.some.inj h, by rw [ht]; exact hP, va_K.moved hW.alike hK⟩, hS.F ht⟩) hS.2.2 dX5_rowRests_94
        · rw [if_neg c2] at h
          refine lv_iload_n hx hb dX5_rowRests_39 rfl (lv_at hl 2 rfl) ?_
          refine lv_aload_n hx hb dX5_rowRests_40 rfl (lv_at hl 0 rfl) ?_
          refine va_get (D := (dC, dI)) (ci := 3) (v := .ref (a0 2)) (C := RX5) (T := TX5) (N := 7) hx hb hts in_X5 hown hK hP 0 rfl rfl 4 (by decide) lk1 (fun _ h9 => h9) rfl dX5_rowRests_41 ?_
          refine lv_iload_n hx hb dX5_rowRests_44 rfl (lv_at hl 3 rfl) ?_
          obtain ⟨hi3, h⟩ := ok_if h
          refine va_iald hx hb hK hP 2 1 rfl rfl (ix_in hi3) dX5_rowRests_45 ?_
          refine lv_isub hx hb dX5_rowRests_46 ?_
          refine lv_istore (lv' := [(4, .int (x2 - (ggm_0.2.2.2.2.1 x3.toNatClampNeg))), (0, .ref (a0 0)), (1, .ref (a1 0)), (2, .int x2), (3, .int x3)]) hx hb dX5_rowRests_47 hl (by decide) rfl (fun ls hl => ?_)
          refine lv_iload hx hb dX5_rowRests_49 (lv_at hl 0 rfl) ?_
          refine lv_if_lt (tgt := 87) hx hb dX5_rowRests_51 (by decide) (fun c4 => ?_) (fun c4 => ?_)
          · rw [if_pos c4] at h
            exact c87 (p_X5_rowRests_26 ggm_0 gne_1 n) ih x2 x3 H locs ls h hP hD hS (lv_sub hl [1, 2, 3, 4] rfl)
          · rw [if_neg c4] at h
            refine lv_iload hx hb dX5_rowRests_54 (lv_at hl 0 rfl) ?_
            refine lv_bipush (v := (25 : Int32)) hx hb dX5_rowRests_56 (by decide) ?_
            refine lv_icmp_gt (tgt := 87) hx hb dX5_rowRests_58 (by decide) (fun c5 => ?_) (fun c5 => ?_)
            · rw [if_pos c5] at h
              exact c87 (p_X5_rowRests_26 ggm_0 gne_1 n) ih x2 x3 H locs ls h hP hD hS (lv_sub hl [1, 2, 3, 4] rfl)
            · rw [if_neg c5] at h
              refine lv_aload_n hx hb dX5_rowRests_61 rfl (lv_at hl 2 rfl) ?_
              refine lv_iload_n hx hb dX5_rowRests_62 rfl (lv_at hl 4 rfl) ?_
              refine lv_aload_n hx hb dX5_rowRests_63 rfl (lv_at hl 1 rfl) ?_
              refine va_get (D := (dC, dI)) (ci := 3) (v := .int ggm_0.2.2.1) (C := RX5) (T := TX5) (N := 7) hx hb hts in_X5 hown hK hP 0 rfl rfl 2 (by decide) lk2 (fun _ h9 => h9) rfl dX5_rowRests_64 ?_
              refine lv_iload_n hx hb dX5_rowRests_67 rfl (lv_at hl 3 rfl) ?_
              refine lv_isub hx hb dX5_rowRests_68 ?_
              obtain ⟨v6, hv7, h⟩ := ok_bind h
              refine cl_vl (w2 := fun (_ : Unit) => w_X5_rowRests cy a0 a1 ggm_0 gne_1) (As := [.int x3, .int (ggm_0.2.2.1 - x2)]) (rest := []) ⟨hx, hb, hml, hown, hts⟩ (c_X6_netIn l dC dI cy a1 gne_1 x3 (ggm_0.2.2.1 - x2) H.size v6 hv7) (cwV 2 hts gX5_rowRests_X6_netIn rfl rfl rfl (by decide +kernel) ⟨Nat.le_of_ble_eq_true rfl, Nat.le_of_ble_eq_true rfl⟩) (va_recv hK hP (ci := 4) (q0 := 10) rfl rfl) cl_blind (cl_pre hK hP hD [10, 11, 12, 13, 14, 15, 16, 17, 18, 19, 20, 21, 22, 23, 24, 25, 26, 27] (by decide) rfl) hP hD hS hA [10, 11, 12, 13, 14, 15, 16, 17, 18, 19, 20, 21, 22, 23, 24, 25, 26, 27] rfl rfl hl.1 rfl (lv_room (Nat.le_of_ble_eq_true rfl)) dX5_rowRests_69 ⟨Nat.le_of_ble_eq_true rfl, Nat.le_of_ble_eq_true rfl⟩ ⟨rfl, rfl⟩ (fun _ => updR [10, 11, 12, 13, 14, 15, 16, 17, 18, 19, 20, 21, 22, 23, 24, 25, 26, 27] rfl) (fun r u H locs hw hP hD hS => ?_)
              have hw := hw.symm
              subst hw
              have hP : va_P (dC, dI) vwCl (w_X5_rowRests cy a0 a1 ggm_0 gne_1) H := hP
              have hD : va_D A (w_X5_rowRests cy a0 a1 ggm_0 gne_1) := hD
              refine lv_aload_n hx hb dX5_rowRests_72 rfl (lv_at hl 1 rfl) ?_
              refine va_get (D := (dC, dI)) (ci := 3) (v := .ref (a0 4)) (C := RX5) (T := TX5) (N := 7) hx hb hts in_X5 hown hK hP 0 rfl rfl 6 (by decide) lk3 (fun _ h9 => h9) rfl dX5_rowRests_73 ?_
              refine lv_iload_n hx hb dX5_rowRests_76 rfl (lv_at hl 4 rfl) ?_
              obtain ⟨hi8, h⟩ := ok_if h
              refine va_aldA hx hb hK hP 4 4 rfl rfl (ix_in hi8) dX5_rowRests_77 ?_
              refine W.eq (g2 := F0 m 78 ls [.ref ([a0 5, a0 6, a0 7, a0 8, a0 9].getD (x3).toNatClampNeg 0), .long v6]) rfl ?_
              refine lv_iload hx hb dX5_rowRests_78 (lv_at hl 0 rfl) ?_
              obtain ⟨hi9, h⟩ := ok_if h
              refine va_lald hx hb hK hP (5 + x3.toNatClampNeg) 2 (lt5 (P := fun z => (w_X5_rowRests cy a0 a1 ggm_0 gne_1)[5 + z]? = some (([a0 5, a0 6, a0 7, a0 8, a0 9].getD z 0), .inl (cy 2, 26, .inr (.inl (ggm_0.2.2.2.2.2.2 z))))) (ix_lt hi8) rfl rfl rfl rfl rfl) rfl (ix_in hi9) dX5_rowRests_80 ?_
              refine W.lcmp hx hb dX5_rowRests_81 ?_
              refine lv_if_ge (tgt := 87) hx hb dX5_rowRests_82 (by decide) (fun c10 => ?_) (fun c10 => ?_)
              · rw [if_pos c10] at h
                exact c87 (p_X5_rowRests_26 ggm_0 gne_1 n) ih x2 x3 H locs ls h hP hD hS (lv_sub hl [1, 2, 3, 4] rfl)
              · rw [if_neg c10] at h
                refine lv_iconst (v := (0 : Int32)) hx hb dX5_rowRests_85 (by decide) ?_
                exact W.zret (v := (0 : Int32)) (ty := .boolean) hx hb hr rfl (fun t ht hW => by rw [hqq]; have hh := Option.some.inj h; exact ⟨⟨(0 : Int32), (()), rfl, Option.some.inj h, by rw [ht]; exact hP, va_K.moved hW.alike hK⟩, hS.F ht⟩) hS.2.2 dX5_rowRests_86
  have c4 : ∀ (n : Nat), ∀ (x2 : Int32) (x3 : Int32) (H : Heap) (locs : List Loc) (ls : Array Slot), p_X5_rowRests_4 ggm_0 gne_1 n x2 x3 = some R0 → va_P (dC, dI) vwCl (w_X5_rowRests cy a0 a1 ggm_0 gne_1) H → va_D A (w_X5_rowRests cy a0 a1 ggm_0 gne_1) → va_S A s.heap H locs → lv_has ls 5 [(0, .ref (a0 0)), (1, .ref (a1 0)), (2, .int x2), (3, .int x3)] → W p l e rm_X5_rowRests s m aa below meth c H locs 0 0 (MQ below qq aa s 0 0 A) (F0 m 4 ls []) := by
    intro  n
    induction n with
    | zero => intro x2 x3 H locs ls h; exact no_some h
    | succ n ih =>
      intro x2 x3 H locs ls h hP hD hS hl
      rw [p_X5_rowRests_4.eq_2] at h
      refine lv_iload_n hx hb dX5_rowRests_4 rfl (lv_at hl 3 rfl) ?_
      refine lv_iconst (v := (5 : Int32)) hx hb dX5_rowRests_5 (by decide) ?_
      refine lv_icmp_ge (tgt := 24) hx hb dX5_rowRests_6 (by decide) (fun c1 => ?_) (fun c1 => ?_)
      · rw [if_pos c1] at h
        refine lv_iconst (v := (0 : Int32)) hx hb dX5_rowRests_24 (by decide) ?_
        refine lv_istore_n (lv' := [(3, .int (0 : Int32)), (0, .ref (a0 0)), (1, .ref (a1 0)), (2, .int x2)]) hx hb dX5_rowRests_25 rfl hl (by decide) rfl (fun ls hl => ?_)
        exact c26 fu x2 (0 : Int32) H locs ls h hP hD hS (lv_sub hl [1, 2, 3, 0] rfl)
      · rw [if_neg c1] at h
        refine lv_iload_n hx hb dX5_rowRests_9 rfl (lv_at hl 2 rfl) ?_
        refine lv_aload_n hx hb dX5_rowRests_10 rfl (lv_at hl 0 rfl) ?_
        refine va_get (D := (dC, dI)) (ci := 3) (v := .ref (a0 2)) (C := RX5) (T := TX5) (N := 7) hx hb hts in_X5 hown hK hP 0 rfl rfl 4 (by decide) lk1 (fun _ h9 => h9) rfl dX5_rowRests_11 ?_
        refine lv_iload_n hx hb dX5_rowRests_14 rfl (lv_at hl 3 rfl) ?_
        obtain ⟨hi2, h⟩ := ok_if h
        refine va_iald hx hb hK hP 2 1 rfl rfl (ix_in hi2) dX5_rowRests_15 ?_
        refine lv_iadd hx hb dX5_rowRests_16 ?_
        refine lv_istore_n (lv' := [(2, .int (x2 + (ggm_0.2.2.2.2.1 x3.toNatClampNeg))), (0, .ref (a0 0)), (1, .ref (a1 0)), (3, .int x3)]) hx hb dX5_rowRests_17 rfl hl (by decide) rfl (fun ls hl => ?_)
        refine lv_iinc (v := (x3 + (1 : Int32))) (lv' := [(3, .int (x3 + (1 : Int32))), (2, .int (x2 + (ggm_0.2.2.2.2.1 x3.toNatClampNeg))), (0, .ref (a0 0)), (1, .ref (a1 0))]) hx hb dX5_rowRests_18 hl (k := 3) rfl rfl (by decide) rfl (fun ls hl => ?_)
        refine lv_goto (tgt := 4) hx hb dX5_rowRests_21 (by decide) ?_
        exact ih (x2 + (ggm_0.2.2.2.2.1 x3.toNatClampNeg)) (x3 + (1 : Int32)) H locs ls h hP hD hS (lv_sub hl [2, 3, 1, 0] rfl)
  obtain ⟨H, hH⟩ : ∃ H : Heap, H = s.heap := ⟨_, rfl⟩
  obtain ⟨locs, hlocs⟩ : ∃ locs : List Loc, locs = [] := ⟨_, rfl⟩
  have hS : va_S A s.heap H locs := by rw [hH, hlocs]; exact hS
  rw [← hH] at hP
  suffices hg : W p l e rm_X5_rowRests s m aa below meth c H locs 0 0 (MQ below qq aa s 0 0 A) (F0 m 0 ls []) by subst hH; subst hlocs; exact hg
  unfold p_X5_rowRests at h
  refine lv_iconst (v := (0 : Int32)) hx hb dX5_rowRests_0 (by decide) ?_
  refine lv_istore_n (lv' := [(2, .int (0 : Int32)), (0, .ref (a0 0)), (1, .ref (a1 0))]) hx hb dX5_rowRests_1 rfl hl (by decide) rfl (fun ls hl => ?_)
  refine lv_iconst (v := (0 : Int32)) hx hb dX5_rowRests_2 (by decide) ?_
  refine lv_istore_n (lv' := [(3, .int (0 : Int32)), (2, .int (0 : Int32)), (0, .ref (a0 0)), (1, .ref (a1 0))]) hx hb dX5_rowRests_3 rfl hl (by decide) rfl (fun ls hl => ?_)
  exact c4 fu (0 : Int32) (0 : Int32) H locs ls h hP hD hS (lv_sub hl [2, 3, 1, 0] rfl)

abbrev w_X5_toNextRow (cy : Nat → ClassId) (a0 : Nat → Nat) (ggm : Int32 × Int32 × Int32 × (Nat → Int32) × (Nat → Int32) × (Nat → Int32) × (Nat → Nat → Int64)) : va_W := [(a0 0, .inr (3, [.int (ggm.1), .int (ggm.2.1), .int (ggm.2.2.1), .ref (a0 1), .ref (a0 2), .ref (a0 3), .ref (a0 4)])), (a0 1, .inl (cy 1, 5, .inl (ggm.2.2.2.1))), (a0 2, .inl (cy 1, 5, .inl (ggm.2.2.2.2.1))), (a0 3, .inl (cy 1, 5, .inl (ggm.2.2.2.2.2.1))), (a0 4, .inl (cy 4, 5, .inr (.inr (.inr (.inr (fun i => some ([a0 5, a0 6, a0 7, a0 8, a0 9].getD i 0))))))), (a0 5, .inl (cy 2, 26, .inr (.inl (ggm.2.2.2.2.2.2 0)))), (a0 6, .inl (cy 2, 26, .inr (.inl (ggm.2.2.2.2.2.2 1)))), (a0 7, .inl (cy 2, 26, .inr (.inl (ggm.2.2.2.2.2.2 2)))), (a0 8, .inl (cy 2, 26, .inr (.inl (ggm.2.2.2.2.2.2 3)))), (a0 9, .inl (cy 2, 26, .inr (.inl (ggm.2.2.2.2.2.2 4))))]
abbrev rm_X5_toNextRow : Room := { frames := 0, cells := 0, slots := 0, locals := 0 }
set_option maxHeartbeats 1000000 in
set_option maxRecDepth 100000 in
theorem c_X5_toNextRow (l : Launch) (dC : Nat → ClassId) (dI : Nat → Nat → Nat) (cy : Nat → ClassId) (a0 : Nat → Nat) (ggm : Int32 × Int32 × Int32 × (Nat → Int32) × (Nat → Int32) × (Nat → Int32) × (Nat → Nat → Int64)) (sz : Nat) (R0 : Int32 × (Int32 × Int32 × Int32 × (Nat → Int32) × (Nat → Int32) × (Nat → Int32) × (Nat → Nat → Int64))) (h : p_X5_toNextRow ggm = some R0) : Met l yX5_toNextRow wsX5_toNextRow rm_X5_toNextRow (va_Pc [.ref (a0 0)] (prC dC dI cy (w_X5_toNextRow cy a0 ggm) sz)) (va_Qi (fun (r : Int32) (u : (Int32 × Int32 × Int32 × (Nat → Int32) × (Nat → Int32) × (Nat → Int32) × (Nat → Nat → Int64))) => r = R0.1 ∧ u = R0.2) (fun (u : (Int32 × Int32 × Int32 × (Nat → Int32) × (Nat → Int32) × (Nat → Int32) × (Nat → Nat → Int64))) t => poC dC dI cy (w_X5_toNextRow cy a0 u) t) (va_A (w_X5_toNextRow cy a0 ggm) sz)) 0 0 (va_A (w_X5_toNextRow cy a0 ggm) sz) := by
  refine Met.ofW (cc := cX5_toNextRow) (maxL := 2) (ret := (some .boolean)) (by decide) rfl ?_
  intro p e s m aa below meth c s₁ B hml hv
  obtain ⟨haa, hsz, hP, hK, hD0⟩ := hv
  have hx := B.exec
  have hb := B.bytes
  have hr := B.returns
  have hts := atoms_spec (ws := wsX5_toNextRow) B.pre
  have hown : s.vm.findClass RX5 = some m.cls := findClass_of_methodNamed B.named
  have hlocks := B.notSynchronized
  subst hsz
  have hD := hD0.self (sz := s.heap.size)
  obtain ⟨qq, hqq⟩ : ∃ qq, qq = (va_Qi (fun (r : Int32) (u : (Int32 × Int32 × Int32 × (Nat → Int32) × (Nat → Int32) × (Nat → Int32) × (Nat → Nat → Int64))) => r = R0.1 ∧ u = R0.2) (fun (u : (Int32 × Int32 × Int32 × (Nat → Int32) × (Nat → Int32) × (Nat → Int32) × (Nat → Nat → Int64))) t => poC dC dI cy (w_X5_toNextRow cy a0 u) t) (va_A (w_X5_toNextRow cy a0 ggm) s.heap.size)) := ⟨_, rfl⟩
  rw [← hqq]
  generalize hAe : va_A (w_X5_toNextRow cy a0 ggm) s.heap.size = A at hD hqq ⊢
  have hA : ∀ q : Nat, s.heap.size ≤ q → A q := fun q h => by rw [← hAe]; exact Or.inr h
  have hS : va_S A s.heap s.heap [] := va_S.rf
  have hl := lv_entry ([.ref (a0 0)]) (n := 2) (Nat.le_of_ble_eq_true rfl)
  have hE : entryFrame m aa 2 = F0 m 0 ((lg_sl ([.ref (a0 0)]) ++ List.replicate (2 - (lg_sl ([.ref (a0 0)])).length) Slot.unset).toArray) [] := by rw [haa]; exact lg_entry_eq m _ 2
  refine W.eq hE ?_
  generalize (lg_sl ([.ref (a0 0)]) ++ List.replicate (2 - (lg_sl ([.ref (a0 0)])).length) Slot.unset).toArray = ls at hl ⊢
  have hl : lv_has ls 2 [(0, .ref (a0 0))] := hl
  change W p l e rm_X5_toNextRow s m aa below meth c s.heap [] 0 0 (MQ below qq aa s 0 0 A) (F0 m 0 ls [])
  have hS0 := hS
  have lk0 := hts (.fieldLink RX5 15 "GoatDoors$Game" "row" "[I") (by decide +kernel)
  have lk1 := hts (.fieldLink RX5 9 "GoatDoors$Game" "limits" "[I") (by decide +kernel)
  have in_X5 : ∀ w ∈ wsX50, w ∈ wsX5_toNextRow := by decide +kernel
  have c2 : ∀ (n : Nat), ∀ (ggm : Int32 × Int32 × Int32 × (Nat → Int32) × (Nat → Int32) × (Nat → Int32) × (Nat → Nat → Int64)) (x1 : Int32) (H : Heap) (locs : List Loc) (ls : Array Slot), p_X5_toNextRow_2 n ggm x1 = some R0 → va_P (dC, dI) vwCl (w_X5_toNextRow cy a0 ggm) H → va_D A (w_X5_toNextRow cy a0 ggm) → va_S A s.heap H locs → lv_has ls 2 [(0, .ref (a0 0)), (1, .int x1)] → W p l e rm_X5_toNextRow s m aa below meth c H locs 0 0 (MQ below qq aa s 0 0 A) (F0 m 2 ls []) := by
    intro  n
    induction n with
    | zero => intro ggm x1 H locs ls h; exact no_some h
    | succ n ih =>
      intro ggm x1 H locs ls h hP hD hS hl
      rw [p_X5_toNextRow_2.eq_2] at h
      refine lv_iload_n hx hb dX5_toNextRow_2 rfl (lv_at hl 1 rfl) ?_
      refine lv_if_lt (tgt := 46) hx hb dX5_toNextRow_3 (by decide) (fun c1 => ?_) (fun c1 => ?_)
      · rw [if_pos c1] at h
        refine lv_iconst (v := (0 : Int32)) hx hb dX5_toNextRow_46 (by decide) ?_
        exact W.zret (v := (0 : Int32)) (ty := .boolean) hx hb hr rfl (fun t ht hW => by rw [hqq]; have hh := Option.some.inj h; exact ⟨⟨(0 : Int32), (ggm), rfl, ⟨fst_of hh, snd_of hh⟩, by rw [ht]; exact hP, va_K.moved hW.alike hK⟩, hS.F ht⟩) hS.2.2 dX5_toNextRow_47
      · rw [if_neg c1] at h
        refine lv_aload_n hx hb dX5_toNextRow_6 rfl (lv_at hl 0 rfl) ?_
        refine va_get (D := (dC, dI)) (ci := 3) (v := .ref (a0 2)) (C := RX5) (T := TX5) (N := 7) hx hb hts in_X5 hown hK hP 0 rfl rfl 4 (by decide) lk0 (fun _ h9 => h9) rfl dX5_toNextRow_7 ?_
        refine lv_iload_n hx hb dX5_toNextRow_10 rfl (lv_at hl 1 rfl) ?_
        obtain ⟨hi2, h⟩ := ok_if h
        refine va_iald hx hb hK hP 2 1 rfl rfl (ix_in hi2) dX5_toNextRow_11 ?_
        refine lv_aload_n hx hb dX5_toNextRow_12 rfl (lv_at hl 0 rfl) ?_
        refine va_get (D := (dC, dI)) (ci := 3) (v := .ref (a0 1)) (C := RX5) (T := TX5) (N := 7) hx hb hts in_X5 hown hK hP 0 rfl rfl 3 (by decide) lk1 (fun _ h9 => h9) rfl dX5_toNextRow_13 ?_
        refine lv_iload_n hx hb dX5_toNextRow_16 rfl (lv_at hl 1 rfl) ?_
        obtain ⟨hi3, h⟩ := ok_if h
        refine va_iald hx hb hK hP 1 1 rfl rfl (ix_in hi3) dX5_toNextRow_17 ?_
        refine lv_icmp_ge (tgt := 33) hx hb dX5_toNextRow_18 (by decide) (fun c4 => ?_) (fun c4 => ?_)
        · rw [if_pos c4] at h
          refine lv_aload_n hx hb dX5_toNextRow_33 rfl (lv_at hl 0 rfl) ?_
          refine va_get (D := (dC, dI)) (ci := 3) (v := .ref (a0 2)) (C := RX5) (T := TX5) (N := 7) hx hb hts in_X5 hown hK hP 0 rfl rfl 4 (by decide) lk0 (fun _ h9 => h9) rfl dX5_toNextRow_34 ?_
          refine lv_iload_n hx hb dX5_toNextRow_37 rfl (lv_at hl 1 rfl) ?_
          refine lv_iconst (v := (0 : Int32)) hx hb dX5_toNextRow_38 (by decide) ?_
          obtain ⟨hi5, h⟩ := ok_if h
          refine va_iast hx hb hK hP hD hS 2 1 rfl rfl (ix_in hi5) dX5_toNextRow_39 (fun H locs hP hD hS => ?_)
          have hP : va_P (dC, dI) vwCl (w_X5_toNextRow cy a0 ((ggm.1, ggm.2.1, ggm.2.2.1, ggm.2.2.2.1, (upd ggm.2.2.2.2.1 x1.toNatClampNeg (0 : Int32)), ggm.2.2.2.2.2))) H := hP
          have hD : va_D A (w_X5_toNextRow cy a0 ((ggm.1, ggm.2.1, ggm.2.2.1, ggm.2.2.2.1, (upd ggm.2.2.2.2.1 x1.toNatClampNeg (0 : Int32)), ggm.2.2.2.2.2))) := hD
          refine lv_iinc (v := (x1 + (-1 : Int32))) (lv' := [(1, .int (x1 + (-1 : Int32))), (0, .ref (a0 0))]) hx hb dX5_toNextRow_40 hl (k := 1) rfl rfl (by decide) rfl (fun ls hl => ?_)
          refine lv_goto (tgt := 2) hx hb dX5_toNextRow_43 (by decide) ?_
          exact ih (ggm.1, ggm.2.1, ggm.2.2.1, ggm.2.2.2.1, (upd ggm.2.2.2.2.1 x1.toNatClampNeg (0 : Int32)), ggm.2.2.2.2.2) (x1 + (-1 : Int32)) H locs ls h hP hD hS (lv_sub hl [1, 0] rfl)
        · rw [if_neg c4] at h
          refine lv_aload_n hx hb dX5_toNextRow_21 rfl (lv_at hl 0 rfl) ?_
          refine va_get (D := (dC, dI)) (ci := 3) (v := .ref (a0 2)) (C := RX5) (T := TX5) (N := 7) hx hb hts in_X5 hown hK hP 0 rfl rfl 4 (by decide) lk0 (fun _ h9 => h9) rfl dX5_toNextRow_22 ?_
          refine lv_iload_n hx hb dX5_toNextRow_25 rfl (lv_at hl 1 rfl) ?_
          refine lv_dup2_11 hx hb dX5_toNextRow_26 rfl rfl ?_
          obtain ⟨hi6, h⟩ := ok_if h
          refine va_iald hx hb hK hP 2 1 rfl rfl (ix_in hi6) dX5_toNextRow_27 ?_
          refine lv_iconst (v := (1 : Int32)) hx hb dX5_toNextRow_28 (by decide) ?_
          refine lv_iadd hx hb dX5_toNextRow_29 ?_
          obtain ⟨hi7, h⟩ := ok_if h
          refine va_iast hx hb hK hP hD hS 2 1 rfl rfl (ix_in hi7) dX5_toNextRow_30 (fun H locs hP hD hS => ?_)
          have hP : va_P (dC, dI) vwCl (w_X5_toNextRow cy a0 ((ggm.1, ggm.2.1, ggm.2.2.1, ggm.2.2.2.1, (upd ggm.2.2.2.2.1 x1.toNatClampNeg ((ggm.2.2.2.2.1 x1.toNatClampNeg) + (1 : Int32))), ggm.2.2.2.2.2))) H := hP
          have hD : va_D A (w_X5_toNextRow cy a0 ((ggm.1, ggm.2.1, ggm.2.2.1, ggm.2.2.2.1, (upd ggm.2.2.2.2.1 x1.toNatClampNeg ((ggm.2.2.2.2.1 x1.toNatClampNeg) + (1 : Int32))), ggm.2.2.2.2.2))) := hD
          refine lv_iconst (v := (1 : Int32)) hx hb dX5_toNextRow_31 (by decide) ?_
          exact W.zret (v := (1 : Int32)) (ty := .boolean) hx hb hr rfl (fun t ht hW => by rw [hqq]; have hh := Option.some.inj h; exact ⟨⟨(1 : Int32), ((ggm.1, ggm.2.1, ggm.2.2.1, ggm.2.2.2.1, (upd ggm.2.2.2.2.1 x1.toNatClampNeg ((ggm.2.2.2.2.1 x1.toNatClampNeg) + (1 : Int32))), ggm.2.2.2.2.2)), rfl, ⟨fst_of hh, snd_of hh⟩, by rw [ht]; exact hP, va_K.moved hW.alike hK⟩, hS.F ht⟩) hS.2.2 dX5_toNextRow_32
  obtain ⟨H, hH⟩ : ∃ H : Heap, H = s.heap := ⟨_, rfl⟩
  obtain ⟨locs, hlocs⟩ : ∃ locs : List Loc, locs = [] := ⟨_, rfl⟩
  have hS : va_S A s.heap H locs := by rw [hH, hlocs]; exact hS
  rw [← hH] at hP
  suffices hg : W p l e rm_X5_toNextRow s m aa below meth c H locs 0 0 (MQ below qq aa s 0 0 A) (F0 m 0 ls []) by subst hH; subst hlocs; exact hg
  unfold p_X5_toNextRow at h
  refine lv_iconst (v := (4 : Int32)) hx hb dX5_toNextRow_0 (by decide) ?_
  refine lv_istore_n (lv' := [(1, .int (4 : Int32)), (0, .ref (a0 0))]) hx hb dX5_toNextRow_1 rfl hl (by decide) rfl (fun ls hl => ?_)
  exact c2 fu ggm (4 : Int32) H locs ls h hP hD hS (lv_sub hl [1, 0] rfl)

abbrev w_X5_play (cy : Nat → ClassId) (a0 : Nat → Nat) (a1 : Nat → Nat) (a2 : Nat → Nat) (ggm_0 : Int32 × Int32 × Int32 × (Nat → Int32) × (Nat → Int32) × (Nat → Int32) × (Nat → Nat → Int64)) (gv_1 : Int32 × Int32 × (Nat → Int32) × (Nat → Int32) × (Nat → Int32) × (Nat → Int32) × (Nat → Int32)) (gne_2 : (Nat → Nat → Int32) × (Nat → Nat → Int64)) : va_W := [(a0 0, .inr (3, [.int (ggm_0.1), .int (ggm_0.2.1), .int (ggm_0.2.2.1), .ref (a0 1), .ref (a0 2), .ref (a0 3), .ref (a0 4)])), (a0 1, .inl (cy 1, 5, .inl (ggm_0.2.2.2.1))), (a0 2, .inl (cy 1, 5, .inl (ggm_0.2.2.2.2.1))), (a0 3, .inl (cy 1, 5, .inl (ggm_0.2.2.2.2.2.1))), (a0 4, .inl (cy 4, 5, .inr (.inr (.inr (.inr (fun i => some ([a0 5, a0 6, a0 7, a0 8, a0 9].getD i 0))))))), (a0 5, .inl (cy 2, 26, .inr (.inl (ggm_0.2.2.2.2.2.2 0)))), (a0 6, .inl (cy 2, 26, .inr (.inl (ggm_0.2.2.2.2.2.2 1)))), (a0 7, .inl (cy 2, 26, .inr (.inl (ggm_0.2.2.2.2.2.2 2)))), (a0 8, .inl (cy 2, 26, .inr (.inl (ggm_0.2.2.2.2.2.2 3)))), (a0 9, .inl (cy 2, 26, .inr (.inl (ggm_0.2.2.2.2.2.2 4)))), (a1 0, .inr (7, [.int (gv_1.1), .int (gv_1.2.1), .ref (a1 1), .ref (a1 6), .ref (a1 10), .ref (a1 11), .ref (a1 12), .ref (a1 13), .ref (a1 14)])), (a1 10, .inl (cy 1, 5, .inl (gv_1.2.2.1))), (a1 11, .inl (cy 1, 5, .inl (gv_1.2.2.2.1))), (a1 12, .inl (cy 1, 5, .inl (gv_1.2.2.2.2.1))), (a1 13, .inl (cy 1, 5, .inl (gv_1.2.2.2.2.2.1))), (a1 14, .inl (cy 1, 5, .inl (gv_1.2.2.2.2.2.2))), (a2 0, .inr (4, [.ref (a2 1), .ref (a2 12)])), (a2 1, .inl (cy 3, 10, .inr (.inr (.inr (.inr (fun i => some ([a2 2, a2 3, a2 4, a2 5, a2 6, a2 7, a2 8, a2 9, a2 10, a2 11].getD i 0))))))), (a2 2, .inl (cy 1, 41, .inl (gne_2.1 0))), (a2 3, .inl (cy 1, 41, .inl (gne_2.1 1))), (a2 4, .inl (cy 1, 41, .inl (gne_2.1 2))), (a2 5, .inl (cy 1, 41, .inl (gne_2.1 3))), (a2 6, .inl (cy 1, 41, .inl (gne_2.1 4))), (a2 7, .inl (cy 1, 41, .inl (gne_2.1 5))), (a2 8, .inl (cy 1, 41, .inl (gne_2.1 6))), (a2 9, .inl (cy 1, 41, .inl (gne_2.1 7))), (a2 10, .inl (cy 1, 41, .inl (gne_2.1 8))), (a2 11, .inl (cy 1, 41, .inl (gne_2.1 9))), (a2 12, .inl (cy 4, 5, .inr (.inr (.inr (.inr (fun i => some ([a2 13, a2 14, a2 15, a2 16, a2 17].getD i 0))))))), (a2 13, .inl (cy 2, 41, .inr (.inl (gne_2.2 0)))), (a2 14, .inl (cy 2, 41, .inr (.inl (gne_2.2 1)))), (a2 15, .inl (cy 2, 41, .inr (.inl (gne_2.2 2)))), (a2 16, .inl (cy 2, 41, .inr (.inl (gne_2.2 3)))), (a2 17, .inl (cy 2, 41, .inr (.inl (gne_2.2 4))))]
abbrev rm_X5_play : Room := { frames := 4, cells := 0, slots := 0, locals := 100 }
set_option maxHeartbeats 1000000 in
set_option maxRecDepth 100000 in
theorem c_X5_play (l : Launch) (dC : Nat → ClassId) (dI : Nat → Nat → Nat) (cy : Nat → ClassId) (a0 : Nat → Nat) (a1 : Nat → Nat) (a2 : Nat → Nat) (ggm_0 : Int32 × Int32 × Int32 × (Nat → Int32) × (Nat → Int32) × (Nat → Int32) × (Nat → Nat → Int64)) (gv_1 : Int32 × Int32 × (Nat → Int32) × (Nat → Int32) × (Nat → Int32) × (Nat → Int32) × (Nat → Int32)) (gne_2 : (Nat → Nat → Int32) × (Nat → Nat → Int64)) (sz : Nat) (R0 : (Int32 × Int32 × Int32 × (Nat → Int32) × (Nat → Int32) × (Nat → Int32) × (Nat → Nat → Int64))) (h : p_X5_play ggm_0 gv_1 gne_2 = some R0) : Met l yX5_play wsX5_play rm_X5_play (va_Pc [.ref (a0 0), .ref (a1 0), .ref (a2 0)] (prC dC dI cy (w_X5_play cy a0 a1 a2 ggm_0 gv_1 gne_2) sz)) (va_Qv (fun (u : (Int32 × Int32 × Int32 × (Nat → Int32) × (Nat → Int32) × (Nat → Int32) × (Nat → Nat → Int64))) => u = R0) (fun (u : (Int32 × Int32 × Int32 × (Nat → Int32) × (Nat → Int32) × (Nat → Int32) × (Nat → Nat → Int64))) t => poC dC dI cy (w_X5_play cy a0 a1 a2 u gv_1 gne_2) t) (va_A (w_X5_play cy a0 a1 a2 ggm_0 gv_1 gne_2) sz)) 0 0 (va_A (w_X5_play cy a0 a1 a2 ggm_0 gv_1 gne_2) sz) := by
  refine Met.ofW (cc := cX5_play) (maxL := 4) (ret := none) (by decide) rfl ?_
  intro p e s m aa below meth c s₁ B hml hv
  obtain ⟨haa, hsz, hP, hK, hD0⟩ := hv
  have hx := B.exec
  have hb := B.bytes
  have hr := B.returns
  have hts := atoms_spec (ws := wsX5_play) B.pre
  have hown : s.vm.findClass RX5 = some m.cls := findClass_of_methodNamed B.named
  have hlocks := B.notSynchronized
  subst hsz
  have hD := hD0.self (sz := s.heap.size)
  obtain ⟨qq, hqq⟩ : ∃ qq, qq = (va_Qv (fun (u : (Int32 × Int32 × Int32 × (Nat → Int32) × (Nat → Int32) × (Nat → Int32) × (Nat → Nat → Int64))) => u = R0) (fun (u : (Int32 × Int32 × Int32 × (Nat → Int32) × (Nat → Int32) × (Nat → Int32) × (Nat → Nat → Int64))) t => poC dC dI cy (w_X5_play cy a0 a1 a2 u gv_1 gne_2) t) (va_A (w_X5_play cy a0 a1 a2 ggm_0 gv_1 gne_2) s.heap.size)) := ⟨_, rfl⟩
  rw [← hqq]
  generalize hAe : va_A (w_X5_play cy a0 a1 a2 ggm_0 gv_1 gne_2) s.heap.size = A at hD hqq ⊢
  have hA : ∀ q : Nat, s.heap.size ≤ q → A q := fun q h => by rw [← hAe]; exact Or.inr h
  have hS : va_S A s.heap s.heap [] := va_S.rf
  have hl := lv_entry ([.ref (a0 0), .ref (a1 0), .ref (a2 0)]) (n := 4) (Nat.le_of_ble_eq_true rfl)
  have hE : entryFrame m aa 4 = F0 m 0 ((lg_sl ([.ref (a0 0), .ref (a1 0), .ref (a2 0)]) ++ List.replicate (4 - (lg_sl ([.ref (a0 0), .ref (a1 0), .ref (a2 0)])).length) Slot.unset).toArray) [] := by rw [haa]; exact lg_entry_eq m _ 4
  refine W.eq hE ?_
  generalize (lg_sl ([.ref (a0 0), .ref (a1 0), .ref (a2 0)]) ++ List.replicate (4 - (lg_sl ([.ref (a0 0), .ref (a1 0), .ref (a2 0)])).length) Slot.unset).toArray = ls at hl ⊢
  have hl : lv_has ls 4 [(0, .ref (a0 0)), (1, .ref (a1 0)), (2, .ref (a2 0))] := hl
  change W p l e rm_X5_play s m aa below meth c s.heap [] 0 0 (MQ below qq aa s 0 0 A) (F0 m 0 ls [])
  have hS0 := hS
  have lk0 := hts (.fieldLink RX5 30 "GoatDoors$Game" "resting" "I") (by decide +kernel)
  have lk1 := hts (.fieldLink RX5 15 "GoatDoors$Game" "row" "[I") (by decide +kernel)
  have lk2 := hts (.fieldLink RX5 18 "GoatDoors$Game" "first" "[I") (by decide +kernel)
  have lk3 := hts (.methodLink RX5 38 arraycopyName) (by decide +kernel)
  have lk4 := hts (.native arraycopyName) (by decide +kernel)
  have lk5 := hts (.static arraycopyName) (by decide +kernel)
  have lk6 := hts (.initialized "java/lang/System") (by decide +kernel)
  have in_X5 : ∀ w ∈ wsX50, w ∈ wsX5_play := by decide +kernel
  have c59 : ∀ (k13 : (Int32 × Int32 × Int32 × (Nat → Int32) × (Nat → Int32) × (Nat → Int32) × (Nat → Nat → Int64)) → Int32 → Option ((Int32 × Int32 × Int32 × (Nat → Int32) × (Nat → Int32) × (Nat → Int32) × (Nat → Nat → Int64)))) (hk13 : ∀ (ggm_0 : Int32 × Int32 × Int32 × (Nat → Int32) × (Nat → Int32) × (Nat → Int32) × (Nat → Nat → Int64)) (x3 : Int32) (H : Heap) (locs : List Loc) (ls : Array Slot), k13 ggm_0 x3 = some R0 → va_P (dC, dI) vwCl (w_X5_play cy a0 a1 a2 ggm_0 gv_1 gne_2) H → va_D A (w_X5_play cy a0 a1 a2 ggm_0 gv_1 gne_2) → va_S A s.heap H locs → lv_has ls 4 [(0, .ref (a0 0)), (2, .ref (a2 0)), (3, .int x3)] → W p l e rm_X5_play s m aa below meth c H locs 0 0 (MQ below qq aa s 0 0 A) (F0 m 13 ls [])), ∀ (ggm_0 : Int32 × Int32 × Int32 × (Nat → Int32) × (Nat → Int32) × (Nat → Int32) × (Nat → Nat → Int64)) (x3 : Int32) (H : Heap) (locs : List Loc) (ls : Array Slot), p_X5_play_59 k13 gv_1 gne_2 ggm_0 x3 = some R0 → va_P (dC, dI) vwCl (w_X5_play cy a0 a1 a2 ggm_0 gv_1 gne_2) H → va_D A (w_X5_play cy a0 a1 a2 ggm_0 gv_1 gne_2) → va_S A s.heap H locs → lv_has ls 4 [(0, .ref (a0 0)), (2, .ref (a2 0)), (3, .int x3)] → W p l e rm_X5_play s m aa below meth c H locs 0 0 (MQ below qq aa s 0 0 A) (F0 m 59 ls []) := by
    intro k13 hk13 ggm_0 x3 H locs ls h hP hD hS hl
    unfold p_X5_play_59 at h
    refine lv_aload_n hx hb dX5_play_59 rfl (lv_at hl 0 rfl) ?_
    obtain ⟨v1, hv2, h⟩ := ok_bind h
    refine cl_vi (w2 := fun (u : (Int32 × Int32 × Int32 × (Nat → Int32) × (Nat → Int32) × (Nat → Int32) × (Nat → Nat → Int64))) => w_X5_play cy a0 a1 a2 u gv_1 gne_2) (As := []) (rest := []) ⟨hx, hb, hml, hown, hts⟩ (c_X5_toNextRow l dC dI cy a0 ggm_0 H.size v1 hv2) (cwV 0 hts gX5_play_X5_toNextRow rfl rfl rfl (by decide +kernel) ⟨Nat.le_of_ble_eq_true rfl, Nat.le_of_ble_eq_true rfl⟩) (va_recv hK hP (ci := 3) (q0 := 0) rfl rfl) cl_blind (cl_pre hK hP hD [0, 1, 2, 3, 4, 5, 6, 7, 8, 9] (by decide) rfl) hP hD hS hA [0, 1, 2, 3, 4, 5, 6, 7, 8, 9] rfl rfl hl.1 rfl (lv_room (Nat.le_of_ble_eq_true rfl)) dX5_play_60 ⟨Nat.le_of_ble_eq_true rfl, Nat.le_of_ble_eq_true rfl⟩ ⟨rfl, rfl⟩ (fun _ => updM [0, 1, 2, 3, 4, 5, 6, 7, 8, 9] [10, 11, 12, 13, 14, 15, 16, 17, 18, 19, 20, 21, 22, 23, 24, 25, 26, 27, 28, 29, 30, 31, 32, 33] [(a1 0, .inr (7, [.int (gv_1.1), .int (gv_1.2.1), .ref (a1 1), .ref (a1 6), .ref (a1 10), .ref (a1 11), .ref (a1 12), .ref (a1 13), .ref (a1 14)])), (a1 10, .inl (cy 1, 5, .inl (gv_1.2.2.1))), (a1 11, .inl (cy 1, 5, .inl (gv_1.2.2.2.1))), (a1 12, .inl (cy 1, 5, .inl (gv_1.2.2.2.2.1))), (a1 13, .inl (cy 1, 5, .inl (gv_1.2.2.2.2.2.1))), (a1 14, .inl (cy 1, 5, .inl (gv_1.2.2.2.2.2.2))), (a2 0, .inr (4, [.ref (a2 1), .ref (a2 12)])), (a2 1, .inl (cy 3, 10, .inr (.inr (.inr (.inr (fun i => some ([a2 2, a2 3, a2 4, a2 5, a2 6, a2 7, a2 8, a2 9, a2 10, a2 11].getD i 0))))))), (a2 2, .inl (cy 1, 41, .inl (gne_2.1 0))), (a2 3, .inl (cy 1, 41, .inl (gne_2.1 1))), (a2 4, .inl (cy 1, 41, .inl (gne_2.1 2))), (a2 5, .inl (cy 1, 41, .inl (gne_2.1 3))), (a2 6, .inl (cy 1, 41, .inl (gne_2.1 4))), (a2 7, .inl (cy 1, 41, .inl (gne_2.1 5))), (a2 8, .inl (cy 1, 41, .inl (gne_2.1 6))), (a2 9, .inl (cy 1, 41, .inl (gne_2.1 7))), (a2 10, .inl (cy 1, 41, .inl (gne_2.1 8))), (a2 11, .inl (cy 1, 41, .inl (gne_2.1 9))), (a2 12, .inl (cy 4, 5, .inr (.inr (.inr (.inr (fun i => some ([a2 13, a2 14, a2 15, a2 16, a2 17].getD i 0))))))), (a2 13, .inl (cy 2, 41, .inr (.inl (gne_2.2 0)))), (a2 14, .inl (cy 2, 41, .inr (.inl (gne_2.2 1)))), (a2 15, .inl (cy 2, 41, .inr (.inl (gne_2.2 2)))), (a2 16, .inl (cy 2, 41, .inr (.inl (gne_2.2 3)))), (a2 17, .inl (cy 2, 41, .inr (.inl (gne_2.2 4))))] 34 rfl rfl rfl rfl rfl (by decide +kernel) (by decide +kernel) rfl) (fun r u H locs hw hP hD hS => ?_)
    obtain ⟨rfl, rfl⟩ := hw
    have hP : va_P (dC, dI) vwCl (w_X5_play cy a0 a1 a2 v1.2 gv_1 gne_2) H := hP
    have hD : va_D A (w_X5_play cy a0 a1 a2 v1.2 gv_1 gne_2) := hD
    refine lv_if_ne (tgt := 67) hx hb dX5_play_63 (by decide) (fun c3 => ?_) (fun c3 => ?_)
    · rw [if_neg c3] at h
      refine lv_iinc (v := (x3 + (1 : Int32))) (lv' := [(3, .int (x3 + (1 : Int32))), (0, .ref (a0 0)), (2, .ref (a2 0))]) hx hb dX5_play_67 hl (k := 2) rfl rfl (by decide) rfl (fun ls hl => ?_)
      refine lv_goto (tgt := 13) hx hb dX5_play_70 (by decide) ?_
      exact hk13 v1.2 (x3 + (1 : Int32)) H locs ls h hP hD hS (lv_sub hl [1, 2, 0] rfl)
    · rw [if_pos c3] at h
      exact W.vret hx hb hr (fun t ht hW => by rw [hqq]; have hh := Option.some.inj h; exact ⟨⟨(v1.2), rfl, Option.some.inj h, by rw [ht]; exact hP, va_K.moved hW.alike hK⟩, hS.F ht⟩) hS.2.2 dX5_play_66
  have c49 : ∀ (k13 : (Int32 × Int32 × Int32 × (Nat → Int32) × (Nat → Int32) × (Nat → Int32) × (Nat → Nat → Int64)) → Int32 → Option ((Int32 × Int32 × Int32 × (Nat → Int32) × (Nat → Int32) × (Nat → Int32) × (Nat → Nat → Int64)))) (hk13 : ∀ (ggm_0 : Int32 × Int32 × Int32 × (Nat → Int32) × (Nat → Int32) × (Nat → Int32) × (Nat → Nat → Int64)) (x3 : Int32) (H : Heap) (locs : List Loc) (ls : Array Slot), k13 ggm_0 x3 = some R0 → va_P (dC, dI) vwCl (w_X5_play cy a0 a1 a2 ggm_0 gv_1 gne_2) H → va_D A (w_X5_play cy a0 a1 a2 ggm_0 gv_1 gne_2) → va_S A s.heap H locs → lv_has ls 4 [(0, .ref (a0 0)), (2, .ref (a2 0)), (3, .int x3)] → W p l e rm_X5_play s m aa below meth c H locs 0 0 (MQ below qq aa s 0 0 A) (F0 m 13 ls [])), ∀ (ggm_0 : Int32 × Int32 × Int32 × (Nat → Int32) × (Nat → Int32) × (Nat → Int32) × (Nat → Nat → Int64)) (x3 : Int32) (H : Heap) (locs : List Loc) (ls : Array Slot), p_X5_play_49 k13 gv_1 gne_2 ggm_0 x3 = some R0 → va_P (dC, dI) vwCl (w_X5_play cy a0 a1 a2 ggm_0 gv_1 gne_2) H → va_D A (w_X5_play cy a0 a1 a2 ggm_0 gv_1 gne_2) → va_S A s.heap H locs → lv_has ls 4 [(0, .ref (a0 0)), (2, .ref (a2 0)), (3, .int x3)] → W p l e rm_X5_play s m aa below meth c H locs 0 0 (MQ below qq aa s 0 0 A) (F0 m 49 ls []) := by
    intro k13 hk13 ggm_0 x3 H locs ls h hP hD hS hl
    unfold p_X5_play_49 at h
    refine lv_aload_n hx hb dX5_play_49 rfl (lv_at hl 0 rfl) ?_
    refine lv_dup hx hb dX5_play_50 rfl ?_
    refine va_get (D := (dC, dI)) (ci := 3) (v := .int ggm_0.1) (C := RX5) (T := TX5) (N := 7) hx hb hts in_X5 hown hK hP 0 rfl rfl 0 (by decide) lk0 (fun _ h9 => h9) rfl dX5_play_51 ?_
    refine lv_iconst (v := (1 : Int32)) hx hb dX5_play_54 (by decide) ?_
    refine lv_iadd hx hb dX5_play_55 ?_
    refine va_put (D := (dC, dI)) (ci := 3) (v := .int (ggm_0.1 + (1 : Int32))) (ty := .int) (C := RX5) (T := TX5) (N := 7) hx hb hts in_X5 tyX5 tyX5_ok nmX5 hown hK hP hD hS 0 rfl rfl 0 (by decide) lk0 (fun _ h9 => h9) rfl (by decide +kernel) rfl rfl (Nat.le_of_ble_eq_true rfl) dX5_play_56 (fun H locs hP hD hS => ?_)
    have hP : va_P (dC, dI) vwCl (w_X5_play cy a0 a1 a2 (((ggm_0.1 + (1 : Int32)), ggm_0.2)) gv_1 gne_2) H := hP
    have hD : va_D A (w_X5_play cy a0 a1 a2 (((ggm_0.1 + (1 : Int32)), ggm_0.2)) gv_1 gne_2) := hD
    exact c59 k13 hk13 ((ggm_0.1 + (1 : Int32)), ggm_0.2) x3 H locs ls h hP hD hS (lv_sub hl [0, 1, 2] rfl)
  have c13 : ∀ (n : Nat), ∀ (ggm_0 : Int32 × Int32 × Int32 × (Nat → Int32) × (Nat → Int32) × (Nat → Int32) × (Nat → Nat → Int64)) (x3 : Int32) (H : Heap) (locs : List Loc) (ls : Array Slot), p_X5_play_13 gv_1 gne_2 n ggm_0 x3 = some R0 → va_P (dC, dI) vwCl (w_X5_play cy a0 a1 a2 ggm_0 gv_1 gne_2) H → va_D A (w_X5_play cy a0 a1 a2 ggm_0 gv_1 gne_2) → va_S A s.heap H locs → lv_has ls 4 [(0, .ref (a0 0)), (2, .ref (a2 0)), (3, .int x3)] → W p l e rm_X5_play s m aa below meth c H locs 0 0 (MQ below qq aa s 0 0 A) (F0 m 13 ls []) := by
    intro  n
    induction n with
    | zero => intro ggm_0 x3 H locs ls h; exact no_some h
    | succ n ih =>
      intro ggm_0 x3 H locs ls h hP hD hS hl
      rw [p_X5_play_13.eq_2] at h
      refine lv_iload_n hx hb dX5_play_13 rfl (lv_at hl 2 rfl) ?_
      refine lv_sipush (v := (7776 : Int32)) hx hb dX5_play_14 (by decide) ?_
      refine lv_icmp_ge (tgt := 73) hx hb dX5_play_17 (by decide) (fun c1 => ?_) (fun c1 => ?_)
      · rw [if_pos c1] at h
        exact W.vret hx hb hr (fun t ht hW => by rw [hqq]; have hh := Option.some.inj h; exact ⟨⟨(ggm_0), rfl, Option.some.inj h, by rw [ht]; exact hP, va_K.moved hW.alike hK⟩, hS.F ht⟩) hS.2.2 dX5_play_73
      · rw [if_neg c1] at h
        refine lv_aload_n hx hb dX5_play_20 rfl (lv_at hl 0 rfl) ?_
        refine lv_aload_n hx hb dX5_play_21 rfl (lv_at hl 1 rfl) ?_
        obtain ⟨v2, hv3, h⟩ := ok_bind h
        refine cl_vi (w2 := fun (_ : Unit) => w_X5_play cy a0 a1 a2 ggm_0 gv_1 gne_2) (As := [.ref (a2 0)]) (rest := []) ⟨hx, hb, hml, hown, hts⟩ (c_X5_rowRests l dC dI cy a0 a2 ggm_0 gne_2 H.size v2 hv3) (cwV 1 hts gX5_play_X5_rowRests rfl rfl rfl (by decide +kernel) ⟨Nat.le_of_ble_eq_true rfl, Nat.le_of_ble_eq_true rfl⟩) (va_recv hK hP (ci := 3) (q0 := 0) rfl rfl) cl_blind (cl_pre hK hP hD [0, 1, 2, 3, 4, 5, 6, 7, 8, 9, 16, 17, 18, 19, 20, 21, 22, 23, 24, 25, 26, 27, 28, 29, 30, 31, 32, 33] (by decide) rfl) hP hD hS hA [0, 1, 2, 3, 4, 5, 6, 7, 8, 9, 16, 17, 18, 19, 20, 21, 22, 23, 24, 25, 26, 27, 28, 29, 30, 31, 32, 33] rfl rfl hl.1 rfl (lv_room (Nat.le_of_ble_eq_true rfl)) dX5_play_22 ⟨Nat.le_of_ble_eq_true rfl, Nat.le_of_ble_eq_true rfl⟩ ⟨rfl, rfl⟩ (fun _ => updR [0, 1, 2, 3, 4, 5, 6, 7, 8, 9, 16, 17, 18, 19, 20, 21, 22, 23, 24, 25, 26, 27, 28, 29, 30, 31, 32, 33] rfl) (fun r u H locs hw hP hD hS => ?_)
        have hw := hw.symm
        subst hw
        have hP : va_P (dC, dI) vwCl (w_X5_play cy a0 a1 a2 ggm_0 gv_1 gne_2) H := hP
        have hD : va_D A (w_X5_play cy a0 a1 a2 ggm_0 gv_1 gne_2) := hD
        refine lv_if_eq (tgt := 59) hx hb dX5_play_25 (by decide) (fun c4 => ?_) (fun c4 => ?_)
        · rw [if_pos c4] at h
          exact c59 (p_X5_play_13 gv_1 gne_2 n) ih ggm_0 x3 H locs ls h hP hD hS (lv_sub hl [0, 1, 2] rfl)
        · rw [if_neg c4] at h
          refine lv_aload_n hx hb dX5_play_28 rfl (lv_at hl 0 rfl) ?_
          refine va_get (D := (dC, dI)) (ci := 3) (v := .int ggm_0.1) (C := RX5) (T := TX5) (N := 7) hx hb hts in_X5 hown hK hP 0 rfl rfl 0 (by decide) lk0 (fun _ h9 => h9) rfl dX5_play_29 ?_
          refine lv_if_ne (tgt := 49) hx hb dX5_play_32 (by decide) (fun c5 => ?_) (fun c5 => ?_)
          · rw [if_neg c5] at h
            exact c49 (p_X5_play_13 gv_1 gne_2 n) ih ggm_0 x3 H locs ls h hP hD hS (lv_sub hl [0, 1, 2] rfl)
          · rw [if_pos c5] at h
            refine lv_aload_n hx hb dX5_play_35 rfl (lv_at hl 0 rfl) ?_
            refine va_get (D := (dC, dI)) (ci := 3) (v := .ref (a0 2)) (C := RX5) (T := TX5) (N := 7) hx hb hts in_X5 hown hK hP 0 rfl rfl 4 (by decide) lk1 (fun _ h9 => h9) rfl dX5_play_36 ?_
            refine lv_iconst (v := (0 : Int32)) hx hb dX5_play_39 (by decide) ?_
            refine lv_aload_n hx hb dX5_play_40 rfl (lv_at hl 0 rfl) ?_
            refine va_get (D := (dC, dI)) (ci := 3) (v := .ref (a0 3)) (C := RX5) (T := TX5) (N := 7) hx hb hts in_X5 hown hK hP 0 rfl rfl 5 (by decide) lk2 (fun _ h9 => h9) rfl dX5_play_41 ?_
            refine lv_iconst (v := (0 : Int32)) hx hb dX5_play_44 (by decide) ?_
            refine lv_iconst (v := (5 : Int32)) hx hb dX5_play_45 (by decide) ?_
            refine va_copyi hx hb (by rw [hml]; exact hl.1.symm) hown lk3 lk4 lk5 lk6 hK hP hD hS 2 3 1 1 rfl rfl rfl rfl rfl (sp := (0 : Int32)) (dp := (0 : Int32)) (n := (5 : Int32)) (by decide) (by decide) (by decide) (by decide) (by decide) (fun _ _ => rfl) (Nat.le_of_ble_eq_true rfl) (by decide) dX5_play_46 (fun H locs hP hD hS => ?_)
            have hP : va_P (dC, dI) vwCl (w_X5_play cy a0 a1 a2 ((ggm_0.1, ggm_0.2.1, ggm_0.2.2.1, ggm_0.2.2.2.1, ggm_0.2.2.2.2.1, (va_cpy ggm_0.2.2.2.2.1 ggm_0.2.2.2.2.2.1 (0 : Int32).toNatClampNeg (0 : Int32).toNatClampNeg (5 : Int32).toNatClampNeg), ggm_0.2.2.2.2.2.2)) gv_1 gne_2) H := hP
            have hD : va_D A (w_X5_play cy a0 a1 a2 ((ggm_0.1, ggm_0.2.1, ggm_0.2.2.1, ggm_0.2.2.2.1, ggm_0.2.2.2.2.1, (va_cpy ggm_0.2.2.2.2.1 ggm_0.2.2.2.2.2.1 (0 : Int32).toNatClampNeg (0 : Int32).toNatClampNeg (5 : Int32).toNatClampNeg), ggm_0.2.2.2.2.2.2)) gv_1 gne_2) := hD
            exact c49 (p_X5_play_13 gv_1 gne_2 n) ih (ggm_0.1, ggm_0.2.1, ggm_0.2.2.1, ggm_0.2.2.2.1, ggm_0.2.2.2.2.1, (va_cpy ggm_0.2.2.2.2.1 ggm_0.2.2.2.2.2.1 (0 : Int32).toNatClampNeg (0 : Int32).toNatClampNeg (5 : Int32).toNatClampNeg), ggm_0.2.2.2.2.2.2) x3 H locs ls h hP hD hS (lv_sub hl [0, 1, 2] rfl)
  obtain ⟨H, hH⟩ : ∃ H : Heap, H = s.heap := ⟨_, rfl⟩
  obtain ⟨locs, hlocs⟩ : ∃ locs : List Loc, locs = [] := ⟨_, rfl⟩
  have hS : va_S A s.heap H locs := by rw [hH, hlocs]; exact hS
  rw [← hH] at hP
  suffices hg : W p l e rm_X5_play s m aa below meth c H locs 0 0 (MQ below qq aa s 0 0 A) (F0 m 0 ls []) by subst hH; subst hlocs; exact hg
  unfold p_X5_play at h
  refine lv_aload_n hx hb dX5_play_0 rfl (lv_at hl 0 rfl) ?_
  refine lv_aload_n hx hb dX5_play_1 rfl (lv_at hl 1 rfl) ?_
  refine lv_aload_n hx hb dX5_play_2 rfl (lv_at hl 2 rfl) ?_
  obtain ⟨v1, hv2, h⟩ := ok_bind h
  refine cl_vv (w2 := fun (u : (Int32 × Int32 × Int32 × (Nat → Int32) × (Nat → Int32) × (Nat → Int32) × (Nat → Nat → Int64))) => w_X5_play cy a0 a1 a2 u gv_1 gne_2) (As := [.ref (a1 0), .ref (a2 0)]) (rest := []) ⟨hx, hb, hml, hown, hts⟩ (c_X5_setUp l dC dI cy a0 a1 a2 ggm_0 gv_1 gne_2 H.size v1 hv2) (cwV 2 hts gX5_play_X5_setUp rfl rfl rfl (by decide +kernel) ⟨Nat.le_of_ble_eq_true rfl, Nat.le_of_ble_eq_true rfl⟩) (va_recv hK hP (ci := 3) (q0 := 0) rfl rfl) cl_blind (cl_pre hK hP hD [0, 1, 2, 3, 4, 5, 6, 7, 8, 9, 10, 11, 12, 13, 14, 15, 16, 17, 18, 19, 20, 21, 22, 23, 24, 25, 26, 27, 28, 29, 30, 31, 32, 33] (by decide) rfl) hP hD hS hA [0, 1, 2, 3, 4, 5, 6, 7, 8, 9, 10, 11, 12, 13, 14, 15, 16, 17, 18, 19, 20, 21, 22, 23, 24, 25, 26, 27, 28, 29, 30, 31, 32, 33] rfl rfl hl.1 rfl (lv_room (Nat.le_of_ble_eq_true rfl)) dX5_play_3 ⟨Nat.le_of_ble_eq_true rfl, Nat.le_of_ble_eq_true rfl⟩ ⟨rfl, rfl⟩ (fun _ => updM [0, 1, 2, 3, 4, 5, 6, 7, 8, 9, 10, 11, 12, 13, 14, 15, 16, 17, 18, 19, 20, 21, 22, 23, 24, 25, 26, 27, 28, 29, 30, 31, 32, 33] [] [] 34 rfl rfl rfl rfl rfl (by decide +kernel) (by decide +kernel) rfl) (fun u H locs hw hP hD hS => ?_)
  have hw := hw.symm
  subst hw
  have hP : va_P (dC, dI) vwCl (w_X5_play cy a0 a1 a2 v1 gv_1 gne_2) H := hP
  have hD : va_D A (w_X5_play cy a0 a1 a2 v1 gv_1 gne_2) := hD
  refine lv_aload_n hx hb dX5_play_6 rfl (lv_at hl 0 rfl) ?_
  refine lv_iconst (v := (0 : Int32)) hx hb dX5_play_7 (by decide) ?_
  refine va_put (D := (dC, dI)) (ci := 3) (v := .int (0 : Int32)) (ty := .int) (C := RX5) (T := TX5) (N := 7) hx hb hts in_X5 tyX5 tyX5_ok nmX5 hown hK hP hD hS 0 rfl rfl 0 (by decide) lk0 (fun _ h9 => h9) rfl (by decide +kernel) rfl rfl (Nat.le_of_ble_eq_true rfl) dX5_play_8 (fun H locs hP hD hS => ?_)
  have hP : va_P (dC, dI) vwCl (w_X5_play cy a0 a1 a2 (((0 : Int32), v1.2)) gv_1 gne_2) H := hP
  have hD : va_D A (w_X5_play cy a0 a1 a2 (((0 : Int32), v1.2)) gv_1 gne_2) := hD
  refine lv_iconst (v := (0 : Int32)) hx hb dX5_play_11 (by decide) ?_
  refine lv_istore_n (lv' := [(3, .int (0 : Int32)), (0, .ref (a0 0)), (1, .ref (a1 0)), (2, .ref (a2 0))]) hx hb dX5_play_12 rfl hl (by decide) rfl (fun ls hl => ?_)
  exact c13 fu ((0 : Int32), v1.2) (0 : Int32) H locs ls h hP hD hS (lv_sub hl [1, 3, 0] rfl)

abbrev w_X6_addNet (cy : Nat → ClassId) (a0 : Nat → Nat) (gne : (Nat → Nat → Int32) × (Nat → Nat → Int64)) : va_W := [(a0 0, .inr (4, [.ref (a0 1), .ref (a0 12)])), (a0 1, .inl (cy 3, 10, .inr (.inr (.inr (.inr (fun i => some ([a0 2, a0 3, a0 4, a0 5, a0 6, a0 7, a0 8, a0 9, a0 10, a0 11].getD i 0))))))), (a0 2, .inl (cy 1, 41, .inl (gne.1 0))), (a0 3, .inl (cy 1, 41, .inl (gne.1 1))), (a0 4, .inl (cy 1, 41, .inl (gne.1 2))), (a0 5, .inl (cy 1, 41, .inl (gne.1 3))), (a0 6, .inl (cy 1, 41, .inl (gne.1 4))), (a0 7, .inl (cy 1, 41, .inl (gne.1 5))), (a0 8, .inl (cy 1, 41, .inl (gne.1 6))), (a0 9, .inl (cy 1, 41, .inl (gne.1 7))), (a0 10, .inl (cy 1, 41, .inl (gne.1 8))), (a0 11, .inl (cy 1, 41, .inl (gne.1 9))), (a0 12, .inl (cy 4, 5, .inr (.inr (.inr (.inr (fun i => some ([a0 13, a0 14, a0 15, a0 16, a0 17].getD i 0))))))), (a0 13, .inl (cy 2, 41, .inr (.inl (gne.2 0)))), (a0 14, .inl (cy 2, 41, .inr (.inl (gne.2 1)))), (a0 15, .inl (cy 2, 41, .inr (.inl (gne.2 2)))), (a0 16, .inl (cy 2, 41, .inr (.inl (gne.2 3)))), (a0 17, .inl (cy 2, 41, .inr (.inl (gne.2 4))))]
abbrev rm_X6_addNet : Room := { frames := 0, cells := 0, slots := 0, locals := 0 }
set_option maxHeartbeats 1000000 in
set_option maxRecDepth 100000 in
theorem c_X6_addNet (l : Launch) (dC : Nat → ClassId) (dI : Nat → Nat → Nat) (cy : Nat → ClassId) (a0 : Nat → Nat) (gne : (Nat → Nat → Int32) × (Nat → Nat → Int64)) (x1 : Int32) (x2 : Int32) (x3 : Int32) (sz : Nat) (R0 : ((Nat → Nat → Int32) × (Nat → Nat → Int64))) (h : p_X6_addNet gne x1 x2 x3 = some R0) : Met l yX6_addNet wsX6_addNet rm_X6_addNet (va_Pc [.ref (a0 0), .int x1, .int x2, .int x3] (prC dC dI cy (w_X6_addNet cy a0 gne) sz)) (va_Qv (fun (u : ((Nat → Nat → Int32) × (Nat → Nat → Int64))) => u = R0) (fun (u : ((Nat → Nat → Int32) × (Nat → Nat → Int64))) t => poC dC dI cy (w_X6_addNet cy a0 u) t) (va_A (w_X6_addNet cy a0 gne) sz)) 0 0 (va_A (w_X6_addNet cy a0 gne) sz) := by
  refine Met.ofW (cc := cX6_addNet) (maxL := 4) (ret := none) (by decide) rfl ?_
  intro p e s m aa below meth c s₁ B hml hv
  obtain ⟨haa, hsz, hP, hK, hD0⟩ := hv
  have hx := B.exec
  have hb := B.bytes
  have hr := B.returns
  have hts := atoms_spec (ws := wsX6_addNet) B.pre
  have hown : s.vm.findClass RX6 = some m.cls := findClass_of_methodNamed B.named
  have hlocks := B.notSynchronized
  subst hsz
  have hD := hD0.self (sz := s.heap.size)
  obtain ⟨qq, hqq⟩ : ∃ qq, qq = (va_Qv (fun (u : ((Nat → Nat → Int32) × (Nat → Nat → Int64))) => u = R0) (fun (u : ((Nat → Nat → Int32) × (Nat → Nat → Int64))) t => poC dC dI cy (w_X6_addNet cy a0 u) t) (va_A (w_X6_addNet cy a0 gne) s.heap.size)) := ⟨_, rfl⟩
  rw [← hqq]
  generalize hAe : va_A (w_X6_addNet cy a0 gne) s.heap.size = A at hD hqq ⊢
  have hA : ∀ q : Nat, s.heap.size ≤ q → A q := fun q h => by rw [← hAe]; exact Or.inr h
  have hS : va_S A s.heap s.heap [] := va_S.rf
  have hl := lv_entry ([.ref (a0 0), .int x1, .int x2, .int x3]) (n := 4) (Nat.le_of_ble_eq_true rfl)
  have hE : entryFrame m aa 4 = F0 m 0 ((lg_sl ([.ref (a0 0), .int x1, .int x2, .int x3]) ++ List.replicate (4 - (lg_sl ([.ref (a0 0), .int x1, .int x2, .int x3])).length) Slot.unset).toArray) [] := by rw [haa]; exact lg_entry_eq m _ 4
  refine W.eq hE ?_
  generalize (lg_sl ([.ref (a0 0), .int x1, .int x2, .int x3]) ++ List.replicate (4 - (lg_sl ([.ref (a0 0), .int x1, .int x2, .int x3])).length) Slot.unset).toArray = ls at hl ⊢
  have hl : lv_has ls 4 [(0, .ref (a0 0)), (1, .int x1), (2, .int x2), (3, .int x3)] := hl
  change W p l e rm_X6_addNet s m aa below meth c s.heap [] 0 0 (MQ below qq aa s 0 0 A) (F0 m 0 ls [])
  have hS0 := hS
  have lk0 := hts (.fieldLink RX6 18 "GoatDoors$Nets" "nets" "[[J") (by decide +kernel)
  have in_X6 : ∀ w ∈ wsX60, w ∈ wsX6_addNet := by decide +kernel
  obtain ⟨H, hH⟩ : ∃ H : Heap, H = s.heap := ⟨_, rfl⟩
  obtain ⟨locs, hlocs⟩ : ∃ locs : List Loc, locs = [] := ⟨_, rfl⟩
  have hS : va_S A s.heap H locs := by rw [hH, hlocs]; exact hS
  rw [← hH] at hP
  suffices hg : W p l e rm_X6_addNet s m aa below meth c H locs 0 0 (MQ below qq aa s 0 0 A) (F0 m 0 ls []) by subst hH; subst hlocs; exact hg
  unfold p_X6_addNet at h
  refine lv_iload_n hx hb dX6_addNet_0 rfl (lv_at hl 1 rfl) ?_
  refine lv_if_lt (tgt := 32) hx hb dX6_addNet_1 (by decide) (fun c1 => ?_) (fun c1 => ?_)
  · rw [if_pos c1] at h
    exact W.vret hx hb hr (fun t ht hW => by rw [hqq]; have hh := Option.some.inj h; exact ⟨⟨(gne), rfl, Option.some.inj h, by rw [ht]; exact hP, va_K.moved hW.alike hK⟩, hS.F ht⟩) hS.2.2 dX6_addNet_32
  · rw [if_neg c1] at h
    refine lv_iload_n hx hb dX6_addNet_4 rfl (lv_at hl 1 rfl) ?_
    refine lv_iconst (v := (5 : Int32)) hx hb dX6_addNet_5 (by decide) ?_
    refine lv_icmp_ge (tgt := 32) hx hb dX6_addNet_6 (by decide) (fun c2 => ?_) (fun c2 => ?_)
    · rw [if_pos c2] at h
      exact W.vret hx hb hr (fun t ht hW => by rw [hqq]; have hh := Option.some.inj h; exact ⟨⟨(gne), rfl, Option.some.inj h, by rw [ht]; exact hP, va_K.moved hW.alike hK⟩, hS.F ht⟩) hS.2.2 dX6_addNet_32
    · rw [if_neg c2] at h
      refine lv_iload_n hx hb dX6_addNet_9 rfl (lv_at hl 2 rfl) ?_
      refine lv_if_lt (tgt := 32) hx hb dX6_addNet_10 (by decide) (fun c3 => ?_) (fun c3 => ?_)
      · rw [if_pos c3] at h
        exact W.vret hx hb hr (fun t ht hW => by rw [hqq]; have hh := Option.some.inj h; exact ⟨⟨(gne), rfl, Option.some.inj h, by rw [ht]; exact hP, va_K.moved hW.alike hK⟩, hS.F ht⟩) hS.2.2 dX6_addNet_32
      · rw [if_neg c3] at h
        refine lv_iload_n hx hb dX6_addNet_13 rfl (lv_at hl 2 rfl) ?_
        refine lv_bipush (v := (41 : Int32)) hx hb dX6_addNet_14 (by decide) ?_
        refine lv_icmp_ge (tgt := 32) hx hb dX6_addNet_16 (by decide) (fun c4 => ?_) (fun c4 => ?_)
        · rw [if_pos c4] at h
          exact W.vret hx hb hr (fun t ht hW => by rw [hqq]; have hh := Option.some.inj h; exact ⟨⟨(gne), rfl, Option.some.inj h, by rw [ht]; exact hP, va_K.moved hW.alike hK⟩, hS.F ht⟩) hS.2.2 dX6_addNet_32
        · rw [if_neg c4] at h
          refine lv_aload_n hx hb dX6_addNet_19 rfl (lv_at hl 0 rfl) ?_
          refine va_get (D := (dC, dI)) (ci := 4) (v := .ref (a0 12)) (C := RX6) (T := TX6) (N := 2) hx hb hts in_X6 hown hK hP 0 rfl rfl 1 (by decide) lk0 (fun _ h9 => h9) rfl dX6_addNet_20 ?_
          refine lv_iload_n hx hb dX6_addNet_23 rfl (lv_at hl 1 rfl) ?_
          obtain ⟨hi5, h⟩ := ok_if h
          refine va_aldA hx hb hK hP 12 4 rfl rfl (ix_in hi5) dX6_addNet_24 ?_
          refine W.eq (g2 := F0 m 25 ls [.ref ([a0 13, a0 14, a0 15, a0 16, a0 17].getD (x1).toNatClampNeg 0)]) rfl ?_
          refine lv_iload_n hx hb dX6_addNet_25 rfl (lv_at hl 2 rfl) ?_
          refine lv_dup2_11 hx hb dX6_addNet_26 rfl rfl ?_
          obtain ⟨hi6, h⟩ := ok_if h
          refine va_lald hx hb hK hP (13 + x1.toNatClampNeg) 2 (lt5 (P := fun z => (w_X6_addNet cy a0 gne)[13 + z]? = some (([a0 13, a0 14, a0 15, a0 16, a0 17].getD z 0), .inl (cy 2, 41, .inr (.inl (gne.2 z))))) (ix_lt hi5) rfl rfl rfl rfl rfl) rfl (ix_in hi6) dX6_addNet_27 ?_
          refine lv_iload_n hx hb dX6_addNet_28 rfl (lv_at hl 3 rfl) ?_
          refine lv_i2l hx hb dX6_addNet_29 rfl ?_
          refine lv_ladd hx hb dX6_addNet_30 ?_
          obtain ⟨hi7, h⟩ := ok_if h
          refine va_last hx hb hK hP hD hS (13 + x1.toNatClampNeg) 2 (lt5 (P := fun z => (w_X6_addNet cy a0 gne)[13 + z]? = some (([a0 13, a0 14, a0 15, a0 16, a0 17].getD z 0), .inl (cy 2, 41, .inr (.inl (gne.2 z))))) (ix_lt hi5) rfl rfl rfl rfl rfl) rfl (ix_in hi7) dX6_addNet_31 (fun H locs hP hD hS => ?_)
          have e8 := lt5 (P := fun z => (w_X6_addNet cy a0 gne).set (13 + z) (([a0 13, a0 14, a0 15, a0 16, a0 17].getD z 0), .inl (cy 2, 41, .inr (.inl ((vp_updL (gne.2 z) x2.toNatClampNeg ((gne.2 x1.toNatClampNeg x2.toNatClampNeg) + x3.toInt64)))))) = w_X6_addNet cy a0 ((gne.1, (va_up gne.2 z (vp_updL (gne.2 z) x2.toNatClampNeg ((gne.2 x1.toNatClampNeg x2.toNatClampNeg) + x3.toInt64)))))) (ix_lt hi5) rfl rfl rfl rfl rfl
          have hP : va_P (dC, dI) vwCl (w_X6_addNet cy a0 ((gne.1, (va_up gne.2 x1.toNatClampNeg (vp_updL (gne.2 x1.toNatClampNeg) x2.toNatClampNeg ((gne.2 x1.toNatClampNeg x2.toNatClampNeg) + x3.toInt64)))))) H := e8 ▸ hP
          have hD : va_D A (w_X6_addNet cy a0 ((gne.1, (va_up gne.2 x1.toNatClampNeg (vp_updL (gne.2 x1.toNatClampNeg) x2.toNatClampNeg ((gne.2 x1.toNatClampNeg x2.toNatClampNeg) + x3.toInt64)))))) := e8 ▸ hD
          exact W.vret hx hb hr (fun t ht hW => by rw [hqq]; have hh := Option.some.inj h; exact ⟨⟨((gne.1, (va_up gne.2 x1.toNatClampNeg (vp_updL (gne.2 x1.toNatClampNeg) x2.toNatClampNeg ((gne.2 x1.toNatClampNeg x2.toNatClampNeg) + x3.toInt64))))), rfl, Option.some.inj h, by rw [ht]; exact hP, va_K.moved hW.alike hK⟩, hS.F ht⟩) hS.2.2 dX6_addNet_32

abbrev w_X6_fill (cy : Nat → ClassId) (a0 : Nat → Nat) (a1 : Nat → Nat) (gne_0 : (Nat → Nat → Int32) × (Nat → Nat → Int64)) (gv_1 : Int32 × Int32 × (Nat → Int32) × (Nat → Int32) × (Nat → Int32) × (Nat → Int32) × (Nat → Int32)) (gd_1 : Int32 × Int32 × (Nat → Int32) × (Nat → Int32) × (Nat → Int32) × (Nat → Int32)) : va_W := [(a0 0, .inr (4, [.ref (a0 1), .ref (a0 12)])), (a0 1, .inl (cy 3, 10, .inr (.inr (.inr (.inr (fun i => some ([a0 2, a0 3, a0 4, a0 5, a0 6, a0 7, a0 8, a0 9, a0 10, a0 11].getD i 0))))))), (a0 2, .inl (cy 1, 41, .inl (gne_0.1 0))), (a0 3, .inl (cy 1, 41, .inl (gne_0.1 1))), (a0 4, .inl (cy 1, 41, .inl (gne_0.1 2))), (a0 5, .inl (cy 1, 41, .inl (gne_0.1 3))), (a0 6, .inl (cy 1, 41, .inl (gne_0.1 4))), (a0 7, .inl (cy 1, 41, .inl (gne_0.1 5))), (a0 8, .inl (cy 1, 41, .inl (gne_0.1 6))), (a0 9, .inl (cy 1, 41, .inl (gne_0.1 7))), (a0 10, .inl (cy 1, 41, .inl (gne_0.1 8))), (a0 11, .inl (cy 1, 41, .inl (gne_0.1 9))), (a0 12, .inl (cy 4, 5, .inr (.inr (.inr (.inr (fun i => some ([a0 13, a0 14, a0 15, a0 16, a0 17].getD i 0))))))), (a0 13, .inl (cy 2, 41, .inr (.inl (gne_0.2 0)))), (a0 14, .inl (cy 2, 41, .inr (.inl (gne_0.2 1)))), (a0 15, .inl (cy 2, 41, .inr (.inl (gne_0.2 2)))), (a0 16, .inl (cy 2, 41, .inr (.inl (gne_0.2 3)))), (a0 17, .inl (cy 2, 41, .inr (.inl (gne_0.2 4)))), (a1 0, .inr (7, [.int (gv_1.1), .int (gv_1.2.1), .ref (a1 1), .ref (a1 6), .ref (a1 10), .ref (a1 11), .ref (a1 12), .ref (a1 13), .ref (a1 14)])), (a1 1, .inr (2, [.int (gd_1.1), .int (gd_1.2.1), .ref (a1 2), .ref (a1 3), .ref (a1 4), .ref (a1 5)])), (a1 2, .inl (cy 1, 10, .inl (gd_1.2.2.1))), (a1 3, .inl (cy 1, 10, .inl (gd_1.2.2.2.1))), (a1 4, .inl (cy 1, 10, .inl (gd_1.2.2.2.2.1))), (a1 5, .inl (cy 1, 50, .inl (gd_1.2.2.2.2.2)))]
abbrev rm_X6_fill : Room := { frames := 4, cells := 0, slots := 0, locals := 93 }
set_option maxHeartbeats 1000000 in
set_option maxRecDepth 100000 in
theorem c_X6_fill (l : Launch) (dC : Nat → ClassId) (dI : Nat → Nat → Nat) (cy : Nat → ClassId) (a0 : Nat → Nat) (a1 : Nat → Nat) (gne_0 : (Nat → Nat → Int32) × (Nat → Nat → Int64)) (gv_1 : Int32 × Int32 × (Nat → Int32) × (Nat → Int32) × (Nat → Int32) × (Nat → Int32) × (Nat → Int32)) (gd_1 : Int32 × Int32 × (Nat → Int32) × (Nat → Int32) × (Nat → Int32) × (Nat → Int32)) (sz : Nat) (R0 : ((Nat → Nat → Int32) × (Nat → Nat → Int64))) (h : p_X6_fill gne_0 gd_1 = some R0) : Met l yX6_fill wsX6_fill rm_X6_fill (va_Pc [.ref (a0 0), .ref (a1 0)] (prC dC dI cy (w_X6_fill cy a0 a1 gne_0 gv_1 gd_1) sz)) (va_Qv (fun (u : ((Nat → Nat → Int32) × (Nat → Nat → Int64))) => u = R0) (fun (u : ((Nat → Nat → Int32) × (Nat → Nat → Int64))) t => poC dC dI cy (w_X6_fill cy a0 a1 u gv_1 gd_1) t) (va_A (w_X6_fill cy a0 a1 gne_0 gv_1 gd_1) sz)) 0 0 (va_A (w_X6_fill cy a0 a1 gne_0 gv_1 gd_1) sz) := by
  refine Met.ofW (cc := cX6_fill) (maxL := 4) (ret := none) (by decide) rfl ?_
  intro p e s m aa below meth c s₁ B hml hv
  obtain ⟨haa, hsz, hP, hK, hD0⟩ := hv
  have hx := B.exec
  have hb := B.bytes
  have hr := B.returns
  have hts := atoms_spec (ws := wsX6_fill) B.pre
  have hown : s.vm.findClass RX6 = some m.cls := findClass_of_methodNamed B.named
  have hlocks := B.notSynchronized
  subst hsz
  have hD := hD0.self (sz := s.heap.size)
  obtain ⟨qq, hqq⟩ : ∃ qq, qq = (va_Qv (fun (u : ((Nat → Nat → Int32) × (Nat → Nat → Int64))) => u = R0) (fun (u : ((Nat → Nat → Int32) × (Nat → Nat → Int64))) t => poC dC dI cy (w_X6_fill cy a0 a1 u gv_1 gd_1) t) (va_A (w_X6_fill cy a0 a1 gne_0 gv_1 gd_1) s.heap.size)) := ⟨_, rfl⟩
  rw [← hqq]
  generalize hAe : va_A (w_X6_fill cy a0 a1 gne_0 gv_1 gd_1) s.heap.size = A at hD hqq ⊢
  have hA : ∀ q : Nat, s.heap.size ≤ q → A q := fun q h => by rw [← hAe]; exact Or.inr h
  have hS : va_S A s.heap s.heap [] := va_S.rf
  have hl := lv_entry ([.ref (a0 0), .ref (a1 0)]) (n := 4) (Nat.le_of_ble_eq_true rfl)
  have hE : entryFrame m aa 4 = F0 m 0 ((lg_sl ([.ref (a0 0), .ref (a1 0)]) ++ List.replicate (4 - (lg_sl ([.ref (a0 0), .ref (a1 0)])).length) Slot.unset).toArray) [] := by rw [haa]; exact lg_entry_eq m _ 4
  refine W.eq hE ?_
  generalize (lg_sl ([.ref (a0 0), .ref (a1 0)]) ++ List.replicate (4 - (lg_sl ([.ref (a0 0), .ref (a1 0)])).length) Slot.unset).toArray = ls at hl ⊢
  have hl : lv_has ls 4 [(0, .ref (a0 0)), (1, .ref (a1 0))] := hl
  change W p l e rm_X6_fill s m aa below meth c s.heap [] 0 0 (MQ below qq aa s 0 0 A) (F0 m 0 ls [])
  have hS0 := hS
  have lk0 := hts (.fieldLink RX6 21 "GoatDoors$Village" "doors" "LGoatDoors$Doors;") (by decide +kernel)
  have lk1 := hts (.fieldLink RX6 11 "GoatDoors$Nets" "worths" "[[I") (by decide +kernel)
  have lk2 := hts (.fieldLink RX6 18 "GoatDoors$Nets" "nets" "[[J") (by decide +kernel)
  have in_X9 : ∀ w ∈ wsX90, w ∈ wsX6_fill := by decide +kernel
  have in_X6 : ∀ w ∈ wsX60, w ∈ wsX6_fill := by decide +kernel
  have c63 : ∀ (k2 : ((Nat → Nat → Int32) × (Nat → Nat → Int64)) → Int32 → Option (((Nat → Nat → Int32) × (Nat → Nat → Int64)))) (hk2 : ∀ (gne_0 : (Nat → Nat → Int32) × (Nat → Nat → Int64)) (x2 : Int32) (H : Heap) (locs : List Loc) (ls : Array Slot), k2 gne_0 x2 = some R0 → va_P (dC, dI) vwCl (w_X6_fill cy a0 a1 gne_0 gv_1 gd_1) H → va_D A (w_X6_fill cy a0 a1 gne_0 gv_1 gd_1) → va_S A s.heap H locs → lv_has ls 4 [(0, .ref (a0 0)), (1, .ref (a1 0)), (2, .int x2)] → W p l e rm_X6_fill s m aa below meth c H locs 0 0 (MQ below qq aa s 0 0 A) (F0 m 2 ls [])) (n : Nat), ∀ (gne_0 : (Nat → Nat → Int32) × (Nat → Nat → Int64)) (x2 : Int32) (x3 : Int32) (H : Heap) (locs : List Loc) (ls : Array Slot), p_X6_fill_63 k2 gd_1 n gne_0 x2 x3 = some R0 → va_P (dC, dI) vwCl (w_X6_fill cy a0 a1 gne_0 gv_1 gd_1) H → va_D A (w_X6_fill cy a0 a1 gne_0 gv_1 gd_1) → va_S A s.heap H locs → lv_has ls 4 [(0, .ref (a0 0)), (1, .ref (a1 0)), (2, .int x2), (3, .int x3)] → W p l e rm_X6_fill s m aa below meth c H locs 0 0 (MQ below qq aa s 0 0 A) (F0 m 63 ls []) := by
    intro k2 hk2 n
    induction n with
    | zero => intro gne_0 x2 x3 H locs ls h; exact no_some h
    | succ n ih =>
      intro gne_0 x2 x3 H locs ls h hP hD hS hl
      rw [p_X6_fill_63.eq_2] at h
      refine lv_iload_n hx hb dX6_fill_63 rfl (lv_at hl 3 rfl) ?_
      refine lv_bipush (v := (10 : Int32)) hx hb dX6_fill_64 (by decide) ?_
      refine lv_icmp_ge (tgt := 118) hx hb dX6_fill_66 (by decide) (fun c1 => ?_) (fun c1 => ?_)
      · rw [if_pos c1] at h
        refine lv_iinc (v := (x2 + (1 : Int32))) (lv' := [(2, .int (x2 + (1 : Int32))), (0, .ref (a0 0)), (1, .ref (a1 0)), (3, .int x3)]) hx hb dX6_fill_118 hl (k := 2) rfl rfl (by decide) rfl (fun ls hl => ?_)
        refine lv_goto (tgt := 2) hx hb dX6_fill_121 (by decide) ?_
        exact hk2 gne_0 (x2 + (1 : Int32)) H locs ls h hP hD hS (lv_sub hl [1, 2, 0] rfl)
      · rw [if_neg c1] at h
        refine lv_aload_n hx hb dX6_fill_69 rfl (lv_at hl 0 rfl) ?_
        refine lv_aload_n hx hb dX6_fill_70 rfl (lv_at hl 1 rfl) ?_
        refine va_get (D := (dC, dI)) (ci := 7) (v := .ref (a1 1)) (C := RX9) (T := TX9) (N := 9) hx hb hts in_X9 hown hK hP 18 rfl rfl 2 (by decide) lk0 (fun _ h9 => h9) rfl dX6_fill_71 ?_
        refine lv_iload_n hx hb dX6_fill_74 rfl (lv_at hl 3 rfl) ?_
        obtain ⟨v2, hv3, h⟩ := ok_bind h
        refine cl_vi (w2 := fun (_ : Unit) => w_X6_fill cy a0 a1 gne_0 gv_1 gd_1) (As := [.int x3]) (rest := [.ref (a0 0)]) ⟨hx, hb, hml, hown, hts⟩ (c_X4_lenderOf l dC dI cy (fun k => a1 (k + 1)) gd_1 x3 H.size v2 hv3) (cwV 1 hts gX6_fill_X4_lenderOf rfl rfl rfl (by decide +kernel) ⟨Nat.le_of_ble_eq_true rfl, Nat.le_of_ble_eq_true rfl⟩) (va_recv hK hP (ci := 2) (q0 := 19) rfl rfl) cl_blind (cl_pre hK hP hD [19, 20, 21, 22, 23] (by decide) rfl) hP hD hS hA [19, 20, 21, 22, 23] rfl rfl hl.1 rfl (lv_room (Nat.le_of_ble_eq_true rfl)) dX6_fill_75 ⟨Nat.le_of_ble_eq_true rfl, Nat.le_of_ble_eq_true rfl⟩ ⟨rfl, rfl⟩ (fun _ => updR [19, 20, 21, 22, 23] rfl) (fun r u H locs hw hP hD hS => ?_)
        have hw := hw.symm
        subst hw
        have hP : va_P (dC, dI) vwCl (w_X6_fill cy a0 a1 gne_0 gv_1 gd_1) H := hP
        have hD : va_D A (w_X6_fill cy a0 a1 gne_0 gv_1 gd_1) := hD
        refine lv_iload_n hx hb dX6_fill_78 rfl (lv_at hl 2 rfl) ?_
        refine lv_aload_n hx hb dX6_fill_79 rfl (lv_at hl 0 rfl) ?_
        refine va_get (D := (dC, dI)) (ci := 4) (v := .ref (a0 1)) (C := RX6) (T := TX6) (N := 2) hx hb hts in_X6 hown hK hP 0 rfl rfl 0 (by decide) lk1 (fun _ h9 => h9) rfl dX6_fill_80 ?_
        refine lv_iload_n hx hb dX6_fill_83 rfl (lv_at hl 3 rfl) ?_
        obtain ⟨hi4, h⟩ := ok_if h
        refine va_aldA hx hb hK hP 1 3 rfl rfl (ix_in hi4) dX6_fill_84 ?_
        refine W.eq (g2 := F0 m 85 ls [.ref ([a0 2, a0 3, a0 4, a0 5, a0 6, a0 7, a0 8, a0 9, a0 10, a0 11].getD (x3).toNatClampNeg 0), .int x2, .int v2, .ref (a0 0)]) rfl ?_
        refine lv_iload_n hx hb dX6_fill_85 rfl (lv_at hl 2 rfl) ?_
        obtain ⟨hi5, h⟩ := ok_if h
        refine va_iald hx hb hK hP (2 + x3.toNatClampNeg) 1 (lt10 (P := fun z => (w_X6_fill cy a0 a1 gne_0 gv_1 gd_1)[2 + z]? = some (([a0 2, a0 3, a0 4, a0 5, a0 6, a0 7, a0 8, a0 9, a0 10, a0 11].getD z 0), .inl (cy 1, 41, .inl (gne_0.1 z)))) (ix_lt hi4) rfl rfl rfl rfl rfl rfl rfl rfl rfl rfl) rfl (ix_in hi5) dX6_fill_86 ?_
        obtain ⟨v6, hv7, h⟩ := ok_bind h
        refine cl_vv (w2 := fun (u : ((Nat → Nat → Int32) × (Nat → Nat → Int64))) => w_X6_fill cy a0 a1 u gv_1 gd_1) (As := [.int v2, .int x2, .int (gne_0.1 x3.toNatClampNeg x2.toNatClampNeg)]) (rest := []) ⟨hx, hb, hml, hown, hts⟩ (c_X6_addNet l dC dI cy a0 gne_0 v2 x2 (gne_0.1 x3.toNatClampNeg x2.toNatClampNeg) H.size v6 hv7) (cwV 3 hts gX6_fill_X6_addNet rfl rfl rfl (by decide +kernel) ⟨Nat.le_of_ble_eq_true rfl, Nat.le_of_ble_eq_true rfl⟩) (va_recv hK hP (ci := 4) (q0 := 0) rfl rfl) cl_blind (cl_pre hK hP hD [0, 1, 2, 3, 4, 5, 6, 7, 8, 9, 10, 11, 12, 13, 14, 15, 16, 17] (by decide) rfl) hP hD hS hA [0, 1, 2, 3, 4, 5, 6, 7, 8, 9, 10, 11, 12, 13, 14, 15, 16, 17] rfl rfl hl.1 rfl (lv_room (Nat.le_of_ble_eq_true rfl)) dX6_fill_87 ⟨Nat.le_of_ble_eq_true rfl, Nat.le_of_ble_eq_true rfl⟩ ⟨rfl, rfl⟩ (fun _ => updM [0, 1, 2, 3, 4, 5, 6, 7, 8, 9, 10, 11, 12, 13, 14, 15, 16, 17] [18, 19, 20, 21, 22, 23] [(a1 0, .inr (7, [.int (gv_1.1), .int (gv_1.2.1), .ref (a1 1), .ref (a1 6), .ref (a1 10), .ref (a1 11), .ref (a1 12), .ref (a1 13), .ref (a1 14)])), (a1 1, .inr (2, [.int (gd_1.1), .int (gd_1.2.1), .ref (a1 2), .ref (a1 3), .ref (a1 4), .ref (a1 5)])), (a1 2, .inl (cy 1, 10, .inl (gd_1.2.2.1))), (a1 3, .inl (cy 1, 10, .inl (gd_1.2.2.2.1))), (a1 4, .inl (cy 1, 10, .inl (gd_1.2.2.2.2.1))), (a1 5, .inl (cy 1, 50, .inl (gd_1.2.2.2.2.2)))] 24 rfl rfl rfl rfl rfl (by decide +kernel) (by decide +kernel) rfl) (fun u H locs hw hP hD hS => ?_)
        have hw := hw.symm
        subst hw
        have hP : va_P (dC, dI) vwCl (w_X6_fill cy a0 a1 v6 gv_1 gd_1) H := hP
        have hD : va_D A (w_X6_fill cy a0 a1 v6 gv_1 gd_1) := hD
        refine lv_aload_n hx hb dX6_fill_90 rfl (lv_at hl 0 rfl) ?_
        refine lv_aload_n hx hb dX6_fill_91 rfl (lv_at hl 1 rfl) ?_
        refine va_get (D := (dC, dI)) (ci := 7) (v := .ref (a1 1)) (C := RX9) (T := TX9) (N := 9) hx hb hts in_X9 hown hK hP 18 rfl rfl 2 (by decide) lk0 (fun _ h9 => h9) rfl dX6_fill_92 ?_
        refine lv_iload_n hx hb dX6_fill_95 rfl (lv_at hl 3 rfl) ?_
        obtain ⟨v8, hv9, h⟩ := ok_bind h
        refine cl_vi (w2 := fun (_ : Unit) => w_X6_fill cy a0 a1 v6 gv_1 gd_1) (As := [.int x3]) (rest := [.ref (a0 0)]) ⟨hx, hb, hml, hown, hts⟩ (c_X4_debtorOf l dC dI cy (fun k => a1 (k + 1)) gd_1 x3 H.size v8 hv9) (cwV 1 hts gX6_fill_X4_debtorOf rfl rfl rfl (by decide +kernel) ⟨Nat.le_of_ble_eq_true rfl, Nat.le_of_ble_eq_true rfl⟩) (va_recv hK hP (ci := 2) (q0 := 19) rfl rfl) cl_blind (cl_pre hK hP hD [19, 20, 21, 22, 23] (by decide) rfl) hP hD hS hA [19, 20, 21, 22, 23] rfl rfl hl.1 rfl (lv_room (Nat.le_of_ble_eq_true rfl)) dX6_fill_96 ⟨Nat.le_of_ble_eq_true rfl, Nat.le_of_ble_eq_true rfl⟩ ⟨rfl, rfl⟩ (fun _ => updR [19, 20, 21, 22, 23] rfl) (fun r u H locs hw hP hD hS => ?_)
        have hw := hw.symm
        subst hw
        have hP : va_P (dC, dI) vwCl (w_X6_fill cy a0 a1 v6 gv_1 gd_1) H := hP
        have hD : va_D A (w_X6_fill cy a0 a1 v6 gv_1 gd_1) := hD
        refine lv_iload_n hx hb dX6_fill_99 rfl (lv_at hl 2 rfl) ?_
        refine lv_aload_n hx hb dX6_fill_100 rfl (lv_at hl 0 rfl) ?_
        refine va_get (D := (dC, dI)) (ci := 4) (v := .ref (a0 1)) (C := RX6) (T := TX6) (N := 2) hx hb hts in_X6 hown hK hP 0 rfl rfl 0 (by decide) lk1 (fun _ h9 => h9) rfl dX6_fill_101 ?_
        refine lv_iload_n hx hb dX6_fill_104 rfl (lv_at hl 3 rfl) ?_
        obtain ⟨hi10, h⟩ := ok_if h
        refine va_aldA hx hb hK hP 1 3 rfl rfl (ix_in hi10) dX6_fill_105 ?_
        refine W.eq (g2 := F0 m 106 ls [.ref ([a0 2, a0 3, a0 4, a0 5, a0 6, a0 7, a0 8, a0 9, a0 10, a0 11].getD (x3).toNatClampNeg 0), .int x2, .int v8, .ref (a0 0)]) rfl ?_
        refine lv_iload_n hx hb dX6_fill_106 rfl (lv_at hl 2 rfl) ?_
        obtain ⟨hi11, h⟩ := ok_if h
        refine va_iald hx hb hK hP (2 + x3.toNatClampNeg) 1 (lt10 (P := fun z => (w_X6_fill cy a0 a1 v6 gv_1 gd_1)[2 + z]? = some (([a0 2, a0 3, a0 4, a0 5, a0 6, a0 7, a0 8, a0 9, a0 10, a0 11].getD z 0), .inl (cy 1, 41, .inl (v6.1 z)))) (ix_lt hi10) rfl rfl rfl rfl rfl rfl rfl rfl rfl rfl) rfl (ix_in hi11) dX6_fill_107 ?_
        refine lv_ineg hx hb dX6_fill_108 ?_
        obtain ⟨v12, hv13, h⟩ := ok_bind h
        refine cl_vv (w2 := fun (u : ((Nat → Nat → Int32) × (Nat → Nat → Int64))) => w_X6_fill cy a0 a1 u gv_1 gd_1) (As := [.int v8, .int x2, .int (-(v6.1 x3.toNatClampNeg x2.toNatClampNeg))]) (rest := []) ⟨hx, hb, hml, hown, hts⟩ (c_X6_addNet l dC dI cy a0 v6 v8 x2 (-(v6.1 x3.toNatClampNeg x2.toNatClampNeg)) H.size v12 hv13) (cwV 3 hts gX6_fill_X6_addNet rfl rfl rfl (by decide +kernel) ⟨Nat.le_of_ble_eq_true rfl, Nat.le_of_ble_eq_true rfl⟩) (va_recv hK hP (ci := 4) (q0 := 0) rfl rfl) cl_blind (cl_pre hK hP hD [0, 1, 2, 3, 4, 5, 6, 7, 8, 9, 10, 11, 12, 13, 14, 15, 16, 17] (by decide) rfl) hP hD hS hA [0, 1, 2, 3, 4, 5, 6, 7, 8, 9, 10, 11, 12, 13, 14, 15, 16, 17] rfl rfl hl.1 rfl (lv_room (Nat.le_of_ble_eq_true rfl)) dX6_fill_109 ⟨Nat.le_of_ble_eq_true rfl, Nat.le_of_ble_eq_true rfl⟩ ⟨rfl, rfl⟩ (fun _ => updM [0, 1, 2, 3, 4, 5, 6, 7, 8, 9, 10, 11, 12, 13, 14, 15, 16, 17] [18, 19, 20, 21, 22, 23] [(a1 0, .inr (7, [.int (gv_1.1), .int (gv_1.2.1), .ref (a1 1), .ref (a1 6), .ref (a1 10), .ref (a1 11), .ref (a1 12), .ref (a1 13), .ref (a1 14)])), (a1 1, .inr (2, [.int (gd_1.1), .int (gd_1.2.1), .ref (a1 2), .ref (a1 3), .ref (a1 4), .ref (a1 5)])), (a1 2, .inl (cy 1, 10, .inl (gd_1.2.2.1))), (a1 3, .inl (cy 1, 10, .inl (gd_1.2.2.2.1))), (a1 4, .inl (cy 1, 10, .inl (gd_1.2.2.2.2.1))), (a1 5, .inl (cy 1, 50, .inl (gd_1.2.2.2.2.2)))] 24 rfl rfl rfl rfl rfl (by decide +kernel) (by decide +kernel) rfl) (fun u H locs hw hP hD hS => ?_)
        have hw := hw.symm
        subst hw
        have hP : va_P (dC, dI) vwCl (w_X6_fill cy a0 a1 v12 gv_1 gd_1) H := hP
        have hD : va_D A (w_X6_fill cy a0 a1 v12 gv_1 gd_1) := hD
        refine lv_iinc (v := (x3 + (1 : Int32))) (lv' := [(3, .int (x3 + (1 : Int32))), (0, .ref (a0 0)), (1, .ref (a1 0)), (2, .int x2)]) hx hb dX6_fill_112 hl (k := 3) rfl rfl (by decide) rfl (fun ls hl => ?_)
        refine lv_goto (tgt := 63) hx hb dX6_fill_115 (by decide) ?_
        exact ih v12 x2 (x3 + (1 : Int32)) H locs ls h hP hD hS (lv_sub hl [1, 2, 3, 0] rfl)
  have c41 : ∀ (k2 : ((Nat → Nat → Int32) × (Nat → Nat → Int64)) → Int32 → Option (((Nat → Nat → Int32) × (Nat → Nat → Int64)))) (hk2 : ∀ (gne_0 : (Nat → Nat → Int32) × (Nat → Nat → Int64)) (x2 : Int32) (H : Heap) (locs : List Loc) (ls : Array Slot), k2 gne_0 x2 = some R0 → va_P (dC, dI) vwCl (w_X6_fill cy a0 a1 gne_0 gv_1 gd_1) H → va_D A (w_X6_fill cy a0 a1 gne_0 gv_1 gd_1) → va_S A s.heap H locs → lv_has ls 4 [(0, .ref (a0 0)), (1, .ref (a1 0)), (2, .int x2)] → W p l e rm_X6_fill s m aa below meth c H locs 0 0 (MQ below qq aa s 0 0 A) (F0 m 2 ls [])) (n : Nat), ∀ (gne_0 : (Nat → Nat → Int32) × (Nat → Nat → Int64)) (x2 : Int32) (x3 : Int32) (H : Heap) (locs : List Loc) (ls : Array Slot), p_X6_fill_41 k2 gd_1 n gne_0 x2 x3 = some R0 → va_P (dC, dI) vwCl (w_X6_fill cy a0 a1 gne_0 gv_1 gd_1) H → va_D A (w_X6_fill cy a0 a1 gne_0 gv_1 gd_1) → va_S A s.heap H locs → lv_has ls 4 [(0, .ref (a0 0)), (1, .ref (a1 0)), (2, .int x2), (3, .int x3)] → W p l e rm_X6_fill s m aa below meth c H locs 0 0 (MQ below qq aa s 0 0 A) (F0 m 41 ls []) := by
    intro k2 hk2 n
    induction n with
    | zero => intro gne_0 x2 x3 H locs ls h; exact no_some h
    | succ n ih =>
      intro gne_0 x2 x3 H locs ls h hP hD hS hl
      rw [p_X6_fill_41.eq_2] at h
      refine lv_iload_n hx hb dX6_fill_41 rfl (lv_at hl 3 rfl) ?_
      refine lv_iconst (v := (5 : Int32)) hx hb dX6_fill_42 (by decide) ?_
      refine lv_icmp_ge (tgt := 61) hx hb dX6_fill_43 (by decide) (fun c1 => ?_) (fun c1 => ?_)
      · rw [if_pos c1] at h
        refine lv_iconst (v := (0 : Int32)) hx hb dX6_fill_61 (by decide) ?_
        refine lv_istore_n (lv' := [(3, .int (0 : Int32)), (0, .ref (a0 0)), (1, .ref (a1 0)), (2, .int x2)]) hx hb dX6_fill_62 rfl hl (by decide) rfl (fun ls hl => ?_)
        exact c63 k2 hk2 fu gne_0 x2 (0 : Int32) H locs ls h hP hD hS (lv_sub hl [1, 2, 3, 0] rfl)
      · rw [if_neg c1] at h
        refine lv_aload_n hx hb dX6_fill_46 rfl (lv_at hl 0 rfl) ?_
        refine va_get (D := (dC, dI)) (ci := 4) (v := .ref (a0 12)) (C := RX6) (T := TX6) (N := 2) hx hb hts in_X6 hown hK hP 0 rfl rfl 1 (by decide) lk2 (fun _ h9 => h9) rfl dX6_fill_47 ?_
        refine lv_iload_n hx hb dX6_fill_50 rfl (lv_at hl 3 rfl) ?_
        obtain ⟨hi2, h⟩ := ok_if h
        refine va_aldA hx hb hK hP 12 4 rfl rfl (ix_in hi2) dX6_fill_51 ?_
        refine W.eq (g2 := F0 m 52 ls [.ref ([a0 13, a0 14, a0 15, a0 16, a0 17].getD (x3).toNatClampNeg 0)]) rfl ?_
        refine lv_iload_n hx hb dX6_fill_52 rfl (lv_at hl 2 rfl) ?_
        refine lv_lconst (v := (0 : Int64)) hx hb dX6_fill_53 (by decide) ?_
        obtain ⟨hi3, h⟩ := ok_if h
        refine va_last hx hb hK hP hD hS (13 + x3.toNatClampNeg) 2 (lt5 (P := fun z => (w_X6_fill cy a0 a1 gne_0 gv_1 gd_1)[13 + z]? = some (([a0 13, a0 14, a0 15, a0 16, a0 17].getD z 0), .inl (cy 2, 41, .inr (.inl (gne_0.2 z))))) (ix_lt hi2) rfl rfl rfl rfl rfl) rfl (ix_in hi3) dX6_fill_54 (fun H locs hP hD hS => ?_)
        have e4 := lt5 (P := fun z => (w_X6_fill cy a0 a1 gne_0 gv_1 gd_1).set (13 + z) (([a0 13, a0 14, a0 15, a0 16, a0 17].getD z 0), .inl (cy 2, 41, .inr (.inl ((vp_updL (gne_0.2 z) x2.toNatClampNeg (0 : Int64)))))) = w_X6_fill cy a0 a1 ((gne_0.1, (va_up gne_0.2 z (vp_updL (gne_0.2 z) x2.toNatClampNeg (0 : Int64))))) gv_1 gd_1) (ix_lt hi2) rfl rfl rfl rfl rfl
        have hP : va_P (dC, dI) vwCl (w_X6_fill cy a0 a1 ((gne_0.1, (va_up gne_0.2 x3.toNatClampNeg (vp_updL (gne_0.2 x3.toNatClampNeg) x2.toNatClampNeg (0 : Int64))))) gv_1 gd_1) H := e4 ▸ hP
        have hD : va_D A (w_X6_fill cy a0 a1 ((gne_0.1, (va_up gne_0.2 x3.toNatClampNeg (vp_updL (gne_0.2 x3.toNatClampNeg) x2.toNatClampNeg (0 : Int64))))) gv_1 gd_1) := e4 ▸ hD
        refine lv_iinc (v := (x3 + (1 : Int32))) (lv' := [(3, .int (x3 + (1 : Int32))), (0, .ref (a0 0)), (1, .ref (a1 0)), (2, .int x2)]) hx hb dX6_fill_55 hl (k := 3) rfl rfl (by decide) rfl (fun ls hl => ?_)
        refine lv_goto (tgt := 41) hx hb dX6_fill_58 (by decide) ?_
        exact ih (gne_0.1, (va_up gne_0.2 x3.toNatClampNeg (vp_updL (gne_0.2 x3.toNatClampNeg) x2.toNatClampNeg (0 : Int64)))) x2 (x3 + (1 : Int32)) H locs ls h hP hD hS (lv_sub hl [1, 2, 3, 0] rfl)
  have c10 : ∀ (k2 : ((Nat → Nat → Int32) × (Nat → Nat → Int64)) → Int32 → Option (((Nat → Nat → Int32) × (Nat → Nat → Int64)))) (hk2 : ∀ (gne_0 : (Nat → Nat → Int32) × (Nat → Nat → Int64)) (x2 : Int32) (H : Heap) (locs : List Loc) (ls : Array Slot), k2 gne_0 x2 = some R0 → va_P (dC, dI) vwCl (w_X6_fill cy a0 a1 gne_0 gv_1 gd_1) H → va_D A (w_X6_fill cy a0 a1 gne_0 gv_1 gd_1) → va_S A s.heap H locs → lv_has ls 4 [(0, .ref (a0 0)), (1, .ref (a1 0)), (2, .int x2)] → W p l e rm_X6_fill s m aa below meth c H locs 0 0 (MQ below qq aa s 0 0 A) (F0 m 2 ls [])) (n : Nat), ∀ (gne_0 : (Nat → Nat → Int32) × (Nat → Nat → Int64)) (x2 : Int32) (x3 : Int32) (H : Heap) (locs : List Loc) (ls : Array Slot), p_X6_fill_10 k2 gd_1 n gne_0 x2 x3 = some R0 → va_P (dC, dI) vwCl (w_X6_fill cy a0 a1 gne_0 gv_1 gd_1) H → va_D A (w_X6_fill cy a0 a1 gne_0 gv_1 gd_1) → va_S A s.heap H locs → lv_has ls 4 [(0, .ref (a0 0)), (1, .ref (a1 0)), (2, .int x2), (3, .int x3)] → W p l e rm_X6_fill s m aa below meth c H locs 0 0 (MQ below qq aa s 0 0 A) (F0 m 10 ls []) := by
    intro k2 hk2 n
    induction n with
    | zero => intro gne_0 x2 x3 H locs ls h; exact no_some h
    | succ n ih =>
      intro gne_0 x2 x3 H locs ls h hP hD hS hl
      rw [p_X6_fill_10.eq_2] at h
      refine lv_iload_n hx hb dX6_fill_10 rfl (lv_at hl 3 rfl) ?_
      refine lv_bipush (v := (10 : Int32)) hx hb dX6_fill_11 (by decide) ?_
      refine lv_icmp_ge (tgt := 39) hx hb dX6_fill_13 (by decide) (fun c1 => ?_) (fun c1 => ?_)
      · rw [if_pos c1] at h
        refine lv_iconst (v := (0 : Int32)) hx hb dX6_fill_39 (by decide) ?_
        refine lv_istore_n (lv' := [(3, .int (0 : Int32)), (0, .ref (a0 0)), (1, .ref (a1 0)), (2, .int x2)]) hx hb dX6_fill_40 rfl hl (by decide) rfl (fun ls hl => ?_)
        exact c41 k2 hk2 fu gne_0 x2 (0 : Int32) H locs ls h hP hD hS (lv_sub hl [1, 2, 3, 0] rfl)
      · rw [if_neg c1] at h
        refine lv_aload_n hx hb dX6_fill_16 rfl (lv_at hl 0 rfl) ?_
        refine va_get (D := (dC, dI)) (ci := 4) (v := .ref (a0 1)) (C := RX6) (T := TX6) (N := 2) hx hb hts in_X6 hown hK hP 0 rfl rfl 0 (by decide) lk1 (fun _ h9 => h9) rfl dX6_fill_17 ?_
        refine lv_iload_n hx hb dX6_fill_20 rfl (lv_at hl 3 rfl) ?_
        obtain ⟨hi2, h⟩ := ok_if h
        refine va_aldA hx hb hK hP 1 3 rfl rfl (ix_in hi2) dX6_fill_21 ?_
        refine W.eq (g2 := F0 m 22 ls [.ref ([a0 2, a0 3, a0 4, a0 5, a0 6, a0 7, a0 8, a0 9, a0 10, a0 11].getD (x3).toNatClampNeg 0)]) rfl ?_
        refine lv_iload_n hx hb dX6_fill_22 rfl (lv_at hl 2 rfl) ?_
        refine lv_aload_n hx hb dX6_fill_23 rfl (lv_at hl 1 rfl) ?_
        refine va_get (D := (dC, dI)) (ci := 7) (v := .ref (a1 1)) (C := RX9) (T := TX9) (N := 9) hx hb hts in_X9 hown hK hP 18 rfl rfl 2 (by decide) lk0 (fun _ h9 => h9) rfl dX6_fill_24 ?_
        refine lv_iload_n hx hb dX6_fill_27 rfl (lv_at hl 3 rfl) ?_
        refine lv_iload_n hx hb dX6_fill_28 rfl (lv_at hl 2 rfl) ?_
        obtain ⟨v3, hv4, h⟩ := ok_bind h
        refine cl_vi (w2 := fun (_ : Unit) => w_X6_fill cy a0 a1 gne_0 gv_1 gd_1) (As := [.int x3, .int x2]) (rest := [.int x2, .ref ([a0 2, a0 3, a0 4, a0 5, a0 6, a0 7, a0 8, a0 9, a0 10, a0 11].getD (x3).toNatClampNeg 0)]) ⟨hx, hb, hml, hown, hts⟩ (c_X4_worthIn l dC dI cy (fun k => a1 (k + 1)) gd_1 x3 x2 H.size v3 hv4) (cwV 2 hts gX6_fill_X4_worthIn rfl rfl rfl (by decide +kernel) ⟨Nat.le_of_ble_eq_true rfl, Nat.le_of_ble_eq_true rfl⟩) (va_recv hK hP (ci := 2) (q0 := 19) rfl rfl) cl_blind (cl_pre hK hP hD [19, 20, 21, 22, 23] (by decide) rfl) hP hD hS hA [19, 20, 21, 22, 23] rfl rfl hl.1 rfl (lv_room (Nat.le_of_ble_eq_true rfl)) dX6_fill_29 ⟨Nat.le_of_ble_eq_true rfl, Nat.le_of_ble_eq_true rfl⟩ ⟨rfl, rfl⟩ (fun _ => updR [19, 20, 21, 22, 23] rfl) (fun r u H locs hw hP hD hS => ?_)
        have hw := hw.symm
        subst hw
        have hP : va_P (dC, dI) vwCl (w_X6_fill cy a0 a1 gne_0 gv_1 gd_1) H := hP
        have hD : va_D A (w_X6_fill cy a0 a1 gne_0 gv_1 gd_1) := hD
        obtain ⟨hi5, h⟩ := ok_if h
        refine va_iast hx hb hK hP hD hS (2 + x3.toNatClampNeg) 1 (lt10 (P := fun z => (w_X6_fill cy a0 a1 gne_0 gv_1 gd_1)[2 + z]? = some (([a0 2, a0 3, a0 4, a0 5, a0 6, a0 7, a0 8, a0 9, a0 10, a0 11].getD z 0), .inl (cy 1, 41, .inl (gne_0.1 z)))) (ix_lt hi2) rfl rfl rfl rfl rfl rfl rfl rfl rfl rfl) rfl (ix_in hi5) dX6_fill_32 (fun H locs hP hD hS => ?_)
        have e6 := lt10 (P := fun z => (w_X6_fill cy a0 a1 gne_0 gv_1 gd_1).set (2 + z) (([a0 2, a0 3, a0 4, a0 5, a0 6, a0 7, a0 8, a0 9, a0 10, a0 11].getD z 0), .inl (cy 1, 41, .inl ((upd (gne_0.1 z) x2.toNatClampNeg v3)))) = w_X6_fill cy a0 a1 (((va_up gne_0.1 z (upd (gne_0.1 z) x2.toNatClampNeg v3)), gne_0.2)) gv_1 gd_1) (ix_lt hi2) rfl rfl rfl rfl rfl rfl rfl rfl rfl rfl
        have hP : va_P (dC, dI) vwCl (w_X6_fill cy a0 a1 (((va_up gne_0.1 x3.toNatClampNeg (upd (gne_0.1 x3.toNatClampNeg) x2.toNatClampNeg v3)), gne_0.2)) gv_1 gd_1) H := e6 ▸ hP
        have hD : va_D A (w_X6_fill cy a0 a1 (((va_up gne_0.1 x3.toNatClampNeg (upd (gne_0.1 x3.toNatClampNeg) x2.toNatClampNeg v3)), gne_0.2)) gv_1 gd_1) := e6 ▸ hD
        refine lv_iinc (v := (x3 + (1 : Int32))) (lv' := [(3, .int (x3 + (1 : Int32))), (0, .ref (a0 0)), (1, .ref (a1 0)), (2, .int x2)]) hx hb dX6_fill_33 hl (k := 3) rfl rfl (by decide) rfl (fun ls hl => ?_)
        refine lv_goto (tgt := 10) hx hb dX6_fill_36 (by decide) ?_
        exact ih ((va_up gne_0.1 x3.toNatClampNeg (upd (gne_0.1 x3.toNatClampNeg) x2.toNatClampNeg v3)), gne_0.2) x2 (x3 + (1 : Int32)) H locs ls h hP hD hS (lv_sub hl [1, 2, 3, 0] rfl)
  have c2 : ∀ (n : Nat), ∀ (gne_0 : (Nat → Nat → Int32) × (Nat → Nat → Int64)) (x2 : Int32) (H : Heap) (locs : List Loc) (ls : Array Slot), p_X6_fill_2 gd_1 n gne_0 x2 = some R0 → va_P (dC, dI) vwCl (w_X6_fill cy a0 a1 gne_0 gv_1 gd_1) H → va_D A (w_X6_fill cy a0 a1 gne_0 gv_1 gd_1) → va_S A s.heap H locs → lv_has ls 4 [(0, .ref (a0 0)), (1, .ref (a1 0)), (2, .int x2)] → W p l e rm_X6_fill s m aa below meth c H locs 0 0 (MQ below qq aa s 0 0 A) (F0 m 2 ls []) := by
    intro  n
    induction n with
    | zero => intro gne_0 x2 H locs ls h; exact no_some h
    | succ n ih =>
      intro gne_0 x2 H locs ls h hP hD hS hl
      rw [p_X6_fill_2.eq_2] at h
      refine lv_iload_n hx hb dX6_fill_2 rfl (lv_at hl 2 rfl) ?_
      refine lv_bipush (v := (41 : Int32)) hx hb dX6_fill_3 (by decide) ?_
      refine lv_icmp_ge (tgt := 124) hx hb dX6_fill_5 (by decide) (fun c1 => ?_) (fun c1 => ?_)
      · rw [if_pos c1] at h
        exact W.vret hx hb hr (fun t ht hW => by rw [hqq]; have hh := Option.some.inj h; exact ⟨⟨(gne_0), rfl, Option.some.inj h, by rw [ht]; exact hP, va_K.moved hW.alike hK⟩, hS.F ht⟩) hS.2.2 dX6_fill_124
      · rw [if_neg c1] at h
        refine lv_iconst (v := (0 : Int32)) hx hb dX6_fill_8 (by decide) ?_
        refine lv_istore_n (lv' := [(3, .int (0 : Int32)), (0, .ref (a0 0)), (1, .ref (a1 0)), (2, .int x2)]) hx hb dX6_fill_9 rfl hl (by decide) rfl (fun ls hl => ?_)
        exact c10 (p_X6_fill_2 gd_1 n) ih fu gne_0 x2 (0 : Int32) H locs ls h hP hD hS (lv_sub hl [1, 2, 3, 0] rfl)
  obtain ⟨H, hH⟩ : ∃ H : Heap, H = s.heap := ⟨_, rfl⟩
  obtain ⟨locs, hlocs⟩ : ∃ locs : List Loc, locs = [] := ⟨_, rfl⟩
  have hS : va_S A s.heap H locs := by rw [hH, hlocs]; exact hS
  rw [← hH] at hP
  suffices hg : W p l e rm_X6_fill s m aa below meth c H locs 0 0 (MQ below qq aa s 0 0 A) (F0 m 0 ls []) by subst hH; subst hlocs; exact hg
  unfold p_X6_fill at h
  refine lv_iconst (v := (0 : Int32)) hx hb dX6_fill_0 (by decide) ?_
  refine lv_istore_n (lv' := [(2, .int (0 : Int32)), (0, .ref (a0 0)), (1, .ref (a1 0))]) hx hb dX6_fill_1 rfl hl (by decide) rfl (fun ls hl => ?_)
  exact c2 fu gne_0 (0 : Int32) H locs ls h hP hD hS (lv_sub hl [1, 2, 0] rfl)

abbrev w_X6_worthOf (cy : Nat → ClassId) (a0 : Nat → Nat) (gne : (Nat → Nat → Int32) × (Nat → Nat → Int64)) : va_W := [(a0 0, .inr (4, [.ref (a0 1), .ref (a0 12)])), (a0 1, .inl (cy 3, 10, .inr (.inr (.inr (.inr (fun i => some ([a0 2, a0 3, a0 4, a0 5, a0 6, a0 7, a0 8, a0 9, a0 10, a0 11].getD i 0))))))), (a0 2, .inl (cy 1, 41, .inl (gne.1 0))), (a0 3, .inl (cy 1, 41, .inl (gne.1 1))), (a0 4, .inl (cy 1, 41, .inl (gne.1 2))), (a0 5, .inl (cy 1, 41, .inl (gne.1 3))), (a0 6, .inl (cy 1, 41, .inl (gne.1 4))), (a0 7, .inl (cy 1, 41, .inl (gne.1 5))), (a0 8, .inl (cy 1, 41, .inl (gne.1 6))), (a0 9, .inl (cy 1, 41, .inl (gne.1 7))), (a0 10, .inl (cy 1, 41, .inl (gne.1 8))), (a0 11, .inl (cy 1, 41, .inl (gne.1 9))), (a0 12, .inl (cy 4, 5, .inr (.inr (.inr (.inr (fun i => some ([a0 13, a0 14, a0 15, a0 16, a0 17].getD i 0))))))), (a0 13, .inl (cy 2, 41, .inr (.inl (gne.2 0)))), (a0 14, .inl (cy 2, 41, .inr (.inl (gne.2 1)))), (a0 15, .inl (cy 2, 41, .inr (.inl (gne.2 2)))), (a0 16, .inl (cy 2, 41, .inr (.inl (gne.2 3)))), (a0 17, .inl (cy 2, 41, .inr (.inl (gne.2 4))))]
abbrev rm_X6_worthOf : Room := { frames := 0, cells := 0, slots := 0, locals := 0 }
set_option maxHeartbeats 1000000 in
set_option maxRecDepth 100000 in
theorem c_X6_worthOf (l : Launch) (dC : Nat → ClassId) (dI : Nat → Nat → Nat) (cy : Nat → ClassId) (a0 : Nat → Nat) (gne : (Nat → Nat → Int32) × (Nat → Nat → Int64)) (x1 : Int32) (x2 : Int32) (sz : Nat) (R0 : Int32) (h : p_X6_worthOf gne x1 x2 = some R0) : Met l yX6_worthOf wsX6_worthOf rm_X6_worthOf (va_Pc [.ref (a0 0), .int x1, .int x2] (prC dC dI cy (w_X6_worthOf cy a0 gne) sz)) (va_Qi (fun (r : Int32) (_ : Unit) => r = R0) (fun (_ : Unit) t => poC dC dI cy (w_X6_worthOf cy a0 gne) t) (va_A (w_X6_worthOf cy a0 gne) sz)) 0 0 (va_A (w_X6_worthOf cy a0 gne) sz) := by
  refine Met.ofW (cc := cX6_worthOf) (maxL := 3) (ret := (some .int)) (by decide) rfl ?_
  intro p e s m aa below meth c s₁ B hml hv
  obtain ⟨haa, hsz, hP, hK, hD0⟩ := hv
  have hx := B.exec
  have hb := B.bytes
  have hr := B.returns
  have hts := atoms_spec (ws := wsX6_worthOf) B.pre
  have hown : s.vm.findClass RX6 = some m.cls := findClass_of_methodNamed B.named
  have hlocks := B.notSynchronized
  subst hsz
  have hD := hD0.self (sz := s.heap.size)
  obtain ⟨qq, hqq⟩ : ∃ qq, qq = (va_Qi (fun (r : Int32) (_ : Unit) => r = R0) (fun (_ : Unit) t => poC dC dI cy (w_X6_worthOf cy a0 gne) t) (va_A (w_X6_worthOf cy a0 gne) s.heap.size)) := ⟨_, rfl⟩
  rw [← hqq]
  generalize hAe : va_A (w_X6_worthOf cy a0 gne) s.heap.size = A at hD hqq ⊢
  have hA : ∀ q : Nat, s.heap.size ≤ q → A q := fun q h => by rw [← hAe]; exact Or.inr h
  have hS : va_S A s.heap s.heap [] := va_S.rf
  have hl := lv_entry ([.ref (a0 0), .int x1, .int x2]) (n := 3) (Nat.le_of_ble_eq_true rfl)
  have hE : entryFrame m aa 3 = F0 m 0 ((lg_sl ([.ref (a0 0), .int x1, .int x2]) ++ List.replicate (3 - (lg_sl ([.ref (a0 0), .int x1, .int x2])).length) Slot.unset).toArray) [] := by rw [haa]; exact lg_entry_eq m _ 3
  refine W.eq hE ?_
  generalize (lg_sl ([.ref (a0 0), .int x1, .int x2]) ++ List.replicate (3 - (lg_sl ([.ref (a0 0), .int x1, .int x2])).length) Slot.unset).toArray = ls at hl ⊢
  have hl : lv_has ls 3 [(0, .ref (a0 0)), (1, .int x1), (2, .int x2)] := hl
  change W p l e rm_X6_worthOf s m aa below meth c s.heap [] 0 0 (MQ below qq aa s 0 0 A) (F0 m 0 ls [])
  have hS0 := hS
  have lk0 := hts (.fieldLink RX6 11 "GoatDoors$Nets" "worths" "[[I") (by decide +kernel)
  have in_X6 : ∀ w ∈ wsX60, w ∈ wsX6_worthOf := by decide +kernel
  obtain ⟨H, hH⟩ : ∃ H : Heap, H = s.heap := ⟨_, rfl⟩
  obtain ⟨locs, hlocs⟩ : ∃ locs : List Loc, locs = [] := ⟨_, rfl⟩
  have hS : va_S A s.heap H locs := by rw [hH, hlocs]; exact hS
  rw [← hH] at hP
  suffices hg : W p l e rm_X6_worthOf s m aa below meth c H locs 0 0 (MQ below qq aa s 0 0 A) (F0 m 0 ls []) by subst hH; subst hlocs; exact hg
  unfold p_X6_worthOf at h
  refine lv_iload_n hx hb dX6_worthOf_0 rfl (lv_at hl 1 rfl) ?_
  refine lv_if_lt (tgt := 31) hx hb dX6_worthOf_1 (by decide) (fun c1 => ?_) (fun c1 => ?_)
  · rw [if_pos c1] at h
    refine lv_iconst (v := (0 : Int32)) hx hb dX6_worthOf_31 (by decide) ?_
    exact W.iret (v := (0 : Int32)) hx hb hr (fun t ht hW => by rw [hqq]; have hh := Option.some.inj h; exact ⟨⟨(0 : Int32), (()), rfl, Option.some.inj h, by rw [ht]; exact hP, va_K.moved hW.alike hK⟩, hS.F ht⟩) hS.2.2 dX6_worthOf_32
  · rw [if_neg c1] at h
    refine lv_iload_n hx hb dX6_worthOf_4 rfl (lv_at hl 1 rfl) ?_
    refine lv_bipush (v := (10 : Int32)) hx hb dX6_worthOf_5 (by decide) ?_
    refine lv_icmp_ge (tgt := 31) hx hb dX6_worthOf_7 (by decide) (fun c2 => ?_) (fun c2 => ?_)
    · rw [if_pos c2] at h
      refine lv_iconst (v := (0 : Int32)) hx hb dX6_worthOf_31 (by decide) ?_
      exact W.iret (v := (0 : Int32)) hx hb hr (fun t ht hW => by rw [hqq]; have hh := Option.some.inj h; exact ⟨⟨(0 : Int32), (()), rfl, Option.some.inj h, by rw [ht]; exact hP, va_K.moved hW.alike hK⟩, hS.F ht⟩) hS.2.2 dX6_worthOf_32
    · rw [if_neg c2] at h
      refine lv_iload_n hx hb dX6_worthOf_10 rfl (lv_at hl 2 rfl) ?_
      refine lv_if_lt (tgt := 31) hx hb dX6_worthOf_11 (by decide) (fun c3 => ?_) (fun c3 => ?_)
      · rw [if_pos c3] at h
        refine lv_iconst (v := (0 : Int32)) hx hb dX6_worthOf_31 (by decide) ?_
        exact W.iret (v := (0 : Int32)) hx hb hr (fun t ht hW => by rw [hqq]; have hh := Option.some.inj h; exact ⟨⟨(0 : Int32), (()), rfl, Option.some.inj h, by rw [ht]; exact hP, va_K.moved hW.alike hK⟩, hS.F ht⟩) hS.2.2 dX6_worthOf_32
      · rw [if_neg c3] at h
        refine lv_iload_n hx hb dX6_worthOf_14 rfl (lv_at hl 2 rfl) ?_
        refine lv_bipush (v := (41 : Int32)) hx hb dX6_worthOf_15 (by decide) ?_
        refine lv_icmp_ge (tgt := 31) hx hb dX6_worthOf_17 (by decide) (fun c4 => ?_) (fun c4 => ?_)
        · rw [if_pos c4] at h
          refine lv_iconst (v := (0 : Int32)) hx hb dX6_worthOf_31 (by decide) ?_
          exact W.iret (v := (0 : Int32)) hx hb hr (fun t ht hW => by rw [hqq]; have hh := Option.some.inj h; exact ⟨⟨(0 : Int32), (()), rfl, Option.some.inj h, by rw [ht]; exact hP, va_K.moved hW.alike hK⟩, hS.F ht⟩) hS.2.2 dX6_worthOf_32
        · rw [if_neg c4] at h
          refine lv_aload_n hx hb dX6_worthOf_20 rfl (lv_at hl 0 rfl) ?_
          refine va_get (D := (dC, dI)) (ci := 4) (v := .ref (a0 1)) (C := RX6) (T := TX6) (N := 2) hx hb hts in_X6 hown hK hP 0 rfl rfl 0 (by decide) lk0 (fun _ h9 => h9) rfl dX6_worthOf_21 ?_
          refine lv_iload_n hx hb dX6_worthOf_24 rfl (lv_at hl 1 rfl) ?_
          obtain ⟨hi5, h⟩ := ok_if h
          refine va_aldA hx hb hK hP 1 3 rfl rfl (ix_in hi5) dX6_worthOf_25 ?_
          refine W.eq (g2 := F0 m 26 ls [.ref ([a0 2, a0 3, a0 4, a0 5, a0 6, a0 7, a0 8, a0 9, a0 10, a0 11].getD (x1).toNatClampNeg 0)]) rfl ?_
          refine lv_iload_n hx hb dX6_worthOf_26 rfl (lv_at hl 2 rfl) ?_
          obtain ⟨hi6, h⟩ := ok_if h
          refine va_iald hx hb hK hP (2 + x1.toNatClampNeg) 1 (lt10 (P := fun z => (w_X6_worthOf cy a0 gne)[2 + z]? = some (([a0 2, a0 3, a0 4, a0 5, a0 6, a0 7, a0 8, a0 9, a0 10, a0 11].getD z 0), .inl (cy 1, 41, .inl (gne.1 z)))) (ix_lt hi5) rfl rfl rfl rfl rfl rfl rfl rfl rfl rfl) rfl (ix_in hi6) dX6_worthOf_27 ?_
          refine lv_goto (tgt := 32) hx hb dX6_worthOf_28 (by decide) ?_
          exact W.iret (v := (gne.1 x1.toNatClampNeg x2.toNatClampNeg)) hx hb hr (fun t ht hW => by rw [hqq]; have hh := Option.some.inj h; exact ⟨⟨(gne.1 x1.toNatClampNeg x2.toNatClampNeg), (()), rfl, Option.some.inj h, by rw [ht]; exact hP, va_K.moved hW.alike hK⟩, hS.F ht⟩) hS.2.2 dX6_worthOf_32

abbrev w_X6_netWith (cy : Nat → ClassId) (a0 : Nat → Nat) (gne : (Nat → Nat → Int32) × (Nat → Nat → Int64)) : va_W := [(a0 0, .inr (4, [.ref (a0 1), .ref (a0 12)])), (a0 1, .inl (cy 3, 10, .inr (.inr (.inr (.inr (fun i => some ([a0 2, a0 3, a0 4, a0 5, a0 6, a0 7, a0 8, a0 9, a0 10, a0 11].getD i 0))))))), (a0 2, .inl (cy 1, 41, .inl (gne.1 0))), (a0 3, .inl (cy 1, 41, .inl (gne.1 1))), (a0 4, .inl (cy 1, 41, .inl (gne.1 2))), (a0 5, .inl (cy 1, 41, .inl (gne.1 3))), (a0 6, .inl (cy 1, 41, .inl (gne.1 4))), (a0 7, .inl (cy 1, 41, .inl (gne.1 5))), (a0 8, .inl (cy 1, 41, .inl (gne.1 6))), (a0 9, .inl (cy 1, 41, .inl (gne.1 7))), (a0 10, .inl (cy 1, 41, .inl (gne.1 8))), (a0 11, .inl (cy 1, 41, .inl (gne.1 9))), (a0 12, .inl (cy 4, 5, .inr (.inr (.inr (.inr (fun i => some ([a0 13, a0 14, a0 15, a0 16, a0 17].getD i 0))))))), (a0 13, .inl (cy 2, 41, .inr (.inl (gne.2 0)))), (a0 14, .inl (cy 2, 41, .inr (.inl (gne.2 1)))), (a0 15, .inl (cy 2, 41, .inr (.inl (gne.2 2)))), (a0 16, .inl (cy 2, 41, .inr (.inl (gne.2 3)))), (a0 17, .inl (cy 2, 41, .inr (.inl (gne.2 4))))]
abbrev rm_X6_netWith : Room := { frames := 1, cells := 0, slots := 0, locals := 22 }
set_option maxHeartbeats 1000000 in
set_option maxRecDepth 100000 in
theorem c_X6_netWith (l : Launch) (dC : Nat → ClassId) (dI : Nat → Nat → Nat) (cy : Nat → ClassId) (a0 : Nat → Nat) (gne : (Nat → Nat → Int32) × (Nat → Nat → Int64)) (x1 : Int32) (x2 : Int32) (x3 : Int32) (x4 : Int32) (sz : Nat) (R0 : Int64) (h : p_X6_netWith gne x1 x2 x3 x4 = some R0) : Met l yX6_netWith wsX6_netWith rm_X6_netWith (va_Pc [.ref (a0 0), .int x1, .int x2, .int x3, .int x4] (prC dC dI cy (w_X6_netWith cy a0 gne) sz)) (va_Ql (fun (r : Int64) (_ : Unit) => r = R0) (fun (_ : Unit) t => poC dC dI cy (w_X6_netWith cy a0 gne) t) (va_A (w_X6_netWith cy a0 gne) sz)) 0 0 (va_A (w_X6_netWith cy a0 gne) sz) := by
  refine Met.ofW (cc := cX6_netWith) (maxL := 5) (ret := (some .long)) (by decide) rfl ?_
  intro p e s m aa below meth c s₁ B hml hv
  obtain ⟨haa, hsz, hP, hK, hD0⟩ := hv
  have hx := B.exec
  have hb := B.bytes
  have hr := B.returns
  have hts := atoms_spec (ws := wsX6_netWith) B.pre
  have hown : s.vm.findClass RX6 = some m.cls := findClass_of_methodNamed B.named
  have hlocks := B.notSynchronized
  subst hsz
  have hD := hD0.self (sz := s.heap.size)
  obtain ⟨qq, hqq⟩ : ∃ qq, qq = (va_Ql (fun (r : Int64) (_ : Unit) => r = R0) (fun (_ : Unit) t => poC dC dI cy (w_X6_netWith cy a0 gne) t) (va_A (w_X6_netWith cy a0 gne) s.heap.size)) := ⟨_, rfl⟩
  rw [← hqq]
  generalize hAe : va_A (w_X6_netWith cy a0 gne) s.heap.size = A at hD hqq ⊢
  have hA : ∀ q : Nat, s.heap.size ≤ q → A q := fun q h => by rw [← hAe]; exact Or.inr h
  have hS : va_S A s.heap s.heap [] := va_S.rf
  have hl := lv_entry ([.ref (a0 0), .int x1, .int x2, .int x3, .int x4]) (n := 5) (Nat.le_of_ble_eq_true rfl)
  have hE : entryFrame m aa 5 = F0 m 0 ((lg_sl ([.ref (a0 0), .int x1, .int x2, .int x3, .int x4]) ++ List.replicate (5 - (lg_sl ([.ref (a0 0), .int x1, .int x2, .int x3, .int x4])).length) Slot.unset).toArray) [] := by rw [haa]; exact lg_entry_eq m _ 5
  refine W.eq hE ?_
  generalize (lg_sl ([.ref (a0 0), .int x1, .int x2, .int x3, .int x4]) ++ List.replicate (5 - (lg_sl ([.ref (a0 0), .int x1, .int x2, .int x3, .int x4])).length) Slot.unset).toArray = ls at hl ⊢
  have hl : lv_has ls 5 [(0, .ref (a0 0)), (1, .int x1), (2, .int x2), (3, .int x3), (4, .int x4)] := hl
  change W p l e rm_X6_netWith s m aa below meth c s.heap [] 0 0 (MQ below qq aa s 0 0 A) (F0 m 0 ls [])
  have hS0 := hS
  obtain ⟨H, hH⟩ : ∃ H : Heap, H = s.heap := ⟨_, rfl⟩
  obtain ⟨locs, hlocs⟩ : ∃ locs : List Loc, locs = [] := ⟨_, rfl⟩
  have hS : va_S A s.heap H locs := by rw [hH, hlocs]; exact hS
  rw [← hH] at hP
  suffices hg : W p l e rm_X6_netWith s m aa below meth c H locs 0 0 (MQ below qq aa s 0 0 A) (F0 m 0 ls []) by subst hH; subst hlocs; exact hg
  unfold p_X6_netWith at h
  refine lv_aload_n hx hb dX6_netWith_0 rfl (lv_at hl 0 rfl) ?_
  refine lv_iload_n hx hb dX6_netWith_1 rfl (lv_at hl 1 rfl) ?_
  refine lv_iload hx hb dX6_netWith_2 (lv_at hl 4 rfl) ?_
  obtain ⟨v1, hv2, h⟩ := ok_bind h
  refine cl_vl (w2 := fun (_ : Unit) => w_X6_netWith cy a0 gne) (As := [.int x1, .int x4]) (rest := []) ⟨hx, hb, hml, hown, hts⟩ (c_X6_netIn l dC dI cy a0 gne x1 x4 H.size v1 hv2) (cwV 2 hts gX6_netWith_X6_netIn rfl rfl rfl (by decide +kernel) ⟨Nat.le_of_ble_eq_true rfl, Nat.le_of_ble_eq_true rfl⟩) (va_recv hK hP (ci := 4) (q0 := 0) rfl rfl) cl_blind (cl_pre hK hP hD [0, 1, 2, 3, 4, 5, 6, 7, 8, 9, 10, 11, 12, 13, 14, 15, 16, 17] (by decide) rfl) hP hD hS hA [0, 1, 2, 3, 4, 5, 6, 7, 8, 9, 10, 11, 12, 13, 14, 15, 16, 17] rfl rfl hl.1 rfl (lv_room (Nat.le_of_ble_eq_true rfl)) dX6_netWith_4 ⟨Nat.le_of_ble_eq_true rfl, Nat.le_of_ble_eq_true rfl⟩ ⟨rfl, rfl⟩ (fun _ => updR [0, 1, 2, 3, 4, 5, 6, 7, 8, 9, 10, 11, 12, 13, 14, 15, 16, 17] rfl) (fun r u H locs hw hP hD hS => ?_)
  have hw := hw.symm
  subst hw
  have hP : va_P (dC, dI) vwCl (w_X6_netWith cy a0 gne) H := hP
  have hD : va_D A (w_X6_netWith cy a0 gne) := hD
  refine lv_aload_n hx hb dX6_netWith_7 rfl (lv_at hl 0 rfl) ?_
  refine lv_iload_n hx hb dX6_netWith_8 rfl (lv_at hl 2 rfl) ?_
  refine lv_iload hx hb dX6_netWith_9 (lv_at hl 4 rfl) ?_
  obtain ⟨v3, hv4, h⟩ := ok_bind h
  refine cl_vi (w2 := fun (_ : Unit) => w_X6_netWith cy a0 gne) (As := [.int x2, .int x4]) (rest := [.long v1]) ⟨hx, hb, hml, hown, hts⟩ (c_X6_worthOf l dC dI cy a0 gne x2 x4 H.size v3 hv4) (cwV 2 hts gX6_netWith_X6_worthOf rfl rfl rfl (by decide +kernel) ⟨Nat.le_of_ble_eq_true rfl, Nat.le_of_ble_eq_true rfl⟩) (va_recv hK hP (ci := 4) (q0 := 0) rfl rfl) cl_blind (cl_pre hK hP hD [0, 1, 2, 3, 4, 5, 6, 7, 8, 9, 10, 11, 12, 13, 14, 15, 16, 17] (by decide) rfl) hP hD hS hA [0, 1, 2, 3, 4, 5, 6, 7, 8, 9, 10, 11, 12, 13, 14, 15, 16, 17] rfl rfl hl.1 rfl (lv_room (Nat.le_of_ble_eq_true rfl)) dX6_netWith_11 ⟨Nat.le_of_ble_eq_true rfl, Nat.le_of_ble_eq_true rfl⟩ ⟨rfl, rfl⟩ (fun _ => updR [0, 1, 2, 3, 4, 5, 6, 7, 8, 9, 10, 11, 12, 13, 14, 15, 16, 17] rfl) (fun r u H locs hw hP hD hS => ?_)
  have hw := hw.symm
  subst hw
  have hP : va_P (dC, dI) vwCl (w_X6_netWith cy a0 gne) H := hP
  have hD : va_D A (w_X6_netWith cy a0 gne) := hD
  refine lv_i2l hx hb dX6_netWith_14 rfl ?_
  refine lv_lsub hx hb dX6_netWith_15 ?_
  refine lv_aload_n hx hb dX6_netWith_16 rfl (lv_at hl 0 rfl) ?_
  refine lv_iload_n hx hb dX6_netWith_17 rfl (lv_at hl 3 rfl) ?_
  refine lv_iload hx hb dX6_netWith_18 (lv_at hl 4 rfl) ?_
  obtain ⟨v5, hv6, h⟩ := ok_bind h
  refine cl_vi (w2 := fun (_ : Unit) => w_X6_netWith cy a0 gne) (As := [.int x3, .int x4]) (rest := [.long (v1 - v3.toInt64)]) ⟨hx, hb, hml, hown, hts⟩ (c_X6_worthOf l dC dI cy a0 gne x3 x4 H.size v5 hv6) (cwV 2 hts gX6_netWith_X6_worthOf rfl rfl rfl (by decide +kernel) ⟨Nat.le_of_ble_eq_true rfl, Nat.le_of_ble_eq_true rfl⟩) (va_recv hK hP (ci := 4) (q0 := 0) rfl rfl) cl_blind (cl_pre hK hP hD [0, 1, 2, 3, 4, 5, 6, 7, 8, 9, 10, 11, 12, 13, 14, 15, 16, 17] (by decide) rfl) hP hD hS hA [0, 1, 2, 3, 4, 5, 6, 7, 8, 9, 10, 11, 12, 13, 14, 15, 16, 17] rfl rfl hl.1 rfl (lv_room (Nat.le_of_ble_eq_true rfl)) dX6_netWith_20 ⟨Nat.le_of_ble_eq_true rfl, Nat.le_of_ble_eq_true rfl⟩ ⟨rfl, rfl⟩ (fun _ => updR [0, 1, 2, 3, 4, 5, 6, 7, 8, 9, 10, 11, 12, 13, 14, 15, 16, 17] rfl) (fun r u H locs hw hP hD hS => ?_)
  have hw := hw.symm
  subst hw
  have hP : va_P (dC, dI) vwCl (w_X6_netWith cy a0 gne) H := hP
  have hD : va_D A (w_X6_netWith cy a0 gne) := hD
  refine lv_i2l hx hb dX6_netWith_23 rfl ?_
  refine lv_ladd hx hb dX6_netWith_24 ?_
  exact W.lret (v := ((v1 - v3.toInt64) + v5.toInt64)) hx hb hr (fun t ht hW => by rw [hqq]; have hh := Option.some.inj h; exact ⟨⟨((v1 - v3.toInt64) + v5.toInt64), (()), rfl, Option.some.inj h, by rw [ht]; exact hP, va_K.moved hW.alike hK⟩, hS.F ht⟩) hS.2.2 dX6_netWith_25

abbrev w_X6_spanWith (cy : Nat → ClassId) (a0 : Nat → Nat) (gne : (Nat → Nat → Int32) × (Nat → Nat → Int64)) : va_W := [(a0 0, .inr (4, [.ref (a0 1), .ref (a0 12)])), (a0 1, .inl (cy 3, 10, .inr (.inr (.inr (.inr (fun i => some ([a0 2, a0 3, a0 4, a0 5, a0 6, a0 7, a0 8, a0 9, a0 10, a0 11].getD i 0))))))), (a0 2, .inl (cy 1, 41, .inl (gne.1 0))), (a0 3, .inl (cy 1, 41, .inl (gne.1 1))), (a0 4, .inl (cy 1, 41, .inl (gne.1 2))), (a0 5, .inl (cy 1, 41, .inl (gne.1 3))), (a0 6, .inl (cy 1, 41, .inl (gne.1 4))), (a0 7, .inl (cy 1, 41, .inl (gne.1 5))), (a0 8, .inl (cy 1, 41, .inl (gne.1 6))), (a0 9, .inl (cy 1, 41, .inl (gne.1 7))), (a0 10, .inl (cy 1, 41, .inl (gne.1 8))), (a0 11, .inl (cy 1, 41, .inl (gne.1 9))), (a0 12, .inl (cy 4, 5, .inr (.inr (.inr (.inr (fun i => some ([a0 13, a0 14, a0 15, a0 16, a0 17].getD i 0))))))), (a0 13, .inl (cy 2, 41, .inr (.inl (gne.2 0)))), (a0 14, .inl (cy 2, 41, .inr (.inl (gne.2 1)))), (a0 15, .inl (cy 2, 41, .inr (.inl (gne.2 2)))), (a0 16, .inl (cy 2, 41, .inr (.inl (gne.2 3)))), (a0 17, .inl (cy 2, 41, .inr (.inl (gne.2 4))))]
abbrev rm_X6_spanWith : Room := { frames := 2, cells := 0, slots := 0, locals := 46 }
set_option maxHeartbeats 1000000 in
set_option maxRecDepth 100000 in
theorem c_X6_spanWith (l : Launch) (dC : Nat → ClassId) (dI : Nat → Nat → Nat) (cy : Nat → ClassId) (a0 : Nat → Nat) (gne : (Nat → Nat → Int32) × (Nat → Nat → Int64)) (x1 : Int32) (x2 : Int32) (x3 : Int32) (x4 : Int32) (x5 : Int32) (sz : Nat) (R0 : Int64) (h : p_X6_spanWith gne x1 x2 x3 x4 x5 = some R0) : Met l yX6_spanWith wsX6_spanWith rm_X6_spanWith (va_Pc [.ref (a0 0), .int x1, .int x2, .int x3, .int x4, .int x5] (prC dC dI cy (w_X6_spanWith cy a0 gne) sz)) (va_Ql (fun (r : Int64) (_ : Unit) => r = R0) (fun (_ : Unit) t => poC dC dI cy (w_X6_spanWith cy a0 gne) t) (va_A (w_X6_spanWith cy a0 gne) sz)) 0 0 (va_A (w_X6_spanWith cy a0 gne) sz) := by
  refine Met.ofW (cc := cX6_spanWith) (maxL := 13) (ret := (some .long)) (by decide) rfl ?_
  intro p e s m aa below meth c s₁ B hml hv
  obtain ⟨haa, hsz, hP, hK, hD0⟩ := hv
  have hx := B.exec
  have hb := B.bytes
  have hr := B.returns
  have hts := atoms_spec (ws := wsX6_spanWith) B.pre
  have hown : s.vm.findClass RX6 = some m.cls := findClass_of_methodNamed B.named
  have hlocks := B.notSynchronized
  subst hsz
  have hD := hD0.self (sz := s.heap.size)
  obtain ⟨qq, hqq⟩ : ∃ qq, qq = (va_Ql (fun (r : Int64) (_ : Unit) => r = R0) (fun (_ : Unit) t => poC dC dI cy (w_X6_spanWith cy a0 gne) t) (va_A (w_X6_spanWith cy a0 gne) s.heap.size)) := ⟨_, rfl⟩
  rw [← hqq]
  generalize hAe : va_A (w_X6_spanWith cy a0 gne) s.heap.size = A at hD hqq ⊢
  have hA : ∀ q : Nat, s.heap.size ≤ q → A q := fun q h => by rw [← hAe]; exact Or.inr h
  have hS : va_S A s.heap s.heap [] := va_S.rf
  have hl := lv_entry ([.ref (a0 0), .int x1, .int x2, .int x3, .int x4, .int x5]) (n := 13) (Nat.le_of_ble_eq_true rfl)
  have hE : entryFrame m aa 13 = F0 m 0 ((lg_sl ([.ref (a0 0), .int x1, .int x2, .int x3, .int x4, .int x5]) ++ List.replicate (13 - (lg_sl ([.ref (a0 0), .int x1, .int x2, .int x3, .int x4, .int x5])).length) Slot.unset).toArray) [] := by rw [haa]; exact lg_entry_eq m _ 13
  refine W.eq hE ?_
  generalize (lg_sl ([.ref (a0 0), .int x1, .int x2, .int x3, .int x4, .int x5]) ++ List.replicate (13 - (lg_sl ([.ref (a0 0), .int x1, .int x2, .int x3, .int x4, .int x5])).length) Slot.unset).toArray = ls at hl ⊢
  have hl : lv_has ls 13 [(0, .ref (a0 0)), (1, .int x1), (2, .int x2), (3, .int x3), (4, .int x4), (5, .int x5)] := hl
  change W p l e rm_X6_spanWith s m aa below meth c s.heap [] 0 0 (MQ below qq aa s 0 0 A) (F0 m 0 ls [])
  have hS0 := hS
  have lk0 := hts (.methodLink RX6 52 Lib.MathLoose.max_long.x) (by decide +kernel)
  have lk1 := hts (.static Lib.MathLoose.max_long.x) (by decide +kernel)
  have lk2 := hts (.initialized "java/lang/Math") (by decide +kernel)
  have lk3 := hts (.code Lib.MathLoose.max_long.x Lib.MathLoose.max_long.code 4 (some .long)) (by decide +kernel)
  have lk4 := hts (.methodLink RX6 58 Lib.MathLoose.min_long.x) (by decide +kernel)
  have lk5 := hts (.static Lib.MathLoose.min_long.x) (by decide +kernel)
  have lk6 := hts (.code Lib.MathLoose.min_long.x Lib.MathLoose.min_long.code 4 (some .long)) (by decide +kernel)
  have c21 : ∀ (n : Nat), ∀ (x1 : Int32) (x2 : Int32) (x3 : Int32) (x5 : Int32) (x6 : Int64) (x8 : Int64) (x10 : Int32) (H : Heap) (locs : List Loc) (ls : Array Slot), p_X6_spanWith_21 gne n x1 x2 x3 x5 x6 x8 x10 = some R0 → va_P (dC, dI) vwCl (w_X6_spanWith cy a0 gne) H → va_D A (w_X6_spanWith cy a0 gne) → va_S A s.heap H locs → lv_has ls 13 [(0, .ref (a0 0)), (1, .int x1), (2, .int x2), (3, .int x3), (5, .int x5), (6, .long x6), (8, .long x8), (10, .int x10)] → W p l e rm_X6_spanWith s m aa below meth c H locs 0 0 (MQ below qq aa s 0 0 A) (F0 m 21 ls []) := by
    intro  n
    induction n with
    | zero => intro x1 x2 x3 x5 x6 x8 x10 H locs ls h; exact no_some h
    | succ n ih =>
      intro x1 x2 x3 x5 x6 x8 x10 H locs ls h hP hD hS hl
      rw [p_X6_spanWith_21.eq_2] at h
      refine lv_iload hx hb dX6_spanWith_21 (lv_at hl 7 rfl) ?_
      refine lv_iload hx hb dX6_spanWith_23 (lv_at hl 4 rfl) ?_
      refine lv_icmp_gt (tgt := 63) hx hb dX6_spanWith_25 (by decide) (fun c1 => ?_) (fun c1 => ?_)
      · rw [if_pos c1] at h
        refine lv_lload hx hb dX6_spanWith_63 (lv_at hl 5 rfl) ?_
        refine lv_lload hx hb dX6_spanWith_65 (lv_at hl 6 rfl) ?_
        refine lv_lsub hx hb dX6_spanWith_67 ?_
        exact W.lret (v := (x6 - x8)) hx hb hr (fun t ht hW => by rw [hqq]; have hh := Option.some.inj h; exact ⟨⟨(x6 - x8), (()), rfl, Option.some.inj h, by rw [ht]; exact hP, va_K.moved hW.alike hK⟩, hS.F ht⟩) hS.2.2 dX6_spanWith_68
      · rw [if_neg c1] at h
        refine lv_aload_n hx hb dX6_spanWith_28 rfl (lv_at hl 0 rfl) ?_
        refine lv_iload_n hx hb dX6_spanWith_29 rfl (lv_at hl 1 rfl) ?_
        refine lv_iload_n hx hb dX6_spanWith_30 rfl (lv_at hl 2 rfl) ?_
        refine lv_iload_n hx hb dX6_spanWith_31 rfl (lv_at hl 3 rfl) ?_
        refine lv_iload hx hb dX6_spanWith_32 (lv_at hl 7 rfl) ?_
        obtain ⟨v2, hv3, h⟩ := ok_bind h
        refine cl_vl (w2 := fun (_ : Unit) => w_X6_spanWith cy a0 gne) (As := [.int x1, .int x2, .int x3, .int x10]) (rest := []) ⟨hx, hb, hml, hown, hts⟩ (c_X6_netWith l dC dI cy a0 gne x1 x2 x3 x10 H.size v2 hv3) (cwV 4 hts gX6_spanWith_X6_netWith rfl rfl rfl (by decide +kernel) ⟨Nat.le_of_ble_eq_true rfl, Nat.le_of_ble_eq_true rfl⟩) (va_recv hK hP (ci := 4) (q0 := 0) rfl rfl) cl_blind (cl_pre hK hP hD [0, 1, 2, 3, 4, 5, 6, 7, 8, 9, 10, 11, 12, 13, 14, 15, 16, 17] (by decide) rfl) hP hD hS hA [0, 1, 2, 3, 4, 5, 6, 7, 8, 9, 10, 11, 12, 13, 14, 15, 16, 17] rfl rfl hl.1 rfl (lv_room (Nat.le_of_ble_eq_true rfl)) dX6_spanWith_34 ⟨Nat.le_of_ble_eq_true rfl, Nat.le_of_ble_eq_true rfl⟩ ⟨rfl, rfl⟩ (fun _ => updR [0, 1, 2, 3, 4, 5, 6, 7, 8, 9, 10, 11, 12, 13, 14, 15, 16, 17] rfl) (fun r u H locs hw hP hD hS => ?_)
        have hw := hw.symm
        subst hw
        have hP : va_P (dC, dI) vwCl (w_X6_spanWith cy a0 gne) H := hP
        have hD : va_D A (w_X6_spanWith cy a0 gne) := hD
        refine lv_lstore (lv' := [(11, .long v2), (0, .ref (a0 0)), (1, .int x1), (2, .int x2), (3, .int x3), (5, .int x5), (6, .long x6), (8, .long x8), (10, .int x10)]) hx hb dX6_spanWith_37 hl (by decide) rfl (fun ls hl => ?_)
        refine lv_lload hx hb dX6_spanWith_39 (lv_at hl 6 rfl) ?_
        refine lv_lload hx hb dX6_spanWith_41 (lv_at hl 0 rfl) ?_
        refine va_mmax_long hx hb (by rw [hml]; exact hl.1.symm) hown lk0 lk1 lk2 lk3 (Nat.le_of_ble_eq_true rfl) (Nat.le_of_ble_eq_true rfl) (Nat.le_of_ble_eq_true rfl) (Nat.le_of_ble_eq_true rfl) dX6_spanWith_43 ?_
        refine lv_lstore (lv' := [(6, .long (if v2 < x6 then x6 else v2)), (11, .long v2), (0, .ref (a0 0)), (1, .int x1), (2, .int x2), (3, .int x3), (5, .int x5), (8, .long x8), (10, .int x10)]) hx hb dX6_spanWith_46 hl (by decide) rfl (fun ls hl => ?_)
        refine lv_lload hx hb dX6_spanWith_48 (lv_at hl 7 rfl) ?_
        refine lv_lload hx hb dX6_spanWith_50 (lv_at hl 1 rfl) ?_
        refine va_mmin_long hx hb (by rw [hml]; exact hl.1.symm) hown lk4 lk5 lk2 lk6 (Nat.le_of_ble_eq_true rfl) (Nat.le_of_ble_eq_true rfl) (Nat.le_of_ble_eq_true rfl) (Nat.le_of_ble_eq_true rfl) dX6_spanWith_52 ?_
        refine lv_lstore (lv' := [(8, .long (if v2 < x8 then v2 else x8)), (6, .long (if v2 < x6 then x6 else v2)), (11, .long v2), (0, .ref (a0 0)), (1, .int x1), (2, .int x2), (3, .int x3), (5, .int x5), (10, .int x10)]) hx hb dX6_spanWith_55 hl (by decide) rfl (fun ls hl => ?_)
        refine lv_iinc (v := (x10 + (1 : Int32))) (lv' := [(10, .int (x10 + (1 : Int32))), (8, .long (if v2 < x8 then v2 else x8)), (6, .long (if v2 < x6 then x6 else v2)), (11, .long v2), (0, .ref (a0 0)), (1, .int x1), (2, .int x2), (3, .int x3), (5, .int x5)]) hx hb dX6_spanWith_57 hl (k := 8) rfl rfl (by decide) rfl (fun ls hl => ?_)
        refine lv_goto (tgt := 21) hx hb dX6_spanWith_60 (by decide) ?_
        exact ih x1 x2 x3 x5 (if v2 < x6 then x6 else v2) (if v2 < x8 then v2 else x8) (x10 + (1 : Int32)) H locs ls h hP hD hS (lv_sub hl [4, 5, 6, 7, 8, 2, 1, 0] rfl)
  obtain ⟨H, hH⟩ : ∃ H : Heap, H = s.heap := ⟨_, rfl⟩
  obtain ⟨locs, hlocs⟩ : ∃ locs : List Loc, locs = [] := ⟨_, rfl⟩
  have hS : va_S A s.heap H locs := by rw [hH, hlocs]; exact hS
  rw [← hH] at hP
  suffices hg : W p l e rm_X6_spanWith s m aa below meth c H locs 0 0 (MQ below qq aa s 0 0 A) (F0 m 0 ls []) by subst hH; subst hlocs; exact hg
  unfold p_X6_spanWith at h
  refine lv_aload_n hx hb dX6_spanWith_0 rfl (lv_at hl 0 rfl) ?_
  refine lv_iload_n hx hb dX6_spanWith_1 rfl (lv_at hl 1 rfl) ?_
  refine lv_iload_n hx hb dX6_spanWith_2 rfl (lv_at hl 2 rfl) ?_
  refine lv_iload_n hx hb dX6_spanWith_3 rfl (lv_at hl 3 rfl) ?_
  refine lv_iload hx hb dX6_spanWith_4 (lv_at hl 4 rfl) ?_
  obtain ⟨v1, hv2, h⟩ := ok_bind h
  refine cl_vl (w2 := fun (_ : Unit) => w_X6_spanWith cy a0 gne) (As := [.int x1, .int x2, .int x3, .int x4]) (rest := []) ⟨hx, hb, hml, hown, hts⟩ (c_X6_netWith l dC dI cy a0 gne x1 x2 x3 x4 H.size v1 hv2) (cwV 4 hts gX6_spanWith_X6_netWith rfl rfl rfl (by decide +kernel) ⟨Nat.le_of_ble_eq_true rfl, Nat.le_of_ble_eq_true rfl⟩) (va_recv hK hP (ci := 4) (q0 := 0) rfl rfl) cl_blind (cl_pre hK hP hD [0, 1, 2, 3, 4, 5, 6, 7, 8, 9, 10, 11, 12, 13, 14, 15, 16, 17] (by decide) rfl) hP hD hS hA [0, 1, 2, 3, 4, 5, 6, 7, 8, 9, 10, 11, 12, 13, 14, 15, 16, 17] rfl rfl hl.1 rfl (lv_room (Nat.le_of_ble_eq_true rfl)) dX6_spanWith_6 ⟨Nat.le_of_ble_eq_true rfl, Nat.le_of_ble_eq_true rfl⟩ ⟨rfl, rfl⟩ (fun _ => updR [0, 1, 2, 3, 4, 5, 6, 7, 8, 9, 10, 11, 12, 13, 14, 15, 16, 17] rfl) (fun r u H locs hw hP hD hS => ?_)
  have hw := hw.symm
  subst hw
  have hP : va_P (dC, dI) vwCl (w_X6_spanWith cy a0 gne) H := hP
  have hD : va_D A (w_X6_spanWith cy a0 gne) := hD
  refine lv_lstore (lv' := [(6, .long v1), (0, .ref (a0 0)), (1, .int x1), (2, .int x2), (3, .int x3), (4, .int x4), (5, .int x5)]) hx hb dX6_spanWith_9 hl (by decide) rfl (fun ls hl => ?_)
  refine lv_lload hx hb dX6_spanWith_11 (lv_at hl 0 rfl) ?_
  refine lv_lstore (lv' := [(8, .long v1), (6, .long v1), (0, .ref (a0 0)), (1, .int x1), (2, .int x2), (3, .int x3), (4, .int x4), (5, .int x5)]) hx hb dX6_spanWith_13 hl (by decide) rfl (fun ls hl => ?_)
  refine lv_iload hx hb dX6_spanWith_15 (lv_at hl 6 rfl) ?_
  refine lv_iconst (v := (1 : Int32)) hx hb dX6_spanWith_17 (by decide) ?_
  refine lv_iadd hx hb dX6_spanWith_18 ?_
  refine lv_istore (lv' := [(10, .int (x4 + (1 : Int32))), (8, .long v1), (6, .long v1), (0, .ref (a0 0)), (1, .int x1), (2, .int x2), (3, .int x3), (4, .int x4), (5, .int x5)]) hx hb dX6_spanWith_19 hl (by decide) rfl (fun ls hl => ?_)
  exact c21 fu x1 x2 x3 x5 v1 v1 (x4 + (1 : Int32)) H locs ls h hP hD hS (lv_sub hl [3, 4, 5, 6, 8, 2, 1, 0] rfl)

abbrev w_X6_spanOf (cy : Nat → ClassId) (a0 : Nat → Nat) (gne : (Nat → Nat → Int32) × (Nat → Nat → Int64)) : va_W := [(a0 0, .inr (4, [.ref (a0 1), .ref (a0 12)])), (a0 1, .inl (cy 3, 10, .inr (.inr (.inr (.inr (fun i => some ([a0 2, a0 3, a0 4, a0 5, a0 6, a0 7, a0 8, a0 9, a0 10, a0 11].getD i 0))))))), (a0 2, .inl (cy 1, 41, .inl (gne.1 0))), (a0 3, .inl (cy 1, 41, .inl (gne.1 1))), (a0 4, .inl (cy 1, 41, .inl (gne.1 2))), (a0 5, .inl (cy 1, 41, .inl (gne.1 3))), (a0 6, .inl (cy 1, 41, .inl (gne.1 4))), (a0 7, .inl (cy 1, 41, .inl (gne.1 5))), (a0 8, .inl (cy 1, 41, .inl (gne.1 6))), (a0 9, .inl (cy 1, 41, .inl (gne.1 7))), (a0 10, .inl (cy 1, 41, .inl (gne.1 8))), (a0 11, .inl (cy 1, 41, .inl (gne.1 9))), (a0 12, .inl (cy 4, 5, .inr (.inr (.inr (.inr (fun i => some ([a0 13, a0 14, a0 15, a0 16, a0 17].getD i 0))))))), (a0 13, .inl (cy 2, 41, .inr (.inl (gne.2 0)))), (a0 14, .inl (cy 2, 41, .inr (.inl (gne.2 1)))), (a0 15, .inl (cy 2, 41, .inr (.inl (gne.2 2)))), (a0 16, .inl (cy 2, 41, .inr (.inl (gne.2 3)))), (a0 17, .inl (cy 2, 41, .inr (.inl (gne.2 4))))]
abbrev rm_X6_spanOf : Room := { frames := 3, cells := 0, slots := 0, locals := 78 }
set_option maxHeartbeats 1000000 in
set_option maxRecDepth 100000 in
theorem c_X6_spanOf (l : Launch) (dC : Nat → ClassId) (dI : Nat → Nat → Nat) (cy : Nat → ClassId) (a0 : Nat → Nat) (gne : (Nat → Nat → Int32) × (Nat → Nat → Int64)) (x1 : Int32) (x2 : Int32) (x3 : Int32) (sz : Nat) (R0 : Int64) (h : p_X6_spanOf gne x1 x2 x3 = some R0) : Met l yX6_spanOf wsX6_spanOf rm_X6_spanOf (va_Pc [.ref (a0 0), .int x1, .int x2, .int x3] (prC dC dI cy (w_X6_spanOf cy a0 gne) sz)) (va_Ql (fun (r : Int64) (_ : Unit) => r = R0) (fun (_ : Unit) t => poC dC dI cy (w_X6_spanOf cy a0 gne) t) (va_A (w_X6_spanOf cy a0 gne) sz)) 0 0 (va_A (w_X6_spanOf cy a0 gne) sz) := by
  refine Met.ofW (cc := cX6_spanOf) (maxL := 4) (ret := (some .long)) (by decide) rfl ?_
  intro p e s m aa below meth c s₁ B hml hv
  obtain ⟨haa, hsz, hP, hK, hD0⟩ := hv
  have hx := B.exec
  have hb := B.bytes
  have hr := B.returns
  have hts := atoms_spec (ws := wsX6_spanOf) B.pre
  have hown : s.vm.findClass RX6 = some m.cls := findClass_of_methodNamed B.named
  have hlocks := B.notSynchronized
  subst hsz
  have hD := hD0.self (sz := s.heap.size)
  obtain ⟨qq, hqq⟩ : ∃ qq, qq = (va_Ql (fun (r : Int64) (_ : Unit) => r = R0) (fun (_ : Unit) t => poC dC dI cy (w_X6_spanOf cy a0 gne) t) (va_A (w_X6_spanOf cy a0 gne) s.heap.size)) := ⟨_, rfl⟩
  rw [← hqq]
  generalize hAe : va_A (w_X6_spanOf cy a0 gne) s.heap.size = A at hD hqq ⊢
  have hA : ∀ q : Nat, s.heap.size ≤ q → A q := fun q h => by rw [← hAe]; exact Or.inr h
  have hS : va_S A s.heap s.heap [] := va_S.rf
  have hl := lv_entry ([.ref (a0 0), .int x1, .int x2, .int x3]) (n := 4) (Nat.le_of_ble_eq_true rfl)
  have hE : entryFrame m aa 4 = F0 m 0 ((lg_sl ([.ref (a0 0), .int x1, .int x2, .int x3]) ++ List.replicate (4 - (lg_sl ([.ref (a0 0), .int x1, .int x2, .int x3])).length) Slot.unset).toArray) [] := by rw [haa]; exact lg_entry_eq m _ 4
  refine W.eq hE ?_
  generalize (lg_sl ([.ref (a0 0), .int x1, .int x2, .int x3]) ++ List.replicate (4 - (lg_sl ([.ref (a0 0), .int x1, .int x2, .int x3])).length) Slot.unset).toArray = ls at hl ⊢
  have hl : lv_has ls 4 [(0, .ref (a0 0)), (1, .int x1), (2, .int x2), (3, .int x3)] := hl
  change W p l e rm_X6_spanOf s m aa below meth c s.heap [] 0 0 (MQ below qq aa s 0 0 A) (F0 m 0 ls [])
  have hS0 := hS
  obtain ⟨H, hH⟩ : ∃ H : Heap, H = s.heap := ⟨_, rfl⟩
  obtain ⟨locs, hlocs⟩ : ∃ locs : List Loc, locs = [] := ⟨_, rfl⟩
  have hS : va_S A s.heap H locs := by rw [hH, hlocs]; exact hS
  rw [← hH] at hP
  suffices hg : W p l e rm_X6_spanOf s m aa below meth c H locs 0 0 (MQ below qq aa s 0 0 A) (F0 m 0 ls []) by subst hH; subst hlocs; exact hg
  unfold p_X6_spanOf at h
  refine lv_aload_n hx hb dX6_spanOf_0 rfl (lv_at hl 0 rfl) ?_
  refine lv_iload_n hx hb dX6_spanOf_1 rfl (lv_at hl 1 rfl) ?_
  refine lv_iconst (v := (-1 : Int32)) hx hb dX6_spanOf_2 (by decide) ?_
  refine lv_iconst (v := (-1 : Int32)) hx hb dX6_spanOf_3 (by decide) ?_
  refine lv_iload_n hx hb dX6_spanOf_4 rfl (lv_at hl 2 rfl) ?_
  refine lv_iload_n hx hb dX6_spanOf_5 rfl (lv_at hl 3 rfl) ?_
  obtain ⟨v1, hv2, h⟩ := ok_bind h
  refine cl_vl (w2 := fun (_ : Unit) => w_X6_spanOf cy a0 gne) (As := [.int x1, .int (-1 : Int32), .int (-1 : Int32), .int x2, .int x3]) (rest := []) ⟨hx, hb, hml, hown, hts⟩ (c_X6_spanWith l dC dI cy a0 gne x1 (-1 : Int32) (-1 : Int32) x2 x3 H.size v1 hv2) (cwV 5 hts gX6_spanOf_X6_spanWith rfl rfl rfl (by decide +kernel) ⟨Nat.le_of_ble_eq_true rfl, Nat.le_of_ble_eq_true rfl⟩) (va_recv hK hP (ci := 4) (q0 := 0) rfl rfl) cl_blind (cl_pre hK hP hD [0, 1, 2, 3, 4, 5, 6, 7, 8, 9, 10, 11, 12, 13, 14, 15, 16, 17] (by decide) rfl) hP hD hS hA [0, 1, 2, 3, 4, 5, 6, 7, 8, 9, 10, 11, 12, 13, 14, 15, 16, 17] rfl rfl hl.1 rfl (lv_room (Nat.le_of_ble_eq_true rfl)) dX6_spanOf_6 ⟨Nat.le_of_ble_eq_true rfl, Nat.le_of_ble_eq_true rfl⟩ ⟨rfl, rfl⟩ (fun _ => updR [0, 1, 2, 3, 4, 5, 6, 7, 8, 9, 10, 11, 12, 13, 14, 15, 16, 17] rfl) (fun r u H locs hw hP hD hS => ?_)
  have hw := hw.symm
  subst hw
  have hP : va_P (dC, dI) vwCl (w_X6_spanOf cy a0 gne) H := hP
  have hD : va_D A (w_X6_spanOf cy a0 gne) := hD
  exact W.lret (v := v1) hx hb hr (fun t ht hW => by rw [hqq]; have hh := Option.some.inj h; exact ⟨⟨v1, (()), rfl, Option.some.inj h, by rw [ht]; exact hP, va_K.moved hW.alike hK⟩, hS.F ht⟩) hS.2.2 dX6_spanOf_9

abbrev w_X6_netWithSet (cy : Nat → ClassId) (a0 : Nat → Nat) (gne : (Nat → Nat → Int32) × (Nat → Nat → Int64)) : va_W := [(a0 0, .inr (4, [.ref (a0 1), .ref (a0 12)])), (a0 1, .inl (cy 3, 10, .inr (.inr (.inr (.inr (fun i => some ([a0 2, a0 3, a0 4, a0 5, a0 6, a0 7, a0 8, a0 9, a0 10, a0 11].getD i 0))))))), (a0 2, .inl (cy 1, 41, .inl (gne.1 0))), (a0 3, .inl (cy 1, 41, .inl (gne.1 1))), (a0 4, .inl (cy 1, 41, .inl (gne.1 2))), (a0 5, .inl (cy 1, 41, .inl (gne.1 3))), (a0 6, .inl (cy 1, 41, .inl (gne.1 4))), (a0 7, .inl (cy 1, 41, .inl (gne.1 5))), (a0 8, .inl (cy 1, 41, .inl (gne.1 6))), (a0 9, .inl (cy 1, 41, .inl (gne.1 7))), (a0 10, .inl (cy 1, 41, .inl (gne.1 8))), (a0 11, .inl (cy 1, 41, .inl (gne.1 9))), (a0 12, .inl (cy 4, 5, .inr (.inr (.inr (.inr (fun i => some ([a0 13, a0 14, a0 15, a0 16, a0 17].getD i 0))))))), (a0 13, .inl (cy 2, 41, .inr (.inl (gne.2 0)))), (a0 14, .inl (cy 2, 41, .inr (.inl (gne.2 1)))), (a0 15, .inl (cy 2, 41, .inr (.inl (gne.2 2)))), (a0 16, .inl (cy 2, 41, .inr (.inl (gne.2 3)))), (a0 17, .inl (cy 2, 41, .inr (.inl (gne.2 4))))]
abbrev rm_X6_netWithSet : Room := { frames := 1, cells := 0, slots := 0, locals := 22 }
set_option maxHeartbeats 1000000 in
set_option maxRecDepth 100000 in
theorem c_X6_netWithSet (l : Launch) (dC : Nat → ClassId) (dI : Nat → Nat → Nat) (cy : Nat → ClassId) (a0 : Nat → Nat) (gne : (Nat → Nat → Int32) × (Nat → Nat → Int64)) (x1 : Int32) (x2 : Int32) (x3 : Int32) (x4 : Int32) (sz : Nat) (R0 : Int64) (h : p_X6_netWithSet gne x1 x2 x3 x4 = some R0) : Met l yX6_netWithSet wsX6_netWithSet rm_X6_netWithSet (va_Pc [.ref (a0 0), .int x1, .int x2, .int x3, .int x4] (prC dC dI cy (w_X6_netWithSet cy a0 gne) sz)) (va_Ql (fun (r : Int64) (_ : Unit) => r = R0) (fun (_ : Unit) t => poC dC dI cy (w_X6_netWithSet cy a0 gne) t) (va_A (w_X6_netWithSet cy a0 gne) sz)) 0 0 (va_A (w_X6_netWithSet cy a0 gne) sz) := by
  refine Met.ofW (cc := cX6_netWithSet) (maxL := 8) (ret := (some .long)) (by decide) rfl ?_
  intro p e s m aa below meth c s₁ B hml hv
  obtain ⟨haa, hsz, hP, hK, hD0⟩ := hv
  have hx := B.exec
  have hb := B.bytes
  have hr := B.returns
  have hts := atoms_spec (ws := wsX6_netWithSet) B.pre
  have hown : s.vm.findClass RX6 = some m.cls := findClass_of_methodNamed B.named
  have hlocks := B.notSynchronized
  subst hsz
  have hD := hD0.self (sz := s.heap.size)
  obtain ⟨qq, hqq⟩ : ∃ qq, qq = (va_Ql (fun (r : Int64) (_ : Unit) => r = R0) (fun (_ : Unit) t => poC dC dI cy (w_X6_netWithSet cy a0 gne) t) (va_A (w_X6_netWithSet cy a0 gne) s.heap.size)) := ⟨_, rfl⟩
  rw [← hqq]
  generalize hAe : va_A (w_X6_netWithSet cy a0 gne) s.heap.size = A at hD hqq ⊢
  have hA : ∀ q : Nat, s.heap.size ≤ q → A q := fun q h => by rw [← hAe]; exact Or.inr h
  have hS : va_S A s.heap s.heap [] := va_S.rf
  have hl := lv_entry ([.ref (a0 0), .int x1, .int x2, .int x3, .int x4]) (n := 8) (Nat.le_of_ble_eq_true rfl)
  have hE : entryFrame m aa 8 = F0 m 0 ((lg_sl ([.ref (a0 0), .int x1, .int x2, .int x3, .int x4]) ++ List.replicate (8 - (lg_sl ([.ref (a0 0), .int x1, .int x2, .int x3, .int x4])).length) Slot.unset).toArray) [] := by rw [haa]; exact lg_entry_eq m _ 8
  refine W.eq hE ?_
  generalize (lg_sl ([.ref (a0 0), .int x1, .int x2, .int x3, .int x4]) ++ List.replicate (8 - (lg_sl ([.ref (a0 0), .int x1, .int x2, .int x3, .int x4])).length) Slot.unset).toArray = ls at hl ⊢
  have hl : lv_has ls 8 [(0, .ref (a0 0)), (1, .int x1), (2, .int x2), (3, .int x3), (4, .int x4)] := hl
  change W p l e rm_X6_netWithSet s m aa below meth c s.heap [] 0 0 (MQ below qq aa s 0 0 A) (F0 m 0 ls [])
  have hS0 := hS
  have c36 : ∀ (k6 : Int32 → Int32 → Int32 → Int32 → Int64 → Int32 → Option (Int64)) (hk6 : ∀ (x1 : Int32) (x2 : Int32) (x3 : Int32) (x4 : Int32) (x5 : Int64) (x7 : Int32) (H : Heap) (locs : List Loc) (ls : Array Slot), k6 x1 x2 x3 x4 x5 x7 = some R0 → va_P (dC, dI) vwCl (w_X6_netWithSet cy a0 gne) H → va_D A (w_X6_netWithSet cy a0 gne) → va_S A s.heap H locs → lv_has ls 8 [(0, .ref (a0 0)), (1, .int x1), (2, .int x2), (3, .int x3), (4, .int x4), (5, .long x5), (7, .int x7)] → W p l e rm_X6_netWithSet s m aa below meth c H locs 0 0 (MQ below qq aa s 0 0 A) (F0 m 6 ls [])), ∀ (x1 : Int32) (x2 : Int32) (x3 : Int32) (x4 : Int32) (x5 : Int64) (x7 : Int32) (H : Heap) (locs : List Loc) (ls : Array Slot), p_X6_netWithSet_36 k6 gne x1 x2 x3 x4 x5 x7 = some R0 → va_P (dC, dI) vwCl (w_X6_netWithSet cy a0 gne) H → va_D A (w_X6_netWithSet cy a0 gne) → va_S A s.heap H locs → lv_has ls 8 [(0, .ref (a0 0)), (1, .int x1), (2, .int x2), (3, .int x3), (4, .int x4), (5, .long x5), (7, .int x7)] → W p l e rm_X6_netWithSet s m aa below meth c H locs 0 0 (MQ below qq aa s 0 0 A) (F0 m 36 ls []) := by
    intro k6 hk6 x1 x2 x3 x4 x5 x7 H locs ls h hP hD hS hl
    unfold p_X6_netWithSet_36 at h
    refine lv_iinc (v := (x7 + (1 : Int32))) (lv' := [(7, .int (x7 + (1 : Int32))), (0, .ref (a0 0)), (1, .int x1), (2, .int x2), (3, .int x3), (4, .int x4), (5, .long x5)]) hx hb dX6_netWithSet_36 hl (k := 6) rfl rfl (by decide) rfl (fun ls hl => ?_)
    refine lv_goto (tgt := 6) hx hb dX6_netWithSet_39 (by decide) ?_
    exact hk6 x1 x2 x3 x4 x5 (x7 + (1 : Int32)) H locs ls h hP hD hS (lv_sub hl [1, 2, 3, 4, 5, 6, 0] rfl)
  have c6 : ∀ (n : Nat), ∀ (x1 : Int32) (x2 : Int32) (x3 : Int32) (x4 : Int32) (x5 : Int64) (x7 : Int32) (H : Heap) (locs : List Loc) (ls : Array Slot), p_X6_netWithSet_6 gne n x1 x2 x3 x4 x5 x7 = some R0 → va_P (dC, dI) vwCl (w_X6_netWithSet cy a0 gne) H → va_D A (w_X6_netWithSet cy a0 gne) → va_S A s.heap H locs → lv_has ls 8 [(0, .ref (a0 0)), (1, .int x1), (2, .int x2), (3, .int x3), (4, .int x4), (5, .long x5), (7, .int x7)] → W p l e rm_X6_netWithSet s m aa below meth c H locs 0 0 (MQ below qq aa s 0 0 A) (F0 m 6 ls []) := by
    intro  n
    induction n with
    | zero => intro x1 x2 x3 x4 x5 x7 H locs ls h; exact no_some h
    | succ n ih =>
      intro x1 x2 x3 x4 x5 x7 H locs ls h hP hD hS hl
      rw [p_X6_netWithSet_6.eq_2] at h
      refine lv_iload hx hb dX6_netWithSet_6 (lv_at hl 6 rfl) ?_
      refine lv_bipush (v := (10 : Int32)) hx hb dX6_netWithSet_8 (by decide) ?_
      refine lv_icmp_ge (tgt := 42) hx hb dX6_netWithSet_10 (by decide) (fun c1 => ?_) (fun c1 => ?_)
      · rw [if_pos c1] at h
        refine lv_aload_n hx hb dX6_netWithSet_42 rfl (lv_at hl 0 rfl) ?_
        refine lv_iload_n hx hb dX6_netWithSet_43 rfl (lv_at hl 1 rfl) ?_
        refine lv_iload hx hb dX6_netWithSet_44 (lv_at hl 4 rfl) ?_
        obtain ⟨v2, hv3, h⟩ := ok_bind h
        refine cl_vl (w2 := fun (_ : Unit) => w_X6_netWithSet cy a0 gne) (As := [.int x1, .int x4]) (rest := []) ⟨hx, hb, hml, hown, hts⟩ (c_X6_netIn l dC dI cy a0 gne x1 x4 H.size v2 hv3) (cwV 2 hts gX6_netWithSet_X6_netIn rfl rfl rfl (by decide +kernel) ⟨Nat.le_of_ble_eq_true rfl, Nat.le_of_ble_eq_true rfl⟩) (va_recv hK hP (ci := 4) (q0 := 0) rfl rfl) cl_blind (cl_pre hK hP hD [0, 1, 2, 3, 4, 5, 6, 7, 8, 9, 10, 11, 12, 13, 14, 15, 16, 17] (by decide) rfl) hP hD hS hA [0, 1, 2, 3, 4, 5, 6, 7, 8, 9, 10, 11, 12, 13, 14, 15, 16, 17] rfl rfl hl.1 rfl (lv_room (Nat.le_of_ble_eq_true rfl)) dX6_netWithSet_46 ⟨Nat.le_of_ble_eq_true rfl, Nat.le_of_ble_eq_true rfl⟩ ⟨rfl, rfl⟩ (fun _ => updR [0, 1, 2, 3, 4, 5, 6, 7, 8, 9, 10, 11, 12, 13, 14, 15, 16, 17] rfl) (fun r u H locs hw hP hD hS => ?_)
        have hw := hw.symm
        subst hw
        have hP : va_P (dC, dI) vwCl (w_X6_netWithSet cy a0 gne) H := hP
        have hD : va_D A (w_X6_netWithSet cy a0 gne) := hD
        refine lv_iload_n hx hb dX6_netWithSet_49 rfl (lv_at hl 3 rfl) ?_
        refine lv_if_eq (tgt := 59) hx hb dX6_netWithSet_50 (by decide) (fun c4 => ?_) (fun c4 => ?_)
        · rw [if_pos c4] at h
          refine lv_lload hx hb dX6_netWithSet_59 (lv_at hl 5 rfl) ?_
          refine lv_ladd hx hb dX6_netWithSet_61 ?_
          exact W.lret (v := (v2 + x5)) hx hb hr (fun t ht hW => by rw [hqq]; have hh := Option.some.inj h; exact ⟨⟨(v2 + x5), (()), rfl, Option.some.inj h, by rw [ht]; exact hP, va_K.moved hW.alike hK⟩, hS.F ht⟩) hS.2.2 dX6_netWithSet_62
        · rw [if_neg c4] at h
          refine lv_lload hx hb dX6_netWithSet_53 (lv_at hl 5 rfl) ?_
          refine lv_lneg hx hb dX6_netWithSet_55 ?_
          refine lv_goto (tgt := 61) hx hb dX6_netWithSet_56 (by decide) ?_
          refine lv_ladd hx hb dX6_netWithSet_61 ?_
          exact W.lret (v := (v2 + (-x5))) hx hb hr (fun t ht hW => by rw [hqq]; have hh := Option.some.inj h; exact ⟨⟨(v2 + (-x5)), (()), rfl, Option.some.inj h, by rw [ht]; exact hP, va_K.moved hW.alike hK⟩, hS.F ht⟩) hS.2.2 dX6_netWithSet_62
      · rw [if_neg c1] at h
        refine lv_iload_n hx hb dX6_netWithSet_13 rfl (lv_at hl 2 rfl) ?_
        refine lv_iload hx hb dX6_netWithSet_14 (lv_at hl 6 rfl) ?_
        refine lv_ishr hx hb dX6_netWithSet_16 ?_
        refine lv_iconst (v := (1 : Int32)) hx hb dX6_netWithSet_17 (by decide) ?_
        refine lv_iand hx hb dX6_netWithSet_18 ?_
        refine lv_if_eq (tgt := 36) hx hb dX6_netWithSet_19 (by decide) (fun c5 => ?_) (fun c5 => ?_)
        · rw [if_pos c5] at h
          exact c36 (p_X6_netWithSet_6 gne n) ih x1 x2 x3 x4 x5 x7 H locs ls h hP hD hS (lv_sub hl [0, 1, 2, 3, 4, 5, 6] rfl)
        · rw [if_neg c5] at h
          refine lv_lload hx hb dX6_netWithSet_22 (lv_at hl 5 rfl) ?_
          refine lv_aload_n hx hb dX6_netWithSet_24 rfl (lv_at hl 0 rfl) ?_
          refine lv_iload hx hb dX6_netWithSet_25 (lv_at hl 6 rfl) ?_
          refine lv_iload hx hb dX6_netWithSet_27 (lv_at hl 4 rfl) ?_
          obtain ⟨v6, hv7, h⟩ := ok_bind h
          refine cl_vi (w2 := fun (_ : Unit) => w_X6_netWithSet cy a0 gne) (As := [.int x7, .int x4]) (rest := [.long x5]) ⟨hx, hb, hml, hown, hts⟩ (c_X6_worthOf l dC dI cy a0 gne x7 x4 H.size v6 hv7) (cwV 2 hts gX6_netWithSet_X6_worthOf rfl rfl rfl (by decide +kernel) ⟨Nat.le_of_ble_eq_true rfl, Nat.le_of_ble_eq_true rfl⟩) (va_recv hK hP (ci := 4) (q0 := 0) rfl rfl) cl_blind (cl_pre hK hP hD [0, 1, 2, 3, 4, 5, 6, 7, 8, 9, 10, 11, 12, 13, 14, 15, 16, 17] (by decide) rfl) hP hD hS hA [0, 1, 2, 3, 4, 5, 6, 7, 8, 9, 10, 11, 12, 13, 14, 15, 16, 17] rfl rfl hl.1 rfl (lv_room (Nat.le_of_ble_eq_true rfl)) dX6_netWithSet_29 ⟨Nat.le_of_ble_eq_true rfl, Nat.le_of_ble_eq_true rfl⟩ ⟨rfl, rfl⟩ (fun _ => updR [0, 1, 2, 3, 4, 5, 6, 7, 8, 9, 10, 11, 12, 13, 14, 15, 16, 17] rfl) (fun r u H locs hw hP hD hS => ?_)
          have hw := hw.symm
          subst hw
          have hP : va_P (dC, dI) vwCl (w_X6_netWithSet cy a0 gne) H := hP
          have hD : va_D A (w_X6_netWithSet cy a0 gne) := hD
          refine lv_i2l hx hb dX6_netWithSet_32 rfl ?_
          refine lv_ladd hx hb dX6_netWithSet_33 ?_
          refine lv_lstore (lv' := [(5, .long (x5 + v6.toInt64)), (0, .ref (a0 0)), (1, .int x1), (2, .int x2), (3, .int x3), (4, .int x4), (7, .int x7)]) hx hb dX6_netWithSet_34 hl (by decide) rfl (fun ls hl => ?_)
          exact c36 (p_X6_netWithSet_6 gne n) ih x1 x2 x3 x4 (x5 + v6.toInt64) x7 H locs ls h hP hD hS (lv_sub hl [1, 2, 3, 4, 5, 0, 6] rfl)
  obtain ⟨H, hH⟩ : ∃ H : Heap, H = s.heap := ⟨_, rfl⟩
  obtain ⟨locs, hlocs⟩ : ∃ locs : List Loc, locs = [] := ⟨_, rfl⟩
  have hS : va_S A s.heap H locs := by rw [hH, hlocs]; exact hS
  rw [← hH] at hP
  suffices hg : W p l e rm_X6_netWithSet s m aa below meth c H locs 0 0 (MQ below qq aa s 0 0 A) (F0 m 0 ls []) by subst hH; subst hlocs; exact hg
  unfold p_X6_netWithSet at h
  refine lv_lconst (v := (0 : Int64)) hx hb dX6_netWithSet_0 (by decide) ?_
  refine lv_lstore (lv' := [(5, .long (0 : Int64)), (0, .ref (a0 0)), (1, .int x1), (2, .int x2), (3, .int x3), (4, .int x4)]) hx hb dX6_netWithSet_1 hl (by decide) rfl (fun ls hl => ?_)
  refine lv_iconst (v := (0 : Int32)) hx hb dX6_netWithSet_3 (by decide) ?_
  refine lv_istore (lv' := [(7, .int (0 : Int32)), (5, .long (0 : Int64)), (0, .ref (a0 0)), (1, .int x1), (2, .int x2), (3, .int x3), (4, .int x4)]) hx hb dX6_netWithSet_4 hl (by decide) rfl (fun ls hl => ?_)
  exact c6 fu x1 x2 x3 x4 (0 : Int64) (0 : Int32) H locs ls h hP hD hS (lv_sub hl [2, 3, 4, 5, 6, 1, 0] rfl)

abbrev w_X6_standsAlike (cy : Nat → ClassId) (a0 : Nat → Nat) (gne : (Nat → Nat → Int32) × (Nat → Nat → Int64)) : va_W := [(a0 0, .inr (4, [.ref (a0 1), .ref (a0 12)])), (a0 1, .inl (cy 3, 10, .inr (.inr (.inr (.inr (fun i => some ([a0 2, a0 3, a0 4, a0 5, a0 6, a0 7, a0 8, a0 9, a0 10, a0 11].getD i 0))))))), (a0 2, .inl (cy 1, 41, .inl (gne.1 0))), (a0 3, .inl (cy 1, 41, .inl (gne.1 1))), (a0 4, .inl (cy 1, 41, .inl (gne.1 2))), (a0 5, .inl (cy 1, 41, .inl (gne.1 3))), (a0 6, .inl (cy 1, 41, .inl (gne.1 4))), (a0 7, .inl (cy 1, 41, .inl (gne.1 5))), (a0 8, .inl (cy 1, 41, .inl (gne.1 6))), (a0 9, .inl (cy 1, 41, .inl (gne.1 7))), (a0 10, .inl (cy 1, 41, .inl (gne.1 8))), (a0 11, .inl (cy 1, 41, .inl (gne.1 9))), (a0 12, .inl (cy 4, 5, .inr (.inr (.inr (.inr (fun i => some ([a0 13, a0 14, a0 15, a0 16, a0 17].getD i 0))))))), (a0 13, .inl (cy 2, 41, .inr (.inl (gne.2 0)))), (a0 14, .inl (cy 2, 41, .inr (.inl (gne.2 1)))), (a0 15, .inl (cy 2, 41, .inr (.inl (gne.2 2)))), (a0 16, .inl (cy 2, 41, .inr (.inl (gne.2 3)))), (a0 17, .inl (cy 2, 41, .inr (.inl (gne.2 4))))]
abbrev rm_X6_standsAlike : Room := { frames := 2, cells := 0, slots := 0, locals := 49 }
set_option maxHeartbeats 1000000 in
set_option maxRecDepth 100000 in
theorem c_X6_standsAlike (l : Launch) (dC : Nat → ClassId) (dI : Nat → Nat → Nat) (cy : Nat → ClassId) (a0 : Nat → Nat) (gne : (Nat → Nat → Int32) × (Nat → Nat → Int64)) (x1 : Int32) (x2 : Int32) (x3 : Int32) (x4 : Int32) (x5 : Int32) (sz : Nat) (R0 : Int32) (h : p_X6_standsAlike gne x1 x2 x3 x4 x5 = some R0) : Met l yX6_standsAlike wsX6_standsAlike rm_X6_standsAlike (va_Pc [.ref (a0 0), .int x1, .int x2, .int x3, .int x4, .int x5] (prC dC dI cy (w_X6_standsAlike cy a0 gne) sz)) (va_Qi (fun (r : Int32) (_ : Unit) => r = R0) (fun (_ : Unit) t => poC dC dI cy (w_X6_standsAlike cy a0 gne) t) (va_A (w_X6_standsAlike cy a0 gne) sz)) 0 0 (va_A (w_X6_standsAlike cy a0 gne) sz) := by
  refine Met.ofW (cc := cX6_standsAlike) (maxL := 9) (ret := (some .boolean)) (by decide) rfl ?_
  intro p e s m aa below meth c s₁ B hml hv
  obtain ⟨haa, hsz, hP, hK, hD0⟩ := hv
  have hx := B.exec
  have hb := B.bytes
  have hr := B.returns
  have hts := atoms_spec (ws := wsX6_standsAlike) B.pre
  have hown : s.vm.findClass RX6 = some m.cls := findClass_of_methodNamed B.named
  have hlocks := B.notSynchronized
  subst hsz
  have hD := hD0.self (sz := s.heap.size)
  obtain ⟨qq, hqq⟩ : ∃ qq, qq = (va_Qi (fun (r : Int32) (_ : Unit) => r = R0) (fun (_ : Unit) t => poC dC dI cy (w_X6_standsAlike cy a0 gne) t) (va_A (w_X6_standsAlike cy a0 gne) s.heap.size)) := ⟨_, rfl⟩
  rw [← hqq]
  generalize hAe : va_A (w_X6_standsAlike cy a0 gne) s.heap.size = A at hD hqq ⊢
  have hA : ∀ q : Nat, s.heap.size ≤ q → A q := fun q h => by rw [← hAe]; exact Or.inr h
  have hS : va_S A s.heap s.heap [] := va_S.rf
  have hl := lv_entry ([.ref (a0 0), .int x1, .int x2, .int x3, .int x4, .int x5]) (n := 9) (Nat.le_of_ble_eq_true rfl)
  have hE : entryFrame m aa 9 = F0 m 0 ((lg_sl ([.ref (a0 0), .int x1, .int x2, .int x3, .int x4, .int x5]) ++ List.replicate (9 - (lg_sl ([.ref (a0 0), .int x1, .int x2, .int x3, .int x4, .int x5])).length) Slot.unset).toArray) [] := by rw [haa]; exact lg_entry_eq m _ 9
  refine W.eq hE ?_
  generalize (lg_sl ([.ref (a0 0), .int x1, .int x2, .int x3, .int x4, .int x5]) ++ List.replicate (9 - (lg_sl ([.ref (a0 0), .int x1, .int x2, .int x3, .int x4, .int x5])).length) Slot.unset).toArray = ls at hl ⊢
  have hl : lv_has ls 9 [(0, .ref (a0 0)), (1, .int x1), (2, .int x2), (3, .int x3), (4, .int x4), (5, .int x5)] := hl
  change W p l e rm_X6_standsAlike s m aa below meth c s.heap [] 0 0 (MQ below qq aa s 0 0 A) (F0 m 0 ls [])
  have hS0 := hS
  have c17 : ∀ (n : Nat), ∀ (x1 : Int32) (x2 : Int32) (x3 : Int32) (x5 : Int32) (x6 : Int64) (x8 : Int32) (H : Heap) (locs : List Loc) (ls : Array Slot), p_X6_standsAlike_17 gne n x1 x2 x3 x5 x6 x8 = some R0 → va_P (dC, dI) vwCl (w_X6_standsAlike cy a0 gne) H → va_D A (w_X6_standsAlike cy a0 gne) → va_S A s.heap H locs → lv_has ls 9 [(0, .ref (a0 0)), (1, .int x1), (2, .int x2), (3, .int x3), (5, .int x5), (6, .long x6), (8, .int x8)] → W p l e rm_X6_standsAlike s m aa below meth c H locs 0 0 (MQ below qq aa s 0 0 A) (F0 m 17 ls []) := by
    intro  n
    induction n with
    | zero => intro x1 x2 x3 x5 x6 x8 H locs ls h; exact no_some h
    | succ n ih =>
      intro x1 x2 x3 x5 x6 x8 H locs ls h hP hD hS hl
      rw [p_X6_standsAlike_17.eq_2] at h
      refine lv_iload hx hb dX6_standsAlike_17 (lv_at hl 6 rfl) ?_
      refine lv_iload hx hb dX6_standsAlike_19 (lv_at hl 4 rfl) ?_
      refine lv_icmp_gt (tgt := 47) hx hb dX6_standsAlike_21 (by decide) (fun c1 => ?_) (fun c1 => ?_)
      · rw [if_pos c1] at h
        refine lv_iconst (v := (1 : Int32)) hx hb dX6_standsAlike_47 (by decide) ?_
        exact W.zret (v := (1 : Int32)) (ty := .boolean) hx hb hr rfl (fun t ht hW => by rw [hqq]; have hh := Option.some.inj h; exact ⟨⟨(1 : Int32), (()), rfl, Option.some.inj h, by rw [ht]; exact hP, va_K.moved hW.alike hK⟩, hS.F ht⟩) hS.2.2 dX6_standsAlike_48
      · rw [if_neg c1] at h
        refine lv_aload_n hx hb dX6_standsAlike_24 rfl (lv_at hl 0 rfl) ?_
        refine lv_iload_n hx hb dX6_standsAlike_25 rfl (lv_at hl 1 rfl) ?_
        refine lv_iload_n hx hb dX6_standsAlike_26 rfl (lv_at hl 2 rfl) ?_
        refine lv_iload_n hx hb dX6_standsAlike_27 rfl (lv_at hl 3 rfl) ?_
        refine lv_iload hx hb dX6_standsAlike_28 (lv_at hl 6 rfl) ?_
        obtain ⟨v2, hv3, h⟩ := ok_bind h
        refine cl_vl (w2 := fun (_ : Unit) => w_X6_standsAlike cy a0 gne) (As := [.int x1, .int x2, .int x3, .int x8]) (rest := []) ⟨hx, hb, hml, hown, hts⟩ (c_X6_netWithSet l dC dI cy a0 gne x1 x2 x3 x8 H.size v2 hv3) (cwV 4 hts gX6_standsAlike_X6_netWithSet rfl rfl rfl (by decide +kernel) ⟨Nat.le_of_ble_eq_true rfl, Nat.le_of_ble_eq_true rfl⟩) (va_recv hK hP (ci := 4) (q0 := 0) rfl rfl) cl_blind (cl_pre hK hP hD [0, 1, 2, 3, 4, 5, 6, 7, 8, 9, 10, 11, 12, 13, 14, 15, 16, 17] (by decide) rfl) hP hD hS hA [0, 1, 2, 3, 4, 5, 6, 7, 8, 9, 10, 11, 12, 13, 14, 15, 16, 17] rfl rfl hl.1 rfl (lv_room (Nat.le_of_ble_eq_true rfl)) dX6_standsAlike_30 ⟨Nat.le_of_ble_eq_true rfl, Nat.le_of_ble_eq_true rfl⟩ ⟨rfl, rfl⟩ (fun _ => updR [0, 1, 2, 3, 4, 5, 6, 7, 8, 9, 10, 11, 12, 13, 14, 15, 16, 17] rfl) (fun r u H locs hw hP hD hS => ?_)
        have hw := hw.symm
        subst hw
        have hP : va_P (dC, dI) vwCl (w_X6_standsAlike cy a0 gne) H := hP
        have hD : va_D A (w_X6_standsAlike cy a0 gne) := hD
        refine lv_lload hx hb dX6_standsAlike_33 (lv_at hl 5 rfl) ?_
        refine W.lcmp hx hb dX6_standsAlike_35 ?_
        refine lv_if_eq (tgt := 41) hx hb dX6_standsAlike_36 (by decide) (fun c4 => ?_) (fun c4 => ?_)
        · rw [if_pos c4] at h
          refine lv_iinc (v := (x8 + (1 : Int32))) (lv' := [(8, .int (x8 + (1 : Int32))), (0, .ref (a0 0)), (1, .int x1), (2, .int x2), (3, .int x3), (5, .int x5), (6, .long x6)]) hx hb dX6_standsAlike_41 hl (k := 6) rfl rfl (by decide) rfl (fun ls hl => ?_)
          refine lv_goto (tgt := 17) hx hb dX6_standsAlike_44 (by decide) ?_
          exact ih x1 x2 x3 x5 x6 (x8 + (1 : Int32)) H locs ls h hP hD hS (lv_sub hl [1, 2, 3, 4, 5, 6, 0] rfl)
        · rw [if_neg c4] at h
          refine lv_iconst (v := (0 : Int32)) hx hb dX6_standsAlike_39 (by decide) ?_
          exact W.zret (v := (0 : Int32)) (ty := .boolean) hx hb hr rfl (fun t ht hW => by rw [hqq]; have hh := Option.some.inj h; exact ⟨⟨(0 : Int32), (()), rfl, Option.some.inj h, by rw [ht]; exact hP, va_K.moved hW.alike hK⟩, hS.F ht⟩) hS.2.2 dX6_standsAlike_40
  obtain ⟨H, hH⟩ : ∃ H : Heap, H = s.heap := ⟨_, rfl⟩
  obtain ⟨locs, hlocs⟩ : ∃ locs : List Loc, locs = [] := ⟨_, rfl⟩
  have hS : va_S A s.heap H locs := by rw [hH, hlocs]; exact hS
  rw [← hH] at hP
  suffices hg : W p l e rm_X6_standsAlike s m aa below meth c H locs 0 0 (MQ below qq aa s 0 0 A) (F0 m 0 ls []) by subst hH; subst hlocs; exact hg
  unfold p_X6_standsAlike at h
  refine lv_aload_n hx hb dX6_standsAlike_0 rfl (lv_at hl 0 rfl) ?_
  refine lv_iload_n hx hb dX6_standsAlike_1 rfl (lv_at hl 1 rfl) ?_
  refine lv_iload_n hx hb dX6_standsAlike_2 rfl (lv_at hl 2 rfl) ?_
  refine lv_iload_n hx hb dX6_standsAlike_3 rfl (lv_at hl 3 rfl) ?_
  refine lv_iload hx hb dX6_standsAlike_4 (lv_at hl 4 rfl) ?_
  obtain ⟨v1, hv2, h⟩ := ok_bind h
  refine cl_vl (w2 := fun (_ : Unit) => w_X6_standsAlike cy a0 gne) (As := [.int x1, .int x2, .int x3, .int x4]) (rest := []) ⟨hx, hb, hml, hown, hts⟩ (c_X6_netWithSet l dC dI cy a0 gne x1 x2 x3 x4 H.size v1 hv2) (cwV 4 hts gX6_standsAlike_X6_netWithSet rfl rfl rfl (by decide +kernel) ⟨Nat.le_of_ble_eq_true rfl, Nat.le_of_ble_eq_true rfl⟩) (va_recv hK hP (ci := 4) (q0 := 0) rfl rfl) cl_blind (cl_pre hK hP hD [0, 1, 2, 3, 4, 5, 6, 7, 8, 9, 10, 11, 12, 13, 14, 15, 16, 17] (by decide) rfl) hP hD hS hA [0, 1, 2, 3, 4, 5, 6, 7, 8, 9, 10, 11, 12, 13, 14, 15, 16, 17] rfl rfl hl.1 rfl (lv_room (Nat.le_of_ble_eq_true rfl)) dX6_standsAlike_6 ⟨Nat.le_of_ble_eq_true rfl, Nat.le_of_ble_eq_true rfl⟩ ⟨rfl, rfl⟩ (fun _ => updR [0, 1, 2, 3, 4, 5, 6, 7, 8, 9, 10, 11, 12, 13, 14, 15, 16, 17] rfl) (fun r u H locs hw hP hD hS => ?_)
  have hw := hw.symm
  subst hw
  have hP : va_P (dC, dI) vwCl (w_X6_standsAlike cy a0 gne) H := hP
  have hD : va_D A (w_X6_standsAlike cy a0 gne) := hD
  refine lv_lstore (lv' := [(6, .long v1), (0, .ref (a0 0)), (1, .int x1), (2, .int x2), (3, .int x3), (4, .int x4), (5, .int x5)]) hx hb dX6_standsAlike_9 hl (by decide) rfl (fun ls hl => ?_)
  refine lv_iload hx hb dX6_standsAlike_11 (lv_at hl 5 rfl) ?_
  refine lv_iconst (v := (1 : Int32)) hx hb dX6_standsAlike_13 (by decide) ?_
  refine lv_iadd hx hb dX6_standsAlike_14 ?_
  refine lv_istore (lv' := [(8, .int (x4 + (1 : Int32))), (6, .long v1), (0, .ref (a0 0)), (1, .int x1), (2, .int x2), (3, .int x3), (4, .int x4), (5, .int x5)]) hx hb dX6_standsAlike_15 hl (by decide) rfl (fun ls hl => ?_)
  exact c17 fu x1 x2 x3 x5 v1 (x4 + (1 : Int32)) H locs ls h hP hD hS (lv_sub hl [2, 3, 4, 5, 7, 1, 0] rfl)

abbrev w_X6_misreadIn (cy : Nat → ClassId) (a0 : Nat → Nat) (gne : (Nat → Nat → Int32) × (Nat → Nat → Int64)) : va_W := [(a0 0, .inr (4, [.ref (a0 1), .ref (a0 12)])), (a0 1, .inl (cy 3, 10, .inr (.inr (.inr (.inr (fun i => some ([a0 2, a0 3, a0 4, a0 5, a0 6, a0 7, a0 8, a0 9, a0 10, a0 11].getD i 0))))))), (a0 2, .inl (cy 1, 41, .inl (gne.1 0))), (a0 3, .inl (cy 1, 41, .inl (gne.1 1))), (a0 4, .inl (cy 1, 41, .inl (gne.1 2))), (a0 5, .inl (cy 1, 41, .inl (gne.1 3))), (a0 6, .inl (cy 1, 41, .inl (gne.1 4))), (a0 7, .inl (cy 1, 41, .inl (gne.1 5))), (a0 8, .inl (cy 1, 41, .inl (gne.1 6))), (a0 9, .inl (cy 1, 41, .inl (gne.1 7))), (a0 10, .inl (cy 1, 41, .inl (gne.1 8))), (a0 11, .inl (cy 1, 41, .inl (gne.1 9))), (a0 12, .inl (cy 4, 5, .inr (.inr (.inr (.inr (fun i => some ([a0 13, a0 14, a0 15, a0 16, a0 17].getD i 0))))))), (a0 13, .inl (cy 2, 41, .inr (.inl (gne.2 0)))), (a0 14, .inl (cy 2, 41, .inr (.inl (gne.2 1)))), (a0 15, .inl (cy 2, 41, .inr (.inl (gne.2 2)))), (a0 16, .inl (cy 2, 41, .inr (.inl (gne.2 3)))), (a0 17, .inl (cy 2, 41, .inr (.inl (gne.2 4))))]
abbrev rm_X6_misreadIn : Room := { frames := 1, cells := 0, slots := 0, locals := 22 }
set_option maxHeartbeats 1000000 in
set_option maxRecDepth 100000 in
theorem c_X6_misreadIn (l : Launch) (dC : Nat → ClassId) (dI : Nat → Nat → Nat) (cy : Nat → ClassId) (a0 : Nat → Nat) (gne : (Nat → Nat → Int32) × (Nat → Nat → Int64)) (x1 : Int32) (x2 : Int32) (x3 : Int32) (sz : Nat) (R0 : Int32) (h : p_X6_misreadIn gne x1 x2 x3 = some R0) : Met l yX6_misreadIn wsX6_misreadIn rm_X6_misreadIn (va_Pc [.ref (a0 0), .int x1, .int x2, .int x3] (prC dC dI cy (w_X6_misreadIn cy a0 gne) sz)) (va_Qi (fun (r : Int32) (_ : Unit) => r = R0) (fun (_ : Unit) t => poC dC dI cy (w_X6_misreadIn cy a0 gne) t) (va_A (w_X6_misreadIn cy a0 gne) sz)) 0 0 (va_A (w_X6_misreadIn cy a0 gne) sz) := by
  refine Met.ofW (cc := cX6_misreadIn) (maxL := 7) (ret := (some .int)) (by decide) rfl ?_
  intro p e s m aa below meth c s₁ B hml hv
  obtain ⟨haa, hsz, hP, hK, hD0⟩ := hv
  have hx := B.exec
  have hb := B.bytes
  have hr := B.returns
  have hts := atoms_spec (ws := wsX6_misreadIn) B.pre
  have hown : s.vm.findClass RX6 = some m.cls := findClass_of_methodNamed B.named
  have hlocks := B.notSynchronized
  subst hsz
  have hD := hD0.self (sz := s.heap.size)
  obtain ⟨qq, hqq⟩ : ∃ qq, qq = (va_Qi (fun (r : Int32) (_ : Unit) => r = R0) (fun (_ : Unit) t => poC dC dI cy (w_X6_misreadIn cy a0 gne) t) (va_A (w_X6_misreadIn cy a0 gne) s.heap.size)) := ⟨_, rfl⟩
  rw [← hqq]
  generalize hAe : va_A (w_X6_misreadIn cy a0 gne) s.heap.size = A at hD hqq ⊢
  have hA : ∀ q : Nat, s.heap.size ≤ q → A q := fun q h => by rw [← hAe]; exact Or.inr h
  have hS : va_S A s.heap s.heap [] := va_S.rf
  have hl := lv_entry ([.ref (a0 0), .int x1, .int x2, .int x3]) (n := 7) (Nat.le_of_ble_eq_true rfl)
  have hE : entryFrame m aa 7 = F0 m 0 ((lg_sl ([.ref (a0 0), .int x1, .int x2, .int x3]) ++ List.replicate (7 - (lg_sl ([.ref (a0 0), .int x1, .int x2, .int x3])).length) Slot.unset).toArray) [] := by rw [haa]; exact lg_entry_eq m _ 7
  refine W.eq hE ?_
  generalize (lg_sl ([.ref (a0 0), .int x1, .int x2, .int x3]) ++ List.replicate (7 - (lg_sl ([.ref (a0 0), .int x1, .int x2, .int x3])).length) Slot.unset).toArray = ls at hl ⊢
  have hl : lv_has ls 7 [(0, .ref (a0 0)), (1, .int x1), (2, .int x2), (3, .int x3)] := hl
  change W p l e rm_X6_misreadIn s m aa below meth c s.heap [] 0 0 (MQ below qq aa s 0 0 A) (F0 m 0 ls [])
  have hS0 := hS
  have lk0 := hts (.methodLink RX6 72 Lib.Math.abs.name) (by decide +kernel)
  have lk1 := hts (.static Lib.Math.abs.name) (by decide +kernel)
  have lk2 := hts (.initialized "java/lang/Math") (by decide +kernel)
  have lk3 := hts (.code Lib.Math.abs.name Lib.Math.abs.code 1 (some .int)) (by decide +kernel)
  have lk4 := hts (.methodLink RX6 75 Lib.Math.max.name) (by decide +kernel)
  have lk5 := hts (.static Lib.Math.max.name) (by decide +kernel)
  have lk6 := hts (.code Lib.Math.max.name Lib.Math.max.code 2 (some .int)) (by decide +kernel)
  have c6 : ∀ (n : Nat), ∀ (x1 : Int32) (x2 : Int32) (x3 : Int32) (x4 : Int32) (x5 : Int32) (H : Heap) (locs : List Loc) (ls : Array Slot), p_X6_misreadIn_6 gne n x1 x2 x3 x4 x5 = some R0 → va_P (dC, dI) vwCl (w_X6_misreadIn cy a0 gne) H → va_D A (w_X6_misreadIn cy a0 gne) → va_S A s.heap H locs → lv_has ls 7 [(0, .ref (a0 0)), (1, .int x1), (2, .int x2), (3, .int x3), (4, .int x4), (5, .int x5)] → W p l e rm_X6_misreadIn s m aa below meth c H locs 0 0 (MQ below qq aa s 0 0 A) (F0 m 6 ls []) := by
    intro  n
    induction n with
    | zero => intro x1 x2 x3 x4 x5 H locs ls h; exact no_some h
    | succ n ih =>
      intro x1 x2 x3 x4 x5 H locs ls h hP hD hS hl
      rw [p_X6_misreadIn_6.eq_2] at h
      refine lv_iload hx hb dX6_misreadIn_6 (lv_at hl 5 rfl) ?_
      refine lv_bipush (v := (10 : Int32)) hx hb dX6_misreadIn_8 (by decide) ?_
      refine lv_icmp_ge (tgt := 68) hx hb dX6_misreadIn_10 (by decide) (fun c1 => ?_) (fun c1 => ?_)
      · rw [if_pos c1] at h
        refine lv_iload hx hb dX6_misreadIn_68 (lv_at hl 4 rfl) ?_
        exact W.iret (v := x4) hx hb hr (fun t ht hW => by rw [hqq]; have hh := Option.some.inj h; exact ⟨⟨x4, (()), rfl, Option.some.inj h, by rw [ht]; exact hP, va_K.moved hW.alike hK⟩, hS.F ht⟩) hS.2.2 dX6_misreadIn_70
      · rw [if_neg c1] at h
        refine lv_aload_n hx hb dX6_misreadIn_13 rfl (lv_at hl 0 rfl) ?_
        refine lv_iload hx hb dX6_misreadIn_14 (lv_at hl 5 rfl) ?_
        refine lv_iload_n hx hb dX6_misreadIn_16 rfl (lv_at hl 1 rfl) ?_
        obtain ⟨v2, hv3, h⟩ := ok_bind h
        refine cl_vi (w2 := fun (_ : Unit) => w_X6_misreadIn cy a0 gne) (As := [.int x5, .int x1]) (rest := []) ⟨hx, hb, hml, hown, hts⟩ (c_X6_worthOf l dC dI cy a0 gne x5 x1 H.size v2 hv3) (cwV 2 hts gX6_misreadIn_X6_worthOf rfl rfl rfl (by decide +kernel) ⟨Nat.le_of_ble_eq_true rfl, Nat.le_of_ble_eq_true rfl⟩) (va_recv hK hP (ci := 4) (q0 := 0) rfl rfl) cl_blind (cl_pre hK hP hD [0, 1, 2, 3, 4, 5, 6, 7, 8, 9, 10, 11, 12, 13, 14, 15, 16, 17] (by decide) rfl) hP hD hS hA [0, 1, 2, 3, 4, 5, 6, 7, 8, 9, 10, 11, 12, 13, 14, 15, 16, 17] rfl rfl hl.1 rfl (lv_room (Nat.le_of_ble_eq_true rfl)) dX6_misreadIn_17 ⟨Nat.le_of_ble_eq_true rfl, Nat.le_of_ble_eq_true rfl⟩ ⟨rfl, rfl⟩ (fun _ => updR [0, 1, 2, 3, 4, 5, 6, 7, 8, 9, 10, 11, 12, 13, 14, 15, 16, 17] rfl) (fun r u H locs hw hP hD hS => ?_)
        have hw := hw.symm
        subst hw
        have hP : va_P (dC, dI) vwCl (w_X6_misreadIn cy a0 gne) H := hP
        have hD : va_D A (w_X6_misreadIn cy a0 gne) := hD
        refine lv_istore (lv' := [(6, .int v2), (0, .ref (a0 0)), (1, .int x1), (2, .int x2), (3, .int x3), (4, .int x4), (5, .int x5)]) hx hb dX6_misreadIn_20 hl (by decide) rfl (fun ls hl => ?_)
        refine lv_iload hx hb dX6_misreadIn_22 (lv_at hl 5 rfl) ?_
        refine lv_iload hx hb dX6_misreadIn_24 (lv_at hl 0 rfl) ?_
        refine lv_aload_n hx hb dX6_misreadIn_26 rfl (lv_at hl 1 rfl) ?_
        refine lv_iload hx hb dX6_misreadIn_27 (lv_at hl 6 rfl) ?_
        refine lv_iload_n hx hb dX6_misreadIn_29 rfl (lv_at hl 3 rfl) ?_
        obtain ⟨v4, hv5, h⟩ := ok_bind h
        refine cl_vi (w2 := fun (_ : Unit) => w_X6_misreadIn cy a0 gne) (As := [.int x5, .int x2]) (rest := [.int v2, .int x4]) ⟨hx, hb, hml, hown, hts⟩ (c_X6_worthOf l dC dI cy a0 gne x5 x2 H.size v4 hv5) (cwV 2 hts gX6_misreadIn_X6_worthOf rfl rfl rfl (by decide +kernel) ⟨Nat.le_of_ble_eq_true rfl, Nat.le_of_ble_eq_true rfl⟩) (va_recv hK hP (ci := 4) (q0 := 0) rfl rfl) cl_blind (cl_pre hK hP hD [0, 1, 2, 3, 4, 5, 6, 7, 8, 9, 10, 11, 12, 13, 14, 15, 16, 17] (by decide) rfl) hP hD hS hA [0, 1, 2, 3, 4, 5, 6, 7, 8, 9, 10, 11, 12, 13, 14, 15, 16, 17] rfl rfl hl.1 rfl (lv_room (Nat.le_of_ble_eq_true rfl)) dX6_misreadIn_30 ⟨Nat.le_of_ble_eq_true rfl, Nat.le_of_ble_eq_true rfl⟩ ⟨rfl, rfl⟩ (fun _ => updR [0, 1, 2, 3, 4, 5, 6, 7, 8, 9, 10, 11, 12, 13, 14, 15, 16, 17] rfl) (fun r u H locs hw hP hD hS => ?_)
        have hw := hw.symm
        subst hw
        have hP : va_P (dC, dI) vwCl (w_X6_misreadIn cy a0 gne) H := hP
        have hD : va_D A (w_X6_misreadIn cy a0 gne) := hD
        refine lv_isub hx hb dX6_misreadIn_33 ?_
        refine va_mabs hx hb (by rw [hml]; exact hl.1.symm) hown lk0 lk1 lk2 lk3 (Nat.le_of_ble_eq_true rfl) (Nat.le_of_ble_eq_true rfl) (Nat.le_of_ble_eq_true rfl) (Nat.le_of_ble_eq_true rfl) dX6_misreadIn_34 ?_
        refine va_mmax hx hb (by rw [hml]; exact hl.1.symm) hown lk4 lk5 lk2 lk6 (Nat.le_of_ble_eq_true rfl) (Nat.le_of_ble_eq_true rfl) (Nat.le_of_ble_eq_true rfl) (Nat.le_of_ble_eq_true rfl) dX6_misreadIn_37 ?_
        obtain ⟨v6, hv7, h⟩ := ok_bind h
        refine lv_topi (fun y8 ey8 => ?_)
        have ey8 := (ey8.trans (Option.some.inj hv7)).symm
        subst ey8
        refine lv_istore (lv' := [(4, .int v6), (6, .int v2), (0, .ref (a0 0)), (1, .int x1), (2, .int x2), (3, .int x3), (5, .int x5)]) hx hb dX6_misreadIn_40 hl (by decide) rfl (fun ls hl => ?_)
        refine lv_iload hx hb dX6_misreadIn_42 (lv_at hl 0 rfl) ?_
        refine lv_iload hx hb dX6_misreadIn_44 (lv_at hl 1 rfl) ?_
        refine lv_aload_n hx hb dX6_misreadIn_46 rfl (lv_at hl 2 rfl) ?_
        refine lv_iload hx hb dX6_misreadIn_47 (lv_at hl 6 rfl) ?_
        refine lv_iload_n hx hb dX6_misreadIn_49 rfl (lv_at hl 5 rfl) ?_
        obtain ⟨v9, hv10, h⟩ := ok_bind h
        refine cl_vi (w2 := fun (_ : Unit) => w_X6_misreadIn cy a0 gne) (As := [.int x5, .int x3]) (rest := [.int v2, .int v6]) ⟨hx, hb, hml, hown, hts⟩ (c_X6_worthOf l dC dI cy a0 gne x5 x3 H.size v9 hv10) (cwV 2 hts gX6_misreadIn_X6_worthOf rfl rfl rfl (by decide +kernel) ⟨Nat.le_of_ble_eq_true rfl, Nat.le_of_ble_eq_true rfl⟩) (va_recv hK hP (ci := 4) (q0 := 0) rfl rfl) cl_blind (cl_pre hK hP hD [0, 1, 2, 3, 4, 5, 6, 7, 8, 9, 10, 11, 12, 13, 14, 15, 16, 17] (by decide) rfl) hP hD hS hA [0, 1, 2, 3, 4, 5, 6, 7, 8, 9, 10, 11, 12, 13, 14, 15, 16, 17] rfl rfl hl.1 rfl (lv_room (Nat.le_of_ble_eq_true rfl)) dX6_misreadIn_50 ⟨Nat.le_of_ble_eq_true rfl, Nat.le_of_ble_eq_true rfl⟩ ⟨rfl, rfl⟩ (fun _ => updR [0, 1, 2, 3, 4, 5, 6, 7, 8, 9, 10, 11, 12, 13, 14, 15, 16, 17] rfl) (fun r u H locs hw hP hD hS => ?_)
        have hw := hw.symm
        subst hw
        have hP : va_P (dC, dI) vwCl (w_X6_misreadIn cy a0 gne) H := hP
        have hD : va_D A (w_X6_misreadIn cy a0 gne) := hD
        refine lv_isub hx hb dX6_misreadIn_53 ?_
        refine va_mabs hx hb (by rw [hml]; exact hl.1.symm) hown lk0 lk1 lk2 lk3 (Nat.le_of_ble_eq_true rfl) (Nat.le_of_ble_eq_true rfl) (Nat.le_of_ble_eq_true rfl) (Nat.le_of_ble_eq_true rfl) dX6_misreadIn_54 ?_
        refine va_mmax hx hb (by rw [hml]; exact hl.1.symm) hown lk4 lk5 lk2 lk6 (Nat.le_of_ble_eq_true rfl) (Nat.le_of_ble_eq_true rfl) (Nat.le_of_ble_eq_true rfl) (Nat.le_of_ble_eq_true rfl) dX6_misreadIn_57 ?_
        obtain ⟨v11, hv12, h⟩ := ok_bind h
        refine lv_topi (fun y13 ey13 => ?_)
        have ey13 := (ey13.trans (Option.some.inj hv12)).symm
        subst ey13
        refine lv_istore (lv' := [(4, .int v11), (6, .int v2), (0, .ref (a0 0)), (1, .int x1), (2, .int x2), (3, .int x3), (5, .int x5)]) hx hb dX6_misreadIn_60 hl (by decide) rfl (fun ls hl => ?_)
        refine lv_iinc (v := (x5 + (1 : Int32))) (lv' := [(5, .int (x5 + (1 : Int32))), (4, .int v11), (6, .int v2), (0, .ref (a0 0)), (1, .int x1), (2, .int x2), (3, .int x3)]) hx hb dX6_misreadIn_62 hl (k := 6) rfl rfl (by decide) rfl (fun ls hl => ?_)
        refine lv_goto (tgt := 6) hx hb dX6_misreadIn_65 (by decide) ?_
        exact ih x1 x2 x3 v11 (x5 + (1 : Int32)) H locs ls h hP hD hS (lv_sub hl [3, 4, 5, 6, 1, 0] rfl)
  obtain ⟨H, hH⟩ : ∃ H : Heap, H = s.heap := ⟨_, rfl⟩
  obtain ⟨locs, hlocs⟩ : ∃ locs : List Loc, locs = [] := ⟨_, rfl⟩
  have hS : va_S A s.heap H locs := by rw [hH, hlocs]; exact hS
  rw [← hH] at hP
  suffices hg : W p l e rm_X6_misreadIn s m aa below meth c H locs 0 0 (MQ below qq aa s 0 0 A) (F0 m 0 ls []) by subst hH; subst hlocs; exact hg
  unfold p_X6_misreadIn at h
  refine lv_iconst (v := (0 : Int32)) hx hb dX6_misreadIn_0 (by decide) ?_
  refine lv_istore (lv' := [(4, .int (0 : Int32)), (0, .ref (a0 0)), (1, .int x1), (2, .int x2), (3, .int x3)]) hx hb dX6_misreadIn_1 hl (by decide) rfl (fun ls hl => ?_)
  refine lv_iconst (v := (0 : Int32)) hx hb dX6_misreadIn_3 (by decide) ?_
  refine lv_istore (lv' := [(5, .int (0 : Int32)), (4, .int (0 : Int32)), (0, .ref (a0 0)), (1, .int x1), (2, .int x2), (3, .int x3)]) hx hb dX6_misreadIn_4 hl (by decide) rfl (fun ls hl => ?_)
  exact c6 fu x1 x2 x3 (0 : Int32) (0 : Int32) H locs ls h hP hD hS (lv_sub hl [2, 3, 4, 5, 1, 0] rfl)
