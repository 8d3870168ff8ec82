abbrev w_X13_lastOf (cy : Nat → ClassId) (a0 : Nat → Nat) (gth : Int32) (gvm : Int32 × Int32 × Int32 × (Nat → Int32) × (Nat → Int32) × (Nat → Int32) × (Nat → Int32) × (Nat → Int32) × (Nat → Int32) × (Nat → Int32) × (Nat → Int32) × (Nat → Int32)) (gtd : Int32) (gfl : Int32 × Int32) (grd : Int32 × Int32 × Int32 × Int32 × Int32 × Int32 × Int64 × (Nat → Int32)) (gnv : Int32 × Int32 × Int32 × Int32 × Int32 × (Nat → Int32) × (Nat → Int32) × (Nat → Int32) × (Nat → Int32) × (Nat → Int32) × (Nat → Int32)) (gac : Int32 × (Nat → Int32) × (Nat → Int32)) (grc : Int32 × (Nat → Int32)) (gim : Int32 × Int32 × Int32 × (Nat → Int32) × (Nat → Int32) × (Nat → Int32) × (Nat → Int32) × (Nat → Int32) × (Nat → Int32) × (Nat → Int32) × (Nat → Int32) × (Nat → Int32)) : va_W := [(a0 0, .inr (11, [.int (gth), .int (gvm.1), .int (gvm.2.1), .int (gvm.2.2.1), .ref (a0 1), .ref (a0 2), .ref (a0 3), .ref (a0 4), .ref (a0 5), .ref (a0 6), .ref (a0 7), .ref (a0 8), .ref (a0 9), .ref (a0 10), .int (gtd), .int (gfl.1), .int (gfl.2), .ref (a0 11), .int (grd.1), .int (grd.2.1), .int (grd.2.2.1), .int (grd.2.2.2.1), .int (grd.2.2.2.2.1), .int (grd.2.2.2.2.2.1), .long (grd.2.2.2.2.2.2.1), .ref (a0 12), .int (gnv.1), .int (gnv.2.1), .int (gnv.2.2.1), .int (gnv.2.2.2.1), .int (gnv.2.2.2.2.1), .ref (a0 13), .ref (a0 14), .ref (a0 15), .ref (a0 16), .ref (a0 17), .ref (a0 18), .int (gac.1), .ref (a0 19), .ref (a0 20), .ref (a0 21), .ref (a0 22), .ref (a0 23), .ref (a0 24), .ref (a0 25), .ref (a0 26), .ref (a0 27), .int (grc.1), .ref (a0 28), .ref (a0 29), .ref (a0 30), .ref (a0 31), .int (gim.1), .int (gim.2.1), .int (gim.2.2.1), .ref (a0 32), .ref (a0 33), .ref (a0 34), .ref (a0 35), .ref (a0 36), .ref (a0 37), .ref (a0 38), .ref (a0 39), .ref (a0 40)])), (a0 1, .inl (cy 1, 5, .inl (gvm.2.2.2.1))), (a0 2, .inl (cy 1, 5, .inl (gvm.2.2.2.2.1))), (a0 3, .inl (cy 1, 5, .inl (gvm.2.2.2.2.2.1))), (a0 4, .inl (cy 1, 25, .inl (gvm.2.2.2.2.2.2.1))), (a0 5, .inl (cy 1, 10, .inl (gvm.2.2.2.2.2.2.2.1))), (a0 6, .inl (cy 1, 10, .inl (gvm.2.2.2.2.2.2.2.2.1))), (a0 7, .inl (cy 1, 10, .inl (gvm.2.2.2.2.2.2.2.2.2.1))), (a0 8, .inl (cy 1, 10, .inl (gvm.2.2.2.2.2.2.2.2.2.2.1))), (a0 9, .inl (cy 1, 50, .inl (gvm.2.2.2.2.2.2.2.2.2.2.2)))]
abbrev rm_X13_lastOf : Room := { frames := 0, cells := 0, slots := 0, locals := 0 }
set_option maxHeartbeats 1000000 in
set_option maxRecDepth 100000 in
theorem c_X13_lastOf (l : Launch) (dC : Nat → ClassId) (dI : Nat → Nat → Nat) (cy : Nat → ClassId) (a0 : Nat → Nat) (gth : Int32) (gvm : Int32 × Int32 × Int32 × (Nat → Int32) × (Nat → Int32) × (Nat → Int32) × (Nat → Int32) × (Nat → Int32) × (Nat → Int32) × (Nat → Int32) × (Nat → Int32) × (Nat → Int32)) (gtd : Int32) (gfl : Int32 × Int32) (grd : Int32 × Int32 × Int32 × Int32 × Int32 × Int32 × Int64 × (Nat → Int32)) (gnv : Int32 × Int32 × Int32 × Int32 × Int32 × (Nat → Int32) × (Nat → Int32) × (Nat → Int32) × (Nat → Int32) × (Nat → Int32) × (Nat → Int32)) (gac : Int32 × (Nat → Int32) × (Nat → Int32)) (grc : Int32 × (Nat → Int32)) (gim : Int32 × Int32 × Int32 × (Nat → Int32) × (Nat → Int32) × (Nat → Int32) × (Nat → Int32) × (Nat → Int32) × (Nat → Int32) × (Nat → Int32) × (Nat → Int32) × (Nat → Int32)) (x1 : Int32) (x2 : Int32) (sz : Nat) (R0 : Int32) (h : p_X13_lastOf gvm x1 x2 = some R0) : Met l yX13_lastOf wsX13_lastOf rm_X13_lastOf (va_Pc [.ref (a0 0), .int x1, .int x2] (prC dC dI cy (w_X13_lastOf cy a0 gth gvm gtd gfl grd gnv gac grc gim) sz)) (va_Qi (fun (r : Int32) (_ : Unit) => r = R0) (fun (_ : Unit) t => poC dC dI cy (w_X13_lastOf cy a0 gth gvm gtd gfl grd gnv gac grc gim) t) (va_A (w_X13_lastOf cy a0 gth gvm gtd gfl grd gnv gac grc gim) sz)) 0 0 (va_A (w_X13_lastOf cy a0 gth gvm gtd gfl grd gnv gac grc gim) sz) := by
  refine Met.ofW (cc := cX13_lastOf) (maxL := 4) (ret := (some .int)) (by decide) rfl ?_
  intro p e s m aa below meth c s₁ B hml hv
  obtain ⟨haa, hsz, hP, hK, hD0⟩ := hv
  have hx := B.exec
  have hb := B.bytes
  have hr := B.returns
  have hts := atoms_spec (ws := wsX13_lastOf) B.pre
  have hown : s.vm.findClass RX13 = some m.cls := findClass_of_methodNamed B.named
  have hlocks := B.notSynchronized
  subst hsz
  have hD := hD0.self (sz := s.heap.size)
  obtain ⟨qq, hqq⟩ : ∃ qq, qq = (va_Qi (fun (r : Int32) (_ : Unit) => r = R0) (fun (_ : Unit) t => poC dC dI cy (w_X13_lastOf cy a0 gth gvm gtd gfl grd gnv gac grc gim) t) (va_A (w_X13_lastOf cy a0 gth gvm gtd gfl grd gnv gac grc gim) s.heap.size)) := ⟨_, rfl⟩
  rw [← hqq]
  generalize hAe : va_A (w_X13_lastOf cy a0 gth gvm gtd gfl grd gnv gac grc gim) s.heap.size = A at hD hqq ⊢
  have hA : ∀ q : Nat, s.heap.size ≤ q → A q := fun q h => by rw [← hAe]; exact Or.inr h
  have hS : va_S A s.heap s.heap [] := va_S.rf
  have hl := lv_entry ([.ref (a0 0), .int x1, .int x2]) (n := 4) (Nat.le_of_ble_eq_true rfl)
  have hE : entryFrame m aa 4 = F0 m 0 ((lg_sl ([.ref (a0 0), .int x1, .int x2]) ++ List.replicate (4 - (lg_sl ([.ref (a0 0), .int x1, .int x2])).length) Slot.unset).toArray) [] := by rw [haa]; exact lg_entry_eq m _ 4
  refine W.eq hE ?_
  generalize (lg_sl ([.ref (a0 0), .int x1, .int x2]) ++ List.replicate (4 - (lg_sl ([.ref (a0 0), .int x1, .int x2])).length) Slot.unset).toArray = ls at hl ⊢
  have hl : lv_has ls 4 [(0, .ref (a0 0)), (1, .int x1), (2, .int x2)] := hl
  change W p l e rm_X13_lastOf s m aa below meth c s.heap [] 0 0 (MQ below qq aa s 0 0 A) (F0 m 0 ls [])
  have hS0 := hS
  have lk0 := hts (.fieldLink RX13 31 "GoatDoorsModel" "many" "[I") (by decide +kernel)
  have lk1 := hts (.fieldLink RX13 34 "GoatDoorsModel" "figure" "[I") (by decide +kernel)
  have lk2 := hts (.fieldLink RX13 251 "GoatDoorsModel" "base" "I") (by decide +kernel)
  have in_X13 : ∀ w ∈ wsX130, w ∈ wsX13_lastOf := by decide +kernel
  obtain ⟨H, hH⟩ : ∃ H : Heap, H = s.heap := ⟨_, rfl⟩
  obtain ⟨locs, hlocs⟩ : ∃ locs : List Loc, locs = [] := ⟨_, rfl⟩
  have hS : va_S A s.heap H locs := by rw [hH, hlocs]; exact hS
  rw [← hH] at hP
  suffices hg : W p l e rm_X13_lastOf s m aa below meth c H locs 0 0 (MQ below qq aa s 0 0 A) (F0 m 0 ls []) by subst hH; subst hlocs; exact hg
  unfold p_X13_lastOf at h
  refine lv_iload_n hx hb dX13_lastOf_0 rfl (lv_at hl 2 rfl) ?_
  refine lv_aload_n hx hb dX13_lastOf_1 rfl (lv_at hl 0 rfl) ?_
  refine va_get (D := (dC, dI)) (ci := 11) (v := .ref (a0 8)) (C := RX13) (T := TX13) (N := 64) hx hb hts in_X13 hown hK hP 0 rfl rfl 11 (by decide) lk0 (fun _ h9 => h9) rfl dX13_lastOf_2 ?_
  refine lv_iload_n hx hb dX13_lastOf_5 rfl (lv_at hl 1 rfl) ?_
  obtain ⟨hi1, h⟩ := ok_if h
  refine va_iald hx hb hK hP 8 1 rfl rfl (ix_in hi1) dX13_lastOf_6 ?_
  refine lv_icmp_lt (tgt := 12) hx hb dX13_lastOf_7 (by decide) (fun c2 => ?_) (fun c2 => ?_)
  · rw [if_pos c2] at h
    refine lv_aload_n hx hb dX13_lastOf_12 rfl (lv_at hl 0 rfl) ?_
    refine va_get (D := (dC, dI)) (ci := 11) (v := .ref (a0 9)) (C := RX13) (T := TX13) (N := 64) hx hb hts in_X13 hown hK hP 0 rfl rfl 12 (by decide) lk1 (fun _ h9 => h9) rfl dX13_lastOf_13 ?_
    refine lv_iconst (v := (5 : Int32)) hx hb dX13_lastOf_16 (by decide) ?_
    refine lv_iload_n hx hb dX13_lastOf_17 rfl (lv_at hl 1 rfl) ?_
    refine lv_imul hx hb dX13_lastOf_18 ?_
    refine lv_aload_n hx hb dX13_lastOf_19 rfl (lv_at hl 0 rfl) ?_
    refine va_get (D := (dC, dI)) (ci := 11) (v := .ref (a0 8)) (C := RX13) (T := TX13) (N := 64) hx hb hts in_X13 hown hK hP 0 rfl rfl 11 (by decide) lk0 (fun _ h9 => h9) rfl dX13_lastOf_20 ?_
    refine lv_iload_n hx hb dX13_lastOf_23 rfl (lv_at hl 1 rfl) ?_
    obtain ⟨hi3, h⟩ := ok_if h
    refine va_iald hx hb hK hP 8 1 rfl rfl (ix_in hi3) dX13_lastOf_24 ?_
    refine lv_iadd hx hb dX13_lastOf_25 ?_
    refine lv_iconst (v := (1 : Int32)) hx hb dX13_lastOf_26 (by decide) ?_
    refine lv_isub hx hb dX13_lastOf_27 ?_
    refine lv_iload_n hx hb dX13_lastOf_28 rfl (lv_at hl 2 rfl) ?_
    refine lv_isub hx hb dX13_lastOf_29 ?_
    obtain ⟨hi4, h⟩ := ok_if h
    refine va_iald hx hb hK hP 9 1 rfl rfl (ix_in hi4) dX13_lastOf_30 ?_
    refine lv_istore_n (lv' := [(3, .int (gvm.2.2.2.2.2.2.2.2.2.2.2 (((((5 : Int32) * x1) + (gvm.2.2.2.2.2.2.2.2.2.2.1 x1.toNatClampNeg)) - (1 : Int32)) - x2).toNatClampNeg)), (0, .ref (a0 0)), (1, .int x1), (2, .int x2)]) hx hb dX13_lastOf_31 rfl hl (by decide) rfl (fun ls hl => ?_)
    refine lv_iload_n hx hb dX13_lastOf_32 rfl (lv_at hl 0 rfl) ?_
    refine lv_aload_n hx hb dX13_lastOf_33 rfl (lv_at hl 1 rfl) ?_
    refine va_get (D := (dC, dI)) (ci := 11) (v := .int gvm.2.2.1) (C := RX13) (T := TX13) (N := 64) hx hb hts in_X13 hown hK hP 0 rfl rfl 3 (by decide) lk2 (fun _ h9 => h9) rfl dX13_lastOf_34 ?_
    refine lv_icmp_ge (tgt := 44) hx hb dX13_lastOf_37 (by decide) (fun c5 => ?_) (fun c5 => ?_)
    · rw [if_pos c5] at h
      refine lv_aload_n hx hb dX13_lastOf_44 rfl (lv_at hl 1 rfl) ?_
      refine va_get (D := (dC, dI)) (ci := 11) (v := .int gvm.2.2.1) (C := RX13) (T := TX13) (N := 64) hx hb hts in_X13 hown hK hP 0 rfl rfl 3 (by decide) lk2 (fun _ h9 => h9) rfl dX13_lastOf_45 ?_
      refine lv_iconst (v := (1 : Int32)) hx hb dX13_lastOf_48 (by decide) ?_
      refine lv_isub hx hb dX13_lastOf_49 ?_
      exact W.iret (v := (gvm.2.2.1 - (1 : Int32))) hx hb hr (fun t ht hW => by rw [hqq]; have hh := Option.some.inj h; exact ⟨⟨(gvm.2.2.1 - (1 : Int32)), (()), rfl, Option.some.inj h, by rw [ht]; exact hP, va_K.moved hW.alike hK⟩, hS.F ht⟩) hS.2.2 dX13_lastOf_50
    · rw [if_neg c5] at h
      refine lv_iload_n hx hb dX13_lastOf_40 rfl (lv_at hl 0 rfl) ?_
      refine lv_goto (tgt := 50) hx hb dX13_lastOf_41 (by decide) ?_
      exact W.iret (v := (gvm.2.2.2.2.2.2.2.2.2.2.2 (((((5 : Int32) * x1) + (gvm.2.2.2.2.2.2.2.2.2.2.1 x1.toNatClampNeg)) - (1 : Int32)) - x2).toNatClampNeg)) hx hb hr (fun t ht hW => by rw [hqq]; have hh := Option.some.inj h; exact ⟨⟨(gvm.2.2.2.2.2.2.2.2.2.2.2 (((((5 : Int32) * x1) + (gvm.2.2.2.2.2.2.2.2.2.2.1 x1.toNatClampNeg)) - (1 : Int32)) - x2).toNatClampNeg), (()), rfl, Option.some.inj h, by rw [ht]; exact hP, va_K.moved hW.alike hK⟩, hS.F ht⟩) hS.2.2 dX13_lastOf_50
  · rw [if_neg c2] at h
    refine lv_iconst (v := (0 : Int32)) hx hb dX13_lastOf_10 (by decide) ?_
    exact W.iret (v := (0 : Int32)) hx hb hr (fun t ht hW => by rw [hqq]; have hh := Option.some.inj h; exact ⟨⟨(0 : Int32), (()), rfl, Option.some.inj h, by rw [ht]; exact hP, va_K.moved hW.alike hK⟩, hS.F ht⟩) hS.2.2 dX13_lastOf_11

abbrev w_X13_sum (cy : Nat → ClassId) (a0 : Nat → Nat) (gth : Int32) (gvm : Int32 × Int32 × Int32 × (Nat → Int32) × (Nat → Int32) × (Nat → Int32) × (Nat → Int32) × (Nat → Int32) × (Nat → Int32) × (Nat → Int32) × (Nat → Int32) × (Nat → Int32)) (gtd : Int32) (gfl : Int32 × Int32) (grd : Int32 × Int32 × Int32 × Int32 × Int32 × Int32 × Int64 × (Nat → Int32)) (gnv : Int32 × Int32 × Int32 × Int32 × Int32 × (Nat → Int32) × (Nat → Int32) × (Nat → Int32) × (Nat → Int32) × (Nat → Int32) × (Nat → Int32)) (gac : Int32 × (Nat → Int32) × (Nat → Int32)) (grc : Int32 × (Nat → Int32)) (gwr : (Nat → Int32)) (gim : Int32 × Int32 × Int32 × (Nat → Int32) × (Nat → Int32) × (Nat → Int32) × (Nat → Int32) × (Nat → Int32) × (Nat → Int32) × (Nat → Int32) × (Nat → Int32) × (Nat → Int32)) : va_W := [(a0 0, .inr (11, [.int (gth), .int (gvm.1), .int (gvm.2.1), .int (gvm.2.2.1), .ref (a0 1), .ref (a0 2), .ref (a0 3), .ref (a0 4), .ref (a0 5), .ref (a0 6), .ref (a0 7), .ref (a0 8), .ref (a0 9), .ref (a0 10), .int (gtd), .int (gfl.1), .int (gfl.2), .ref (a0 11), .int (grd.1), .int (grd.2.1), .int (grd.2.2.1), .int (grd.2.2.2.1), .int (grd.2.2.2.2.1), .int (grd.2.2.2.2.2.1), .long (grd.2.2.2.2.2.2.1), .ref (a0 12), .int (gnv.1), .int (gnv.2.1), .int (gnv.2.2.1), .int (gnv.2.2.2.1), .int (gnv.2.2.2.2.1), .ref (a0 13), .ref (a0 14), .ref (a0 15), .ref (a0 16), .ref (a0 17), .ref (a0 18), .int (gac.1), .ref (a0 19), .ref (a0 20), .ref (a0 21), .ref (a0 22), .ref (a0 23), .ref (a0 24), .ref (a0 25), .ref (a0 26), .ref (a0 27), .int (grc.1), .ref (a0 28), .ref (a0 29), .ref (a0 30), .ref (a0 31), .int (gim.1), .int (gim.2.1), .int (gim.2.2.1), .ref (a0 32), .ref (a0 33), .ref (a0 34), .ref (a0 35), .ref (a0 36), .ref (a0 37), .ref (a0 38), .ref (a0 39), .ref (a0 40)])), (a0 1, .inl (cy 1, 5, .inl (gvm.2.2.2.1))), (a0 2, .inl (cy 1, 5, .inl (gvm.2.2.2.2.1))), (a0 3, .inl (cy 1, 5, .inl (gvm.2.2.2.2.2.1))), (a0 4, .inl (cy 1, 25, .inl (gvm.2.2.2.2.2.2.1))), (a0 5, .inl (cy 1, 10, .inl (gvm.2.2.2.2.2.2.2.1))), (a0 6, .inl (cy 1, 10, .inl (gvm.2.2.2.2.2.2.2.2.1))), (a0 7, .inl (cy 1, 10, .inl (gvm.2.2.2.2.2.2.2.2.2.1))), (a0 8, .inl (cy 1, 10, .inl (gvm.2.2.2.2.2.2.2.2.2.2.1))), (a0 9, .inl (cy 1, 50, .inl (gvm.2.2.2.2.2.2.2.2.2.2.2))), (a0 31, .inl (cy 1, 6, .inl (gwr)))]
abbrev rm_X13_sum : Room := { frames := 2, cells := 0, slots := 0, locals := 43 }
set_option maxHeartbeats 1000000 in
set_option maxRecDepth 100000 in
theorem c_X13_sum (l : Launch) (dC : Nat → ClassId) (dI : Nat → Nat → Nat) (cy : Nat → ClassId) (a0 : Nat → Nat) (gth : Int32) (gvm : Int32 × Int32 × Int32 × (Nat → Int32) × (Nat → Int32) × (Nat → Int32) × (Nat → Int32) × (Nat → Int32) × (Nat → Int32) × (Nat → Int32) × (Nat → Int32) × (Nat → Int32)) (gtd : Int32) (gfl : Int32 × Int32) (grd : Int32 × Int32 × Int32 × Int32 × Int32 × Int32 × Int64 × (Nat → Int32)) (gnv : Int32 × Int32 × Int32 × Int32 × Int32 × (Nat → Int32) × (Nat → Int32) × (Nat → Int32) × (Nat → Int32) × (Nat → Int32) × (Nat → Int32)) (gac : Int32 × (Nat → Int32) × (Nat → Int32)) (grc : Int32 × (Nat → Int32)) (gwr : (Nat → Int32)) (gim : Int32 × Int32 × Int32 × (Nat → Int32) × (Nat → Int32) × (Nat → Int32) × (Nat → Int32) × (Nat → Int32) × (Nat → Int32) × (Nat → Int32) × (Nat → Int32) × (Nat → Int32)) (x1 : Int32) (x2 : Int32) (x3 : Int32) (sz : Nat) (R0 : Int32 × (Int32) × ((Nat → Int32))) (h : p_X13_sum gth gvm gwr x1 x2 x3 = some R0) : Met l yX13_sum wsX13_sum rm_X13_sum (va_Pc [.ref (a0 0), .int x1, .int x2, .int x3] (prC dC dI cy (w_X13_sum cy a0 gth gvm gtd gfl grd gnv gac grc gwr gim) sz)) (va_Qi (fun (r : Int32) (u : (Int32) × ((Nat → Int32))) => r = R0.1 ∧ u = R0.2) (fun (u : (Int32) × ((Nat → Int32))) t => poC dC dI cy (w_X13_sum cy a0 u.1 gvm gtd gfl grd gnv gac grc u.2 gim) t) (va_A (w_X13_sum cy a0 gth gvm gtd gfl grd gnv gac grc gwr gim) sz)) 0 0 (va_A (w_X13_sum cy a0 gth gvm gtd gfl grd gnv gac grc gwr gim) sz) := by
  refine Met.ofW (cc := cX13_sum) (maxL := 9) (ret := (some .int)) (by decide) rfl ?_
  intro p e s m aa below meth c s₁ B hml hv
  obtain ⟨haa, hsz, hP, hK, hD0⟩ := hv
  have hx := B.exec
  have hb := B.bytes
  have hr := B.returns
  have hts := atoms_spec (ws := wsX13_sum) B.pre
  have hown : s.vm.findClass RX13 = some m.cls := findClass_of_methodNamed B.named
  have hlocks := B.notSynchronized
  subst hsz
  have hD := hD0.self (sz := s.heap.size)
  obtain ⟨qq, hqq⟩ : ∃ qq, qq = (va_Qi (fun (r : Int32) (u : (Int32) × ((Nat → Int32))) => r = R0.1 ∧ u = R0.2) (fun (u : (Int32) × ((Nat → Int32))) t => poC dC dI cy (w_X13_sum cy a0 u.1 gvm gtd gfl grd gnv gac grc u.2 gim) t) (va_A (w_X13_sum cy a0 gth gvm gtd gfl grd gnv gac grc gwr gim) s.heap.size)) := ⟨_, rfl⟩
  rw [← hqq]
  generalize hAe : va_A (w_X13_sum cy a0 gth gvm gtd gfl grd gnv gac grc gwr gim) s.heap.size = A at hD hqq ⊢
  have hA : ∀ q : Nat, s.heap.size ≤ q → A q := fun q h => by rw [← hAe]; exact Or.inr h
  have hS : va_S A s.heap s.heap [] := va_S.rf
  have hl := lv_entry ([.ref (a0 0), .int x1, .int x2, .int x3]) (n := 9) (Nat.le_of_ble_eq_true rfl)
  have hE : entryFrame m aa 9 = F0 m 0 ((lg_sl ([.ref (a0 0), .int x1, .int x2, .int x3]) ++ List.replicate (9 - (lg_sl ([.ref (a0 0), .int x1, .int x2, .int x3])).length) Slot.unset).toArray) [] := by rw [haa]; exact lg_entry_eq m _ 9
  refine W.eq hE ?_
  generalize (lg_sl ([.ref (a0 0), .int x1, .int x2, .int x3]) ++ List.replicate (9 - (lg_sl ([.ref (a0 0), .int x1, .int x2, .int x3])).length) Slot.unset).toArray = ls at hl ⊢
  have hl : lv_has ls 9 [(0, .ref (a0 0)), (1, .int x1), (2, .int x2), (3, .int x3)] := hl
  change W p l e rm_X13_sum s m aa below meth c s.heap [] 0 0 (MQ below qq aa s 0 0 A) (F0 m 0 ls [])
  have hS0 := hS
  have lk0 := hts (.fieldLink RX13 105 "GoatDoorsModel" "written" "[I") (by decide +kernel)
  have lk1 := hts (.fieldLink RX13 251 "GoatDoorsModel" "base" "I") (by decide +kernel)
  have lk2 := hts (.fieldLink RX13 135 "GoatDoorsModel" "thrown" "I") (by decide +kernel)
  have in_X13 : ∀ w ∈ wsX130, w ∈ wsX13_sum := by decide +kernel
  have c177 : ∀ (_u : Unit), ∀ (gth : Int32) (gwr : (Nat → Int32)) (x3 : Int32) (x6 : Int32) (t1 : Int32) (H : Heap) (locs : List Loc) (ls : Array Slot), p_X13_sum_177 gvm gth gwr x3 x6 t1 = some R0 → va_P (dC, dI) vwCl (w_X13_sum cy a0 gth gvm gtd gfl grd gnv gac grc gwr gim) H → va_D A (w_X13_sum cy a0 gth gvm gtd gfl grd gnv gac grc gwr gim) → va_S A s.heap H locs → lv_has ls 9 [(0, .ref (a0 0)), (3, .int x3), (6, .int x6)] → W p l e rm_X13_sum s m aa below meth c H locs 0 0 (MQ below qq aa s 0 0 A) (F0 m 177 ls [.int t1, .ref (a0 0)]) := by
    intro _ gth gwr x3 x6 t1 H locs ls h hP hD hS hl
    unfold p_X13_sum_177 at h
    refine lv_iconst (v := (1 : Int32)) hx hb dX13_sum_177 (by decide) ?_
    obtain ⟨v1, hv2, h⟩ := ok_bind h
    refine cl_vi (w2 := fun (u : (Int32)) => w_X13_sum cy a0 u gvm gtd gfl grd gnv gac grc gwr gim) (As := [.int t1, .int (1 : Int32)]) (rest := []) ⟨hx, hb, hml, hown, hts⟩ (c_X13_right l dC dI cy a0 gth gvm gtd gfl grd gnv gac grc gim t1 (1 : Int32) H.size v1 hv2) (cwV 2 hts gX13_sum_X13_right rfl rfl rfl (by decide +kernel) ⟨Nat.le_of_ble_eq_true rfl, Nat.le_of_ble_eq_true rfl⟩) (va_recv hK hP (ci := 11) (q0 := 0) rfl rfl) cl_blind (cl_pre hK hP hD [0] (by decide) rfl) hP hD hS hA [0] rfl rfl hl.1 rfl (lv_room (Nat.le_of_ble_eq_true rfl)) dX13_sum_178 ⟨Nat.le_of_ble_eq_true rfl, Nat.le_of_ble_eq_true rfl⟩ ⟨rfl, rfl⟩ (fun _ => updM [0] [1, 2, 3, 4, 5, 6, 7, 8, 9, 10] [(a0 1, .inl (cy 1, 5, .inl (gvm.2.2.2.1))), (a0 2, .inl (cy 1, 5, .inl (gvm.2.2.2.2.1))), (a0 3, .inl (cy 1, 5, .inl (gvm.2.2.2.2.2.1))), (a0 4, .inl (cy 1, 25, .inl (gvm.2.2.2.2.2.2.1))), (a0 5, .inl (cy 1, 10, .inl (gvm.2.2.2.2.2.2.2.1))), (a0 6, .inl (cy 1, 10, .inl (gvm.2.2.2.2.2.2.2.2.1))), (a0 7, .inl (cy 1, 10, .inl (gvm.2.2.2.2.2.2.2.2.2.1))), (a0 8, .inl (cy 1, 10, .inl (gvm.2.2.2.2.2.2.2.2.2.2.1))), (a0 9, .inl (cy 1, 50, .inl (gvm.2.2.2.2.2.2.2.2.2.2.2))), (a0 31, .inl (cy 1, 6, .inl (gwr)))] 11 rfl rfl rfl rfl rfl (by decide +kernel) (by decide +kernel) rfl) (fun r u H locs hw hP hD hS => ?_)
    obtain ⟨rfl, rfl⟩ := hw
    have hP : va_P (dC, dI) vwCl (w_X13_sum cy a0 v1.2 gvm gtd gfl grd gnv gac grc gwr gim) H := hP
    have hD : va_D A (w_X13_sum cy a0 v1.2 gvm gtd gfl grd gnv gac grc gwr gim) := hD
    refine lv_if_eq (tgt := 198) hx hb dX13_sum_181 (by decide) (fun c3 => ?_) (fun c3 => ?_)
    · rw [if_pos c3] at h
      refine lv_iconst (v := (0 : Int32)) hx hb dX13_sum_198 (by decide) ?_
      exact W.iret (v := (0 : Int32)) hx hb hr (fun t ht hW => by rw [hqq]; have hh := Option.some.inj h; exact ⟨⟨(0 : Int32), ((v1.2, gwr)), rfl, ⟨fst_of hh, snd_of hh⟩, by rw [ht]; exact hP, va_K.moved hW.alike hK⟩, hS.F ht⟩) hS.2.2 dX13_sum_199
    · rw [if_neg c3] at h
      refine lv_aload_n hx hb dX13_sum_184 rfl (lv_at hl 0 rfl) ?_
      refine va_get (D := (dC, dI)) (ci := 11) (v := .ref (a0 31)) (C := RX13) (T := TX13) (N := 64) hx hb hts in_X13 hown hK hP 0 rfl rfl 51 (by decide) lk0 (fun _ h9 => h9) rfl dX13_sum_185 ?_
      refine lv_iload hx hb dX13_sum_188 (lv_at hl 2 rfl) ?_
      refine lv_iconst (v := (1 : Int32)) hx hb dX13_sum_190 (by decide) ?_
      refine lv_isub hx hb dX13_sum_191 ?_
      refine lv_iload_n hx hb dX13_sum_192 rfl (lv_at hl 1 rfl) ?_
      refine lv_isub hx hb dX13_sum_193 ?_
      obtain ⟨hi4, h⟩ := ok_if h
      refine va_iald hx hb hK hP 10 1 rfl rfl (ix_in hi4) dX13_sum_194 ?_
      refine lv_goto (tgt := 199) hx hb dX13_sum_195 (by decide) ?_
      exact W.iret (v := (gwr ((x6 - (1 : Int32)) - x3).toNatClampNeg)) hx hb hr (fun t ht hW => by rw [hqq]; have hh := Option.some.inj h; exact ⟨⟨(gwr ((x6 - (1 : Int32)) - x3).toNatClampNeg), ((v1.2, gwr)), rfl, ⟨fst_of hh, snd_of hh⟩, by rw [ht]; exact hP, va_K.moved hW.alike hK⟩, hS.F ht⟩) hS.2.2 dX13_sum_199
  have c176 : ∀ (_u : Unit), ∀ (gth : Int32) (gwr : (Nat → Int32)) (x3 : Int32) (x6 : Int32) (H : Heap) (locs : List Loc) (ls : Array Slot), p_X13_sum_176 gvm gth gwr x3 x6 = some R0 → va_P (dC, dI) vwCl (w_X13_sum cy a0 gth gvm gtd gfl grd gnv gac grc gwr gim) H → va_D A (w_X13_sum cy a0 gth gvm gtd gfl grd gnv gac grc gwr gim) → va_S A s.heap H locs → lv_has ls 9 [(0, .ref (a0 0)), (3, .int x3), (6, .int x6)] → W p l e rm_X13_sum s m aa below meth c H locs 0 0 (MQ below qq aa s 0 0 A) (F0 m 176 ls [.ref (a0 0)]) := by
    intro _ gth gwr x3 x6 H locs ls h hP hD hS hl
    unfold p_X13_sum_176 at h
    refine lv_iconst (v := (0 : Int32)) hx hb dX13_sum_176 (by decide) ?_
    exact c177 () gth gwr x3 x6 (0 : Int32) H locs ls h hP hD hS (lv_sub hl [0, 1, 2] rfl)
  have c138 : ∀ (k56 : (Int32) → ((Nat → Int32)) → Int32 → Int32 → Int32 → Int32 → Int32 → Int32 → Int32 → Option (Int32 × (Int32) × ((Nat → Int32)))) (hk56 : ∀ (gth : Int32) (gwr : (Nat → Int32)) (x1 : Int32) (x2 : Int32) (x3 : Int32) (x4 : Int32) (x5 : Int32) (x6 : Int32) (x7 : Int32) (H : Heap) (locs : List Loc) (ls : Array Slot), k56 gth gwr x1 x2 x3 x4 x5 x6 x7 = some R0 → va_P (dC, dI) vwCl (w_X13_sum cy a0 gth gvm gtd gfl grd gnv gac grc gwr gim) H → va_D A (w_X13_sum cy a0 gth gvm gtd gfl grd gnv gac grc gwr gim) → va_S A s.heap H locs → lv_has ls 9 [(0, .ref (a0 0)), (1, .int x1), (2, .int x2), (3, .int x3), (4, .int x4), (5, .int x5), (6, .int x6), (7, .int x7)] → W p l e rm_X13_sum s m aa below meth c H locs 0 0 (MQ below qq aa s 0 0 A) (F0 m 56 ls [])), ∀ (gth : Int32) (gwr : (Nat → Int32)) (x1 : Int32) (x2 : Int32) (x3 : Int32) (x4 : Int32) (x5 : Int32) (x6 : Int32) (x7 : Int32) (H : Heap) (locs : List Loc) (ls : Array Slot), p_X13_sum_138 k56 gvm gth gwr x1 x2 x3 x4 x5 x6 x7 = some R0 → va_P (dC, dI) vwCl (w_X13_sum cy a0 gth gvm gtd gfl grd gnv gac grc gwr gim) H → va_D A (w_X13_sum cy a0 gth gvm gtd gfl grd gnv gac grc gwr gim) → va_S A s.heap H locs → lv_has ls 9 [(0, .ref (a0 0)), (1, .int x1), (2, .int x2), (3, .int x3), (4, .int x4), (5, .int x5), (6, .int x6), (7, .int x7)] → W p l e rm_X13_sum s m aa below meth c H locs 0 0 (MQ below qq aa s 0 0 A) (F0 m 138 ls []) := by
    intro k56 hk56 gth gwr x1 x2 x3 x4 x5 x6 x7 H locs ls h hP hD hS hl
    unfold p_X13_sum_138 at h
    refine lv_iinc (v := (x7 + (1 : Int32))) (lv' := [(7, .int (x7 + (1 : Int32))), (0, .ref (a0 0)), (1, .int x1), (2, .int x2), (3, .int x3), (4, .int x4), (5, .int x5), (6, .int x6)]) hx hb dX13_sum_138 hl (k := 7) rfl rfl (by decide) rfl (fun ls hl => ?_)
    refine lv_goto (tgt := 56) hx hb dX13_sum_141 (by decide) ?_
    exact hk56 gth gwr x1 x2 x3 x4 x5 x6 (x7 + (1 : Int32)) H locs ls h hP hD hS (lv_sub hl [1, 2, 3, 4, 5, 6, 7, 0] rfl)
  have c96 : ∀ (k56 : (Int32) → ((Nat → Int32)) → Int32 → Int32 → Int32 → Int32 → Int32 → Int32 → Int32 → Option (Int32 × (Int32) × ((Nat → Int32)))) (hk56 : ∀ (gth : Int32) (gwr : (Nat → Int32)) (x1 : Int32) (x2 : Int32) (x3 : Int32) (x4 : Int32) (x5 : Int32) (x6 : Int32) (x7 : Int32) (H : Heap) (locs : List Loc) (ls : Array Slot), k56 gth gwr x1 x2 x3 x4 x5 x6 x7 = some R0 → va_P (dC, dI) vwCl (w_X13_sum cy a0 gth gvm gtd gfl grd gnv gac grc gwr gim) H → va_D A (w_X13_sum cy a0 gth gvm gtd gfl grd gnv gac grc gwr gim) → va_S A s.heap H locs → lv_has ls 9 [(0, .ref (a0 0)), (1, .int x1), (2, .int x2), (3, .int x3), (4, .int x4), (5, .int x5), (6, .int x6), (7, .int x7)] → W p l e rm_X13_sum s m aa below meth c H locs 0 0 (MQ below qq aa s 0 0 A) (F0 m 56 ls [])), ∀ (gth : Int32) (gwr : (Nat → Int32)) (x1 : Int32) (x2 : Int32) (x3 : Int32) (x5 : Int32) (x6 : Int32) (x7 : Int32) (x8 : Int32) (t0 : Int32) (H : Heap) (locs : List Loc) (ls : Array Slot), p_X13_sum_96 k56 gvm gth gwr x1 x2 x3 x5 x6 x7 x8 t0 = some R0 → va_P (dC, dI) vwCl (w_X13_sum cy a0 gth gvm gtd gfl grd gnv gac grc gwr gim) H → va_D A (w_X13_sum cy a0 gth gvm gtd gfl grd gnv gac grc gwr gim) → va_S A s.heap H locs → lv_has ls 9 [(0, .ref (a0 0)), (1, .int x1), (2, .int x2), (3, .int x3), (5, .int x5), (6, .int x6), (7, .int x7), (8, .int x8)] → W p l e rm_X13_sum s m aa below meth c H locs 0 0 (MQ below qq aa s 0 0 A) (F0 m 96 ls [.int t0]) := by
    intro k56 hk56 gth gwr x1 x2 x3 x5 x6 x7 x8 t0 H locs ls h hP hD hS hl
    unfold p_X13_sum_96 at h
    refine lv_istore (lv' := [(4, .int t0), (0, .ref (a0 0)), (1, .int x1), (2, .int x2), (3, .int x3), (5, .int x5), (6, .int x6), (7, .int x7), (8, .int x8)]) hx hb dX13_sum_96 hl (by decide) rfl (fun ls hl => ?_)
    refine lv_iload hx hb dX13_sum_98 (lv_at hl 5 rfl) ?_
    refine lv_iload hx hb dX13_sum_100 (lv_at hl 0 rfl) ?_
    refine lv_iadd hx hb dX13_sum_102 ?_
    refine lv_istore (lv' := [(5, .int (x5 + t0)), (4, .int t0), (0, .ref (a0 0)), (1, .int x1), (2, .int x2), (3, .int x3), (6, .int x6), (7, .int x7), (8, .int x8)]) hx hb dX13_sum_103 hl (by decide) rfl (fun ls hl => ?_)
    refine lv_aload_n hx hb dX13_sum_105 rfl (lv_at hl 2 rfl) ?_
    refine va_get (D := (dC, dI)) (ci := 11) (v := .ref (a0 31)) (C := RX13) (T := TX13) (N := 64) hx hb hts in_X13 hown hK hP 0 rfl rfl 51 (by decide) lk0 (fun _ h9 => h9) rfl dX13_sum_106 ?_
    refine lv_iload hx hb dX13_sum_109 (lv_at hl 7 rfl) ?_
    refine lv_iload hx hb dX13_sum_111 (lv_at hl 8 rfl) ?_
    refine lv_iload hx hb dX13_sum_113 (lv_at hl 1 rfl) ?_
    refine lv_aload_n hx hb dX13_sum_115 rfl (lv_at hl 2 rfl) ?_
    refine va_get (D := (dC, dI)) (ci := 11) (v := .int gvm.2.2.1) (C := RX13) (T := TX13) (N := 64) hx hb hts in_X13 hown hK hP 0 rfl rfl 3 (by decide) lk1 (fun _ h9 => h9) rfl dX13_sum_116 ?_
    refine lv_imul hx hb dX13_sum_119 ?_
    refine lv_isub hx hb dX13_sum_120 ?_
    obtain ⟨hi1, h⟩ := ok_if h
    refine va_iast hx hb hK hP hD hS 10 1 rfl rfl (ix_in hi1) dX13_sum_121 (fun H locs hP hD hS => ?_)
    have hP : va_P (dC, dI) vwCl (w_X13_sum cy a0 gth gvm gtd gfl grd gnv gac grc ((upd gwr x7.toNatClampNeg (x8 - (t0 * gvm.2.2.1)))) gim) H := hP
    have hD : va_D A (w_X13_sum cy a0 gth gvm gtd gfl grd gnv gac grc ((upd gwr x7.toNatClampNeg (x8 - (t0 * gvm.2.2.1)))) gim) := hD
    refine lv_aload_n hx hb dX13_sum_122 rfl (lv_at hl 2 rfl) ?_
    refine va_get (D := (dC, dI)) (ci := 11) (v := .ref (a0 31)) (C := RX13) (T := TX13) (N := 64) hx hb hts in_X13 hown hK hP 0 rfl rfl 51 (by decide) lk0 (fun _ h9 => h9) rfl dX13_sum_123 ?_
    refine lv_iload hx hb dX13_sum_126 (lv_at hl 7 rfl) ?_
    obtain ⟨hi2, h⟩ := ok_if h
    refine va_iald hx hb hK hP 10 1 rfl rfl (ix_in hi2) dX13_sum_128 ?_
    refine lv_if_le (tgt := 138) hx hb dX13_sum_129 (by decide) (fun c3 => ?_) (fun c3 => ?_)
    · rw [if_pos c3] at h
      exact c138 k56 hk56 gth (upd gwr x7.toNatClampNeg (x8 - (t0 * gvm.2.2.1))) x1 x2 x3 t0 (x5 + t0) x6 x7 H locs ls h hP hD hS (lv_sub hl [2, 3, 4, 5, 1, 0, 6, 7] rfl)
    · rw [if_neg c3] at h
      refine lv_iload hx hb dX13_sum_132 (lv_at hl 7 rfl) ?_
      refine lv_iconst (v := (1 : Int32)) hx hb dX13_sum_134 (by decide) ?_
      refine lv_iadd hx hb dX13_sum_135 ?_
      refine lv_istore (lv' := [(6, .int (x7 + (1 : Int32))), (5, .int (x5 + t0)), (4, .int t0), (0, .ref (a0 0)), (1, .int x1), (2, .int x2), (3, .int x3), (7, .int x7), (8, .int x8)]) hx hb dX13_sum_136 hl (by decide) rfl (fun ls hl => ?_)
      exact c138 k56 hk56 gth (upd gwr x7.toNatClampNeg (x8 - (t0 * gvm.2.2.1))) x1 x2 x3 t0 (x5 + t0) (x7 + (1 : Int32)) x7 H locs ls h hP hD hS (lv_sub hl [3, 4, 5, 6, 2, 1, 0, 7] rfl)
  have c56 : ∀ (n : Nat), ∀ (gth : Int32) (gwr : (Nat → Int32)) (x1 : Int32) (x2 : Int32) (x3 : Int32) (x4 : Int32) (x5 : Int32) (x6 : Int32) (x7 : Int32) (H : Heap) (locs : List Loc) (ls : Array Slot), p_X13_sum_56 gvm n gth gwr x1 x2 x3 x4 x5 x6 x7 = some R0 → va_P (dC, dI) vwCl (w_X13_sum cy a0 gth gvm gtd gfl grd gnv gac grc gwr gim) H → va_D A (w_X13_sum cy a0 gth gvm gtd gfl grd gnv gac grc gwr gim) → va_S A s.heap H locs → lv_has ls 9 [(0, .ref (a0 0)), (1, .int x1), (2, .int x2), (3, .int x3), (4, .int x4), (5, .int x5), (6, .int x6), (7, .int x7)] → W p l e rm_X13_sum s m aa below meth c H locs 0 0 (MQ below qq aa s 0 0 A) (F0 m 56 ls []) := by
    intro  n
    induction n with
    | zero => intro gth gwr x1 x2 x3 x4 x5 x6 x7 H locs ls h; exact no_some h
    | succ n ih =>
      intro gth gwr x1 x2 x3 x4 x5 x6 x7 H locs ls h hP hD hS hl
      rw [p_X13_sum_56.eq_2] at h
      refine lv_iload hx hb dX13_sum_56 (lv_at hl 7 rfl) ?_
      refine lv_iconst (v := (5 : Int32)) hx hb dX13_sum_58 (by decide) ?_
      refine lv_icmp_gt (tgt := 144) hx hb dX13_sum_59 (by decide) (fun c1 => ?_) (fun c1 => ?_)
      · rw [if_pos c1] at h
        refine lv_iload_n hx hb dX13_sum_144 rfl (lv_at hl 3 rfl) ?_
        refine lv_iconst (v := (-1 : Int32)) hx hb dX13_sum_145 (by decide) ?_
        refine lv_icmp_ne (tgt := 152) hx hb dX13_sum_146 (by decide) (fun c2 => ?_) (fun c2 => ?_)
        · rw [if_neg c2] at h
          refine lv_iload_n hx hb dX13_sum_152 rfl (lv_at hl 3 rfl) ?_
          refine lv_bipush (v := (-2 : Int32)) hx hb dX13_sum_153 (by decide) ?_
          refine lv_icmp_ne (tgt := 161) hx hb dX13_sum_155 (by decide) (fun c3 => ?_) (fun c3 => ?_)
          · rw [if_neg c3] at h
            refine lv_aload_n hx hb dX13_sum_161 rfl (lv_at hl 0 rfl) ?_
            refine lv_iload_n hx hb dX13_sum_162 rfl (lv_at hl 3 rfl) ?_
            refine lv_if_lt (tgt := 176) hx hb dX13_sum_163 (by decide) (fun c4 => ?_) (fun c4 => ?_)
            · rw [if_pos c4] at h
              exact c176 () gth gwr x3 x6 H locs ls h hP hD hS (lv_sub hl [0, 3, 6] rfl)
            · rw [if_neg c4] at h
              refine lv_iload_n hx hb dX13_sum_166 rfl (lv_at hl 3 rfl) ?_
              refine lv_iload hx hb dX13_sum_167 (lv_at hl 6 rfl) ?_
              refine lv_icmp_ge (tgt := 176) hx hb dX13_sum_169 (by decide) (fun c5 => ?_) (fun c5 => ?_)
              · rw [if_pos c5] at h
                exact c176 () gth gwr x3 x6 H locs ls h hP hD hS (lv_sub hl [0, 3, 6] rfl)
              · rw [if_neg c5] at h
                refine lv_iconst (v := (1 : Int32)) hx hb dX13_sum_172 (by decide) ?_
                refine lv_goto (tgt := 177) hx hb dX13_sum_173 (by decide) ?_
                exact c177 () gth gwr x3 x6 (1 : Int32) H locs ls h hP hD hS (lv_sub hl [0, 3, 6] rfl)
          · rw [if_pos c3] at h
            refine lv_iload hx hb dX13_sum_158 (lv_at hl 5 rfl) ?_
            exact W.iret (v := x5) hx hb hr (fun t ht hW => by rw [hqq]; have hh := Option.some.inj h; exact ⟨⟨x5, ((gth, gwr)), rfl, ⟨fst_of hh, snd_of hh⟩, by rw [ht]; exact hP, va_K.moved hW.alike hK⟩, hS.F ht⟩) hS.2.2 dX13_sum_160
        · rw [if_pos c2] at h
          refine lv_iload hx hb dX13_sum_149 (lv_at hl 6 rfl) ?_
          exact W.iret (v := x6) hx hb hr (fun t ht hW => by rw [hqq]; have hh := Option.some.inj h; exact ⟨⟨x6, ((gth, gwr)), rfl, ⟨fst_of hh, snd_of hh⟩, by rw [ht]; exact hP, va_K.moved hW.alike hK⟩, hS.F ht⟩) hS.2.2 dX13_sum_151
      · rw [if_neg c1] at h
        refine lv_aload_n hx hb dX13_sum_62 rfl (lv_at hl 0 rfl) ?_
        refine lv_iload_n hx hb dX13_sum_63 rfl (lv_at hl 1 rfl) ?_
        refine lv_iload hx hb dX13_sum_64 (lv_at hl 7 rfl) ?_
        obtain ⟨v6, hv7, h⟩ := ok_bind h
        refine cl_vi (w2 := fun (_ : Unit) => w_X13_sum cy a0 gth gvm gtd gfl grd gnv gac grc gwr gim) (As := [.int x1, .int x7]) (rest := []) ⟨hx, hb, hml, hown, hts⟩ (c_X13_lastOf l dC dI cy a0 gth gvm gtd gfl grd gnv gac grc gim x1 x7 H.size v6 hv7) (cwV 2 hts gX13_sum_X13_lastOf rfl rfl rfl (by decide +kernel) ⟨Nat.le_of_ble_eq_true rfl, Nat.le_of_ble_eq_true rfl⟩) (va_recv hK hP (ci := 11) (q0 := 0) rfl rfl) cl_blind (cl_pre hK hP hD [0, 1, 2, 3, 4, 5, 6, 7, 8, 9] (by decide) rfl) hP hD hS hA [0, 1, 2, 3, 4, 5, 6, 7, 8, 9] rfl rfl hl.1 rfl (lv_room (Nat.le_of_ble_eq_true rfl)) dX13_sum_66 ⟨Nat.le_of_ble_eq_true rfl, Nat.le_of_ble_eq_true rfl⟩ ⟨rfl, rfl⟩ (fun _ => updR [0, 1, 2, 3, 4, 5, 6, 7, 8, 9] rfl) (fun r u H locs hw hP hD hS => ?_)
        have hw := hw.symm
        subst hw
        have hP : va_P (dC, dI) vwCl (w_X13_sum cy a0 gth gvm gtd gfl grd gnv gac grc gwr gim) H := hP
        have hD : va_D A (w_X13_sum cy a0 gth gvm gtd gfl grd gnv gac grc gwr gim) := hD
        refine lv_aload_n hx hb dX13_sum_69 rfl (lv_at hl 0 rfl) ?_
        refine lv_iload_n hx hb dX13_sum_70 rfl (lv_at hl 2 rfl) ?_
        refine lv_iload hx hb dX13_sum_71 (lv_at hl 7 rfl) ?_
        obtain ⟨v8, hv9, h⟩ := ok_bind h
        refine cl_vi (w2 := fun (_ : Unit) => w_X13_sum cy a0 gth gvm gtd gfl grd gnv gac grc gwr gim) (As := [.int x2, .int x7]) (rest := [.int v6]) ⟨hx, hb, hml, hown, hts⟩ (c_X13_lastOf l dC dI cy a0 gth gvm gtd gfl grd gnv gac grc gim x2 x7 H.size v8 hv9) (cwV 2 hts gX13_sum_X13_lastOf rfl rfl rfl (by decide +kernel) ⟨Nat.le_of_ble_eq_true rfl, Nat.le_of_ble_eq_true rfl⟩) (va_recv hK hP (ci := 11) (q0 := 0) rfl rfl) cl_blind (cl_pre hK hP hD [0, 1, 2, 3, 4, 5, 6, 7, 8, 9] (by decide) rfl) hP hD hS hA [0, 1, 2, 3, 4, 5, 6, 7, 8, 9] rfl rfl hl.1 rfl (lv_room (Nat.le_of_ble_eq_true rfl)) dX13_sum_73 ⟨Nat.le_of_ble_eq_true rfl, Nat.le_of_ble_eq_true rfl⟩ ⟨rfl, rfl⟩ (fun _ => updR [0, 1, 2, 3, 4, 5, 6, 7, 8, 9] rfl) (fun r u H locs hw hP hD hS => ?_)
        have hw := hw.symm
        subst hw
        have hP : va_P (dC, dI) vwCl (w_X13_sum cy a0 gth gvm gtd gfl grd gnv gac grc gwr gim) H := hP
        have hD : va_D A (w_X13_sum cy a0 gth gvm gtd gfl grd gnv gac grc gwr gim) := hD
        refine lv_iadd hx hb dX13_sum_76 ?_
        refine lv_iload hx hb dX13_sum_77 (lv_at hl 4 rfl) ?_
        refine lv_iadd hx hb dX13_sum_79 ?_
        refine lv_istore (lv' := [(8, .int ((v6 + v8) + x4)), (0, .ref (a0 0)), (1, .int x1), (2, .int x2), (3, .int x3), (4, .int x4), (5, .int x5), (6, .int x6), (7, .int x7)]) hx hb dX13_sum_80 hl (by decide) rfl (fun ls hl => ?_)
        refine lv_iload hx hb dX13_sum_82 (lv_at hl 0 rfl) ?_
        refine lv_aload_n hx hb dX13_sum_84 rfl (lv_at hl 1 rfl) ?_
        refine va_get (D := (dC, dI)) (ci := 11) (v := .int gvm.2.2.1) (C := RX13) (T := TX13) (N := 64) hx hb hts in_X13 hown hK hP 0 rfl rfl 3 (by decide) lk1 (fun _ h9 => h9) rfl dX13_sum_85 ?_
        refine lv_icmp_lt (tgt := 95) hx hb dX13_sum_88 (by decide) (fun c10 => ?_) (fun c10 => ?_)
        · rw [if_pos c10] at h
          refine lv_iconst (v := (0 : Int32)) hx hb dX13_sum_95 (by decide) ?_
          exact c96 (p_X13_sum_56 gvm n) ih gth gwr x1 x2 x3 x5 x6 x7 ((v6 + v8) + x4) (0 : Int32) H locs ls h hP hD hS (lv_sub hl [1, 2, 3, 4, 6, 7, 8, 0] rfl)
        · rw [if_neg c10] at h
          refine lv_iconst (v := (1 : Int32)) hx hb dX13_sum_91 (by decide) ?_
          refine lv_goto (tgt := 96) hx hb dX13_sum_92 (by decide) ?_
          exact c96 (p_X13_sum_56 gvm n) ih gth gwr x1 x2 x3 x5 x6 x7 ((v6 + v8) + x4) (1 : Int32) H locs ls h hP hD hS (lv_sub hl [1, 2, 3, 4, 6, 7, 8, 0] rfl)
  have c35 : ∀ (_u : Unit), ∀ (gth : Int32) (gwr : (Nat → Int32)) (x1 : Int32) (x2 : Int32) (x3 : Int32) (t1 : Int32) (H : Heap) (locs : List Loc) (ls : Array Slot), p_X13_sum_35 gvm gth gwr x1 x2 x3 t1 = some R0 → va_P (dC, dI) vwCl (w_X13_sum cy a0 gth gvm gtd gfl grd gnv gac grc gwr gim) H → va_D A (w_X13_sum cy a0 gth gvm gtd gfl grd gnv gac grc gwr gim) → va_S A s.heap H locs → lv_has ls 9 [(0, .ref (a0 0)), (1, .int x1), (2, .int x2), (3, .int x3)] → W p l e rm_X13_sum s m aa below meth c H locs 0 0 (MQ below qq aa s 0 0 A) (F0 m 35 ls [.int t1, .ref (a0 0)]) := by
    intro _ gth gwr x1 x2 x3 t1 H locs ls h hP hD hS hl
    unfold p_X13_sum_35 at h
    refine lv_iconst (v := (2 : Int32)) hx hb dX13_sum_35 (by decide) ?_
    obtain ⟨v1, hv2, h⟩ := ok_bind h
    refine cl_vi (w2 := fun (u : (Int32)) => w_X13_sum cy a0 u gvm gtd gfl grd gnv gac grc gwr gim) (As := [.int t1, .int (2 : Int32)]) (rest := []) ⟨hx, hb, hml, hown, hts⟩ (c_X13_right l dC dI cy a0 gth gvm gtd gfl grd gnv gac grc gim t1 (2 : Int32) H.size v1 hv2) (cwV 2 hts gX13_sum_X13_right rfl rfl rfl (by decide +kernel) ⟨Nat.le_of_ble_eq_true rfl, Nat.le_of_ble_eq_true rfl⟩) (va_recv hK hP (ci := 11) (q0 := 0) rfl rfl) cl_blind (cl_pre hK hP hD [0] (by decide) rfl) hP hD hS hA [0] rfl rfl hl.1 rfl (lv_room (Nat.le_of_ble_eq_true rfl)) dX13_sum_36 ⟨Nat.le_of_ble_eq_true rfl, Nat.le_of_ble_eq_true rfl⟩ ⟨rfl, rfl⟩ (fun _ => updM [0] [1, 2, 3, 4, 5, 6, 7, 8, 9, 10] [(a0 1, .inl (cy 1, 5, .inl (gvm.2.2.2.1))), (a0 2, .inl (cy 1, 5, .inl (gvm.2.2.2.2.1))), (a0 3, .inl (cy 1, 5, .inl (gvm.2.2.2.2.2.1))), (a0 4, .inl (cy 1, 25, .inl (gvm.2.2.2.2.2.2.1))), (a0 5, .inl (cy 1, 10, .inl (gvm.2.2.2.2.2.2.2.1))), (a0 6, .inl (cy 1, 10, .inl (gvm.2.2.2.2.2.2.2.2.1))), (a0 7, .inl (cy 1, 10, .inl (gvm.2.2.2.2.2.2.2.2.2.1))), (a0 8, .inl (cy 1, 10, .inl (gvm.2.2.2.2.2.2.2.2.2.2.1))), (a0 9, .inl (cy 1, 50, .inl (gvm.2.2.2.2.2.2.2.2.2.2.2))), (a0 31, .inl (cy 1, 6, .inl (gwr)))] 11 rfl rfl rfl rfl rfl (by decide +kernel) (by decide +kernel) rfl) (fun r u H locs hw hP hD hS => ?_)
    obtain ⟨rfl, rfl⟩ := hw
    have hP : va_P (dC, dI) vwCl (w_X13_sum cy a0 v1.2 gvm gtd gfl grd gnv gac grc gwr gim) H := hP
    have hD : va_D A (w_X13_sum cy a0 v1.2 gvm gtd gfl grd gnv gac grc gwr gim) := hD
    refine lv_if_ne (tgt := 44) hx hb dX13_sum_39 (by decide) (fun c3 => ?_) (fun c3 => ?_)
    · rw [if_neg c3] at h
      refine lv_iconst (v := (0 : Int32)) hx hb dX13_sum_44 (by decide) ?_
      refine lv_istore (lv' := [(4, .int (0 : Int32)), (0, .ref (a0 0)), (1, .int x1), (2, .int x2), (3, .int x3)]) hx hb dX13_sum_45 hl (by decide) rfl (fun ls hl => ?_)
      refine lv_iconst (v := (0 : Int32)) hx hb dX13_sum_47 (by decide) ?_
      refine lv_istore (lv' := [(5, .int (0 : Int32)), (4, .int (0 : Int32)), (0, .ref (a0 0)), (1, .int x1), (2, .int x2), (3, .int x3)]) hx hb dX13_sum_48 hl (by decide) rfl (fun ls hl => ?_)
      refine lv_iconst (v := (1 : Int32)) hx hb dX13_sum_50 (by decide) ?_
      refine lv_istore (lv' := [(6, .int (1 : Int32)), (5, .int (0 : Int32)), (4, .int (0 : Int32)), (0, .ref (a0 0)), (1, .int x1), (2, .int x2), (3, .int x3)]) hx hb dX13_sum_51 hl (by decide) rfl (fun ls hl => ?_)
      refine lv_iconst (v := (0 : Int32)) hx hb dX13_sum_53 (by decide) ?_
      refine lv_istore (lv' := [(7, .int (0 : Int32)), (6, .int (1 : Int32)), (5, .int (0 : Int32)), (4, .int (0 : Int32)), (0, .ref (a0 0)), (1, .int x1), (2, .int x2), (3, .int x3)]) hx hb dX13_sum_54 hl (by decide) rfl (fun ls hl => ?_)
      exact c56 fu v1.2 gwr x1 x2 x3 (0 : Int32) (0 : Int32) (1 : Int32) (0 : Int32) H locs ls h hP hD hS (lv_sub hl [4, 5, 6, 7, 3, 2, 1, 0] rfl)
    · rw [if_pos c3] at h
      refine lv_iconst (v := (0 : Int32)) hx hb dX13_sum_42 (by decide) ?_
      exact W.iret (v := (0 : Int32)) hx hb hr (fun t ht hW => by rw [hqq]; have hh := Option.some.inj h; exact ⟨⟨(0 : Int32), ((v1.2, gwr)), rfl, ⟨fst_of hh, snd_of hh⟩, by rw [ht]; exact hP, va_K.moved hW.alike hK⟩, hS.F ht⟩) hS.2.2 dX13_sum_43
  obtain ⟨H, hH⟩ : ∃ H : Heap, H = s.heap := ⟨_, rfl⟩
  obtain ⟨locs, hlocs⟩ : ∃ locs : List Loc, locs = [] := ⟨_, rfl⟩
  have hS : va_S A s.heap H locs := by rw [hH, hlocs]; exact hS
  rw [← hH] at hP
  suffices hg : W p l e rm_X13_sum s m aa below meth c H locs 0 0 (MQ below qq aa s 0 0 A) (F0 m 0 ls []) by subst hH; subst hlocs; exact hg
  unfold p_X13_sum at h
  refine lv_aload_n hx hb dX13_sum_0 rfl (lv_at hl 0 rfl) ?_
  refine lv_iconst (v := (0 : Int32)) hx hb dX13_sum_1 (by decide) ?_
  refine va_put (D := (dC, dI)) (ci := 11) (v := .int (0 : Int32)) (ty := .int) (C := RX13) (T := TX13) (N := 64) hx hb hts in_X13 tyX13 tyX13_ok nmX13 hown hK hP hD hS 0 rfl rfl 0 (by decide) lk2 (fun _ h9 => h9) rfl (by decide +kernel) rfl rfl (Nat.le_of_ble_eq_true rfl) dX13_sum_2 (fun H locs hP hD hS => ?_)
  have hP : va_P (dC, dI) vwCl (w_X13_sum cy a0 ((0 : Int32)) gvm gtd gfl grd gnv gac grc gwr gim) H := hP
  have hD : va_D A (w_X13_sum cy a0 ((0 : Int32)) gvm gtd gfl grd gnv gac grc gwr gim) := hD
  refine lv_aload_n hx hb dX13_sum_5 rfl (lv_at hl 0 rfl) ?_
  refine lv_iload_n hx hb dX13_sum_6 rfl (lv_at hl 1 rfl) ?_
  obtain ⟨v1, hv2, h⟩ := ok_bind h
  refine cl_vi (w2 := fun (u : (Int32)) => w_X13_sum cy a0 u gvm gtd gfl grd gnv gac grc gwr gim) (As := [.int x1]) (rest := []) ⟨hx, hb, hml, hown, hts⟩ (c_X13_isDoor l dC dI cy a0 (0 : Int32) gvm gtd gfl grd gnv gac grc gim x1 H.size v1 hv2) (cwV 1 hts gX13_sum_X13_isDoor rfl rfl rfl (by decide +kernel) ⟨Nat.le_of_ble_eq_true rfl, Nat.le_of_ble_eq_true rfl⟩) (va_recv hK hP (ci := 11) (q0 := 0) rfl rfl) cl_blind (cl_pre hK hP hD [0, 1, 2, 3, 4, 5, 6, 7, 8, 9] (by decide) rfl) hP hD hS hA [0, 1, 2, 3, 4, 5, 6, 7, 8, 9] rfl rfl hl.1 rfl (lv_room (Nat.le_of_ble_eq_true rfl)) dX13_sum_7 ⟨Nat.le_of_ble_eq_true rfl, Nat.le_of_ble_eq_true rfl⟩ ⟨rfl, rfl⟩ (fun _ => updM [0, 1, 2, 3, 4, 5, 6, 7, 8, 9] [10] [(a0 31, .inl (cy 1, 6, .inl (gwr)))] 11 rfl rfl rfl rfl rfl (by decide +kernel) (by decide +kernel) rfl) (fun r u H locs hw hP hD hS => ?_)
  obtain ⟨rfl, rfl⟩ := hw
  have hP : va_P (dC, dI) vwCl (w_X13_sum cy a0 v1.2 gvm gtd gfl grd gnv gac grc gwr gim) H := hP
  have hD : va_D A (w_X13_sum cy a0 v1.2 gvm gtd gfl grd gnv gac grc gwr gim) := hD
  refine lv_if_eq (tgt := 42) hx hb dX13_sum_10 (by decide) (fun c3 => ?_) (fun c3 => ?_)
  · rw [if_pos c3] at h
    refine lv_iconst (v := (0 : Int32)) hx hb dX13_sum_42 (by decide) ?_
    exact W.iret (v := (0 : Int32)) hx hb hr (fun t ht hW => by rw [hqq]; have hh := Option.some.inj h; exact ⟨⟨(0 : Int32), ((v1.2, gwr)), rfl, ⟨fst_of hh, snd_of hh⟩, by rw [ht]; exact hP, va_K.moved hW.alike hK⟩, hS.F ht⟩) hS.2.2 dX13_sum_43
  · rw [if_neg c3] at h
    refine lv_aload_n hx hb dX13_sum_13 rfl (lv_at hl 0 rfl) ?_
    refine lv_iload_n hx hb dX13_sum_14 rfl (lv_at hl 2 rfl) ?_
    obtain ⟨v4, hv5, h⟩ := ok_bind h
    refine cl_vi (w2 := fun (u : (Int32)) => w_X13_sum cy a0 u gvm gtd gfl grd gnv gac grc gwr gim) (As := [.int x2]) (rest := []) ⟨hx, hb, hml, hown, hts⟩ (c_X13_isDoor l dC dI cy a0 v1.2 gvm gtd gfl grd gnv gac grc gim x2 H.size v4 hv5) (cwV 1 hts gX13_sum_X13_isDoor rfl rfl rfl (by decide +kernel) ⟨Nat.le_of_ble_eq_true rfl, Nat.le_of_ble_eq_true rfl⟩) (va_recv hK hP (ci := 11) (q0 := 0) rfl rfl) cl_blind (cl_pre hK hP hD [0, 1, 2, 3, 4, 5, 6, 7, 8, 9] (by decide) rfl) hP hD hS hA [0, 1, 2, 3, 4, 5, 6, 7, 8, 9] rfl rfl hl.1 rfl (lv_room (Nat.le_of_ble_eq_true rfl)) dX13_sum_15 ⟨Nat.le_of_ble_eq_true rfl, Nat.le_of_ble_eq_true rfl⟩ ⟨rfl, rfl⟩ (fun _ => updM [0, 1, 2, 3, 4, 5, 6, 7, 8, 9] [10] [(a0 31, .inl (cy 1, 6, .inl (gwr)))] 11 rfl rfl rfl rfl rfl (by decide +kernel) (by decide +kernel) rfl) (fun r u H locs hw hP hD hS => ?_)
    obtain ⟨rfl, rfl⟩ := hw
    have hP : va_P (dC, dI) vwCl (w_X13_sum cy a0 v4.2 gvm gtd gfl grd gnv gac grc gwr gim) H := hP
    have hD : va_D A (w_X13_sum cy a0 v4.2 gvm gtd gfl grd gnv gac grc gwr gim) := hD
    refine lv_if_eq (tgt := 42) hx hb dX13_sum_18 (by decide) (fun c6 => ?_) (fun c6 => ?_)
    · rw [if_pos c6] at h
      refine lv_iconst (v := (0 : Int32)) hx hb dX13_sum_42 (by decide) ?_
      exact W.iret (v := (0 : Int32)) hx hb hr (fun t ht hW => by rw [hqq]; have hh := Option.some.inj h; exact ⟨⟨(0 : Int32), ((v4.2, gwr)), rfl, ⟨fst_of hh, snd_of hh⟩, by rw [ht]; exact hP, va_K.moved hW.alike hK⟩, hS.F ht⟩) hS.2.2 dX13_sum_43
    · rw [if_neg c6] at h
      refine lv_aload_n hx hb dX13_sum_21 rfl (lv_at hl 0 rfl) ?_
      refine lv_aload_n hx hb dX13_sum_22 rfl (lv_at hl 0 rfl) ?_
      refine va_get (D := (dC, dI)) (ci := 11) (v := .int gvm.2.2.1) (C := RX13) (T := TX13) (N := 64) hx hb hts in_X13 hown hK hP 0 rfl rfl 3 (by decide) lk1 (fun _ h9 => h9) rfl dX13_sum_23 ?_
      refine lv_iconst (v := (2 : Int32)) hx hb dX13_sum_26 (by decide) ?_
      refine lv_icmp_lt (tgt := 34) hx hb dX13_sum_27 (by decide) (fun c7 => ?_) (fun c7 => ?_)
      · rw [if_pos c7] at h
        refine lv_iconst (v := (0 : Int32)) hx hb dX13_sum_34 (by decide) ?_
        exact c35 () v4.2 gwr x1 x2 x3 (0 : Int32) H locs ls h hP hD hS (lv_sub hl [0, 1, 2, 3] rfl)
      · rw [if_neg c7] at h
        refine lv_iconst (v := (1 : Int32)) hx hb dX13_sum_30 (by decide) ?_
        refine lv_goto (tgt := 35) hx hb dX13_sum_31 (by decide) ?_
        exact c35 () v4.2 gwr x1 x2 x3 (1 : Int32) H locs ls h hP hD hS (lv_sub hl [0, 1, 2, 3] rfl)

abbrev w_X13_image (cy : Nat → ClassId) (a0 : Nat → Nat) (gth : Int32) (gvm : Int32 × Int32 × Int32 × (Nat → Int32) × (Nat → Int32) × (Nat → Int32) × (Nat → Int32) × (Nat → Int32) × (Nat → Int32) × (Nat → Int32) × (Nat → Int32) × (Nat → Int32)) (gtd : Int32) (gfl : Int32 × Int32) (grd : Int32 × Int32 × Int32 × Int32 × Int32 × Int32 × Int64 × (Nat → Int32)) (gnv : Int32 × Int32 × Int32 × Int32 × Int32 × (Nat → Int32) × (Nat → Int32) × (Nat → Int32) × (Nat → Int32) × (Nat → Int32) × (Nat → Int32)) (gac : Int32 × (Nat → Int32) × (Nat → Int32)) (grc : Int32 × (Nat → Int32)) (gim : Int32 × Int32 × Int32 × (Nat → Int32) × (Nat → Int32) × (Nat → Int32) × (Nat → Int32) × (Nat → Int32) × (Nat → Int32) × (Nat → Int32) × (Nat → Int32) × (Nat → Int32)) : va_W := [(a0 0, .inr (11, [.int (gth), .int (gvm.1), .int (gvm.2.1), .int (gvm.2.2.1), .ref (a0 1), .ref (a0 2), .ref (a0 3), .ref (a0 4), .ref (a0 5), .ref (a0 6), .ref (a0 7), .ref (a0 8), .ref (a0 9), .ref (a0 10), .int (gtd), .int (gfl.1), .int (gfl.2), .ref (a0 11), .int (grd.1), .int (grd.2.1), .int (grd.2.2.1), .int (grd.2.2.2.1), .int (grd.2.2.2.2.1), .int (grd.2.2.2.2.2.1), .long (grd.2.2.2.2.2.2.1), .ref (a0 12), .int (gnv.1), .int (gnv.2.1), .int (gnv.2.2.1), .int (gnv.2.2.2.1), .int (gnv.2.2.2.2.1), .ref (a0 13), .ref (a0 14), .ref (a0 15), .ref (a0 16), .ref (a0 17), .ref (a0 18), .int (gac.1), .ref (a0 19), .ref (a0 20), .ref (a0 21), .ref (a0 22), .ref (a0 23), .ref (a0 24), .ref (a0 25), .ref (a0 26), .ref (a0 27), .int (grc.1), .ref (a0 28), .ref (a0 29), .ref (a0 30), .ref (a0 31), .int (gim.1), .int (gim.2.1), .int (gim.2.2.1), .ref (a0 32), .ref (a0 33), .ref (a0 34), .ref (a0 35), .ref (a0 36), .ref (a0 37), .ref (a0 38), .ref (a0 39), .ref (a0 40)])), (a0 1, .inl (cy 1, 5, .inl (gvm.2.2.2.1))), (a0 2, .inl (cy 1, 5, .inl (gvm.2.2.2.2.1))), (a0 3, .inl (cy 1, 5, .inl (gvm.2.2.2.2.2.1))), (a0 4, .inl (cy 1, 25, .inl (gvm.2.2.2.2.2.2.1))), (a0 5, .inl (cy 1, 10, .inl (gvm.2.2.2.2.2.2.2.1))), (a0 6, .inl (cy 1, 10, .inl (gvm.2.2.2.2.2.2.2.2.1))), (a0 7, .inl (cy 1, 10, .inl (gvm.2.2.2.2.2.2.2.2.2.1))), (a0 8, .inl (cy 1, 10, .inl (gvm.2.2.2.2.2.2.2.2.2.2.1))), (a0 9, .inl (cy 1, 50, .inl (gvm.2.2.2.2.2.2.2.2.2.2.2))), (a0 28, .inl (cy 1, 36, .inl (grc.2))), (a0 32, .inl (cy 1, 5, .inl (gim.2.2.2.1))), (a0 33, .inl (cy 1, 5, .inl (gim.2.2.2.2.1))), (a0 34, .inl (cy 1, 25, .inl (gim.2.2.2.2.2.1))), (a0 35, .inl (cy 1, 10, .inl (gim.2.2.2.2.2.2.1))), (a0 36, .inl (cy 1, 10, .inl (gim.2.2.2.2.2.2.2.1))), (a0 37, .inl (cy 1, 10, .inl (gim.2.2.2.2.2.2.2.2.1))), (a0 38, .inl (cy 1, 10, .inl (gim.2.2.2.2.2.2.2.2.2.1))), (a0 39, .inl (cy 1, 50, .inl (gim.2.2.2.2.2.2.2.2.2.2.1))), (a0 40, .inl (cy 1, 36, .inl (gim.2.2.2.2.2.2.2.2.2.2.2)))]
abbrev rm_X13_image : Room := { frames := 1, cells := 0, slots := 0, locals := 23 }
set_option maxHeartbeats 1000000 in
set_option maxRecDepth 100000 in
theorem c_X13_image (l : Launch) (dC : Nat → ClassId) (dI : Nat → Nat → Nat) (cy : Nat → ClassId) (a0 : Nat → Nat) (gth : Int32) (gvm : Int32 × Int32 × Int32 × (Nat → Int32) × (Nat → Int32) × (Nat → Int32) × (Nat → Int32) × (Nat → Int32) × (Nat → Int32) × (Nat → Int32) × (Nat → Int32) × (Nat → Int32)) (gtd : Int32) (gfl : Int32 × Int32) (grd : Int32 × Int32 × Int32 × Int32 × Int32 × Int32 × Int64 × (Nat → Int32)) (gnv : Int32 × Int32 × Int32 × Int32 × Int32 × (Nat → Int32) × (Nat → Int32) × (Nat → Int32) × (Nat → Int32) × (Nat → Int32) × (Nat → Int32)) (gac : Int32 × (Nat → Int32) × (Nat → Int32)) (grc : Int32 × (Nat → Int32)) (gim : Int32 × Int32 × Int32 × (Nat → Int32) × (Nat → Int32) × (Nat → Int32) × (Nat → Int32) × (Nat → Int32) × (Nat → Int32) × (Nat → Int32) × (Nat → Int32) × (Nat → Int32)) (sz : Nat) (R0 : (Int32) × (Int32 × Int32 × Int32 × (Nat → Int32) × (Nat → Int32) × (Nat → Int32) × (Nat → Int32) × (Nat → Int32) × (Nat → Int32) × (Nat → Int32) × (Nat → Int32) × (Nat → Int32))) (h : p_X13_image gth gvm grc gim = some R0) : Met l yX13_image wsX13_image rm_X13_image (va_Pc [.ref (a0 0)] (prC dC dI cy (w_X13_image cy a0 gth gvm gtd gfl grd gnv gac grc gim) sz)) (va_Qv (fun (u : (Int32) × (Int32 × Int32 × Int32 × (Nat → Int32) × (Nat → Int32) × (Nat → Int32) × (Nat → Int32) × (Nat → Int32) × (Nat → Int32) × (Nat → Int32) × (Nat → Int32) × (Nat → Int32))) => u = R0) (fun (u : (Int32) × (Int32 × Int32 × Int32 × (Nat → Int32) × (Nat → Int32) × (Nat → Int32) × (Nat → Int32) × (Nat → Int32) × (Nat → Int32) × (Nat → Int32) × (Nat → Int32) × (Nat → Int32))) t => poC dC dI cy (w_X13_image cy a0 u.1 gvm gtd gfl grd gnv gac grc u.2) t) (va_A (w_X13_image cy a0 gth gvm gtd gfl grd gnv gac grc gim) sz)) 0 0 (va_A (w_X13_image cy a0 gth gvm gtd gfl grd gnv gac grc gim) sz) := by
  refine Met.ofW (cc := cX13_image) (maxL := 1) (ret := none) (by decide) rfl ?_
  intro p e s m aa below meth c s₁ B hml hv
  obtain ⟨haa, hsz, hP, hK, hD0⟩ := hv
  have hx := B.exec
  have hb := B.bytes
  have hr := B.returns
  have hts := atoms_spec (ws := wsX13_image) B.pre
  have hown : s.vm.findClass RX13 = some m.cls := findClass_of_methodNamed B.named
  have hlocks := B.notSynchronized
  subst hsz
  have hD := hD0.self (sz := s.heap.size)
  obtain ⟨qq, hqq⟩ : ∃ qq, qq = (va_Qv (fun (u : (Int32) × (Int32 × Int32 × Int32 × (Nat → Int32) × (Nat → Int32) × (Nat → Int32) × (Nat → Int32) × (Nat → Int32) × (Nat → Int32) × (Nat → Int32) × (Nat → Int32) × (Nat → Int32))) => u = R0) (fun (u : (Int32) × (Int32 × Int32 × Int32 × (Nat → Int32) × (Nat → Int32) × (Nat → Int32) × (Nat → Int32) × (Nat → Int32) × (Nat → Int32) × (Nat → Int32) × (Nat → Int32) × (Nat → Int32))) t => poC dC dI cy (w_X13_image cy a0 u.1 gvm gtd gfl grd gnv gac grc u.2) t) (va_A (w_X13_image cy a0 gth gvm gtd gfl grd gnv gac grc gim) s.heap.size)) := ⟨_, rfl⟩
  rw [← hqq]
  generalize hAe : va_A (w_X13_image cy a0 gth gvm gtd gfl grd gnv gac grc gim) s.heap.size = A at hD hqq ⊢
  have hA : ∀ q : Nat, s.heap.size ≤ q → A q := fun q h => by rw [← hAe]; exact Or.inr h
  have hS : va_S A s.heap s.heap [] := va_S.rf
  have hl := lv_entry ([.ref (a0 0)]) (n := 1) (Nat.le_of_ble_eq_true rfl)
  have hE : entryFrame m aa 1 = F0 m 0 ((lg_sl ([.ref (a0 0)]) ++ List.replicate (1 - (lg_sl ([.ref (a0 0)])).length) Slot.unset).toArray) [] := by rw [haa]; exact lg_entry_eq m _ 1
  refine W.eq hE ?_
  generalize (lg_sl ([.ref (a0 0)]) ++ List.replicate (1 - (lg_sl ([.ref (a0 0)])).length) Slot.unset).toArray = ls at hl ⊢
  have hl : lv_has ls 1 [(0, .ref (a0 0))] := hl
  change W p l e rm_X13_image s m aa below meth c s.heap [] 0 0 (MQ below qq aa s 0 0 A) (F0 m 0 ls [])
  have hS0 := hS
  have lk0 := hts (.fieldLink RX13 135 "GoatDoorsModel" "thrown" "I") (by decide +kernel)
  have lk1 := hts (.fieldLink RX13 264 "GoatDoorsModel" "hasImage" "Z") (by decide +kernel)
  have lk2 := hts (.fieldLink RX13 251 "GoatDoorsModel" "base" "I") (by decide +kernel)
  have lk3 := hts (.fieldLink RX13 380 "GoatDoorsModel" "imageBase" "I") (by decide +kernel)
  have lk4 := hts (.fieldLink RX13 261 "GoatDoorsModel" "receipts" "I") (by decide +kernel)
  have lk5 := hts (.fieldLink RX13 383 "GoatDoorsModel" "imageReceipts" "I") (by decide +kernel)
  have lk6 := hts (.fieldLink RX13 7 "GoatDoorsModel" "goats" "[I") (by decide +kernel)
  have lk7 := hts (.fieldLink RX13 108 "GoatDoorsModel" "imageGoats" "[I") (by decide +kernel)
  have lk8 := hts (.fieldLink RX13 16 "GoatDoorsModel" "hides" "[I") (by decide +kernel)
  have lk9 := hts (.fieldLink RX13 111 "GoatDoorsModel" "imageHides" "[I") (by decide +kernel)
  have lk10 := hts (.fieldLink RX13 19 "GoatDoorsModel" "lent" "[I") (by decide +kernel)
  have lk11 := hts (.fieldLink RX13 114 "GoatDoorsModel" "imageLent" "[I") (by decide +kernel)
  have lk12 := hts (.fieldLink RX13 22 "GoatDoorsModel" "has" "[I") (by decide +kernel)
  have lk13 := hts (.fieldLink RX13 117 "GoatDoorsModel" "imageHas" "[I") (by decide +kernel)
  have lk14 := hts (.fieldLink RX13 25 "GoatDoorsModel" "by" "[I") (by decide +kernel)
  have lk15 := hts (.fieldLink RX13 120 "GoatDoorsModel" "imageBy" "[I") (by decide +kernel)
  have lk16 := hts (.fieldLink RX13 28 "GoatDoorsModel" "to" "[I") (by decide +kernel)
  have lk17 := hts (.fieldLink RX13 123 "GoatDoorsModel" "imageTo" "[I") (by decide +kernel)
  have lk18 := hts (.fieldLink RX13 31 "GoatDoorsModel" "many" "[I") (by decide +kernel)
  have lk19 := hts (.fieldLink RX13 126 "GoatDoorsModel" "imageMany" "[I") (by decide +kernel)
  have lk20 := hts (.fieldLink RX13 34 "GoatDoorsModel" "figure" "[I") (by decide +kernel)
  have lk21 := hts (.fieldLink RX13 129 "GoatDoorsModel" "imageFigure" "[I") (by decide +kernel)
  have lk22 := hts (.fieldLink RX13 95 "GoatDoorsModel" "receipt" "[I") (by decide +kernel)
  have lk23 := hts (.fieldLink RX13 132 "GoatDoorsModel" "imageReceipt" "[I") (by decide +kernel)
  have in_X13 : ∀ w ∈ wsX130, w ∈ wsX13_image := by decide +kernel
  obtain ⟨H, hH⟩ : ∃ H : Heap, H = s.heap := ⟨_, rfl⟩
  obtain ⟨locs, hlocs⟩ : ∃ locs : List Loc, locs = [] := ⟨_, rfl⟩
  have hS : va_S A s.heap H locs := by rw [hH, hlocs]; exact hS
  rw [← hH] at hP
  suffices hg : W p l e rm_X13_image s m aa below meth c H locs 0 0 (MQ below qq aa s 0 0 A) (F0 m 0 ls []) by subst hH; subst hlocs; exact hg
  unfold p_X13_image at h
  refine lv_aload_n hx hb dX13_image_0 rfl (lv_at hl 0 rfl) ?_
  refine lv_iconst (v := (0 : Int32)) hx hb dX13_image_1 (by decide) ?_
  refine va_put (D := (dC, dI)) (ci := 11) (v := .int (0 : Int32)) (ty := .int) (C := RX13) (T := TX13) (N := 64) hx hb hts in_X13 tyX13 tyX13_ok nmX13 hown hK hP hD hS 0 rfl rfl 0 (by decide) lk0 (fun _ h9 => h9) rfl (by decide +kernel) rfl rfl (Nat.le_of_ble_eq_true rfl) dX13_image_2 (fun H locs hP hD hS => ?_)
  have hP : va_P (dC, dI) vwCl (w_X13_image cy a0 ((0 : Int32)) gvm gtd gfl grd gnv gac grc gim) H := hP
  have hD : va_D A (w_X13_image cy a0 ((0 : Int32)) gvm gtd gfl grd gnv gac grc gim) := hD
  refine lv_aload_n hx hb dX13_image_5 rfl (lv_at hl 0 rfl) ?_
  refine lv_iconst (v := (1 : Int32)) hx hb dX13_image_6 (by decide) ?_
  refine va_put (D := (dC, dI)) (ci := 11) (v := .int (1 : Int32)) (ty := .boolean) (C := RX13) (T := TX13) (N := 64) hx hb hts in_X13 tyX13 tyX13_ok nmX13 hown hK hP hD hS 0 rfl rfl 52 (by decide) lk1 (fun _ h9 => h9) rfl (by decide +kernel) rfl rfl (Nat.le_of_ble_eq_true rfl) dX13_image_7 (fun H locs hP hD hS => ?_)
  have hP : va_P (dC, dI) vwCl (w_X13_image cy a0 ((0 : Int32)) gvm gtd gfl grd gnv gac grc (((1 : Int32), gim.2))) H := hP
  have hD : va_D A (w_X13_image cy a0 ((0 : Int32)) gvm gtd gfl grd gnv gac grc (((1 : Int32), gim.2))) := hD
  refine lv_aload_n hx hb dX13_image_10 rfl (lv_at hl 0 rfl) ?_
  refine lv_aload_n hx hb dX13_image_11 rfl (lv_at hl 0 rfl) ?_
  refine va_get (D := (dC, dI)) (ci := 11) (v := .int gvm.2.2.1) (C := RX13) (T := TX13) (N := 64) hx hb hts in_X13 hown hK hP 0 rfl rfl 3 (by decide) lk2 (fun _ h9 => h9) rfl dX13_image_12 ?_
  refine va_put (D := (dC, dI)) (ci := 11) (v := .int gvm.2.2.1) (ty := .int) (C := RX13) (T := TX13) (N := 64) hx hb hts in_X13 tyX13 tyX13_ok nmX13 hown hK hP hD hS 0 rfl rfl 53 (by decide) lk3 (fun _ h9 => h9) rfl (by decide +kernel) rfl rfl (Nat.le_of_ble_eq_true rfl) dX13_image_15 (fun H locs hP hD hS => ?_)
  have hP : va_P (dC, dI) vwCl (w_X13_image cy a0 ((0 : Int32)) gvm gtd gfl grd gnv gac grc (((1 : Int32), gvm.2.2.1, gim.2.2))) H := hP
  have hD : va_D A (w_X13_image cy a0 ((0 : Int32)) gvm gtd gfl grd gnv gac grc (((1 : Int32), gvm.2.2.1, gim.2.2))) := hD
  refine lv_aload_n hx hb dX13_image_18 rfl (lv_at hl 0 rfl) ?_
  refine lv_aload_n hx hb dX13_image_19 rfl (lv_at hl 0 rfl) ?_
  refine va_get (D := (dC, dI)) (ci := 11) (v := .int grc.1) (C := RX13) (T := TX13) (N := 64) hx hb hts in_X13 hown hK hP 0 rfl rfl 47 (by decide) lk4 (fun _ h9 => h9) rfl dX13_image_20 ?_
  refine va_put (D := (dC, dI)) (ci := 11) (v := .int grc.1) (ty := .int) (C := RX13) (T := TX13) (N := 64) hx hb hts in_X13 tyX13 tyX13_ok nmX13 hown hK hP hD hS 0 rfl rfl 54 (by decide) lk5 (fun _ h9 => h9) rfl (by decide +kernel) rfl rfl (Nat.le_of_ble_eq_true rfl) dX13_image_23 (fun H locs hP hD hS => ?_)
  have hP : va_P (dC, dI) vwCl (w_X13_image cy a0 ((0 : Int32)) gvm gtd gfl grd gnv gac grc (((1 : Int32), gvm.2.2.1, grc.1, gim.2.2.2))) H := hP
  have hD : va_D A (w_X13_image cy a0 ((0 : Int32)) gvm gtd gfl grd gnv gac grc (((1 : Int32), gvm.2.2.1, grc.1, gim.2.2.2))) := hD
  refine lv_aload_n hx hb dX13_image_26 rfl (lv_at hl 0 rfl) ?_
  refine lv_aload_n hx hb dX13_image_27 rfl (lv_at hl 0 rfl) ?_
  refine va_get (D := (dC, dI)) (ci := 11) (v := .ref (a0 1)) (C := RX13) (T := TX13) (N := 64) hx hb hts in_X13 hown hK hP 0 rfl rfl 4 (by decide) lk6 (fun _ h9 => h9) rfl dX13_image_28 ?_
  refine lv_aload_n hx hb dX13_image_31 rfl (lv_at hl 0 rfl) ?_
  refine va_get (D := (dC, dI)) (ci := 11) (v := .ref (a0 32)) (C := RX13) (T := TX13) (N := 64) hx hb hts in_X13 hown hK hP 0 rfl rfl 55 (by decide) lk7 (fun _ h9 => h9) rfl dX13_image_32 ?_
  obtain ⟨v1, hv2, h⟩ := ok_bind h
  refine cl_vv (w2 := fun (u : ((Nat → Int32))) => w_X13_image cy a0 ((0 : Int32)) gvm gtd gfl grd gnv gac grc (((1 : Int32), gvm.2.2.1, grc.1, u, gim.2.2.2.2))) (As := [.ref (a0 1), .ref (a0 32)]) (rest := []) ⟨hx, hb, hml, hown, hts⟩ (c_X13_copies l dC dI cy a0 (fun k => a0 (k + 1)) (fun k => a0 (k + 32)) 5 5 gvm.2.2.2.1 gim.2.2.2.1 H.size v1 hv2) (cwV 2 hts gX13_image_X13_copies rfl rfl rfl (by decide +kernel) ⟨Nat.le_of_ble_eq_true rfl, Nat.le_of_ble_eq_true rfl⟩) (va_recv hK hP (ci := 11) (q0 := 0) rfl rfl) cl_blind (cl_pre hK hP hD [1, 11] (by decide) rfl) hP hD hS hA [1, 11] rfl rfl hl.1 rfl (lv_room (Nat.le_of_ble_eq_true rfl)) dX13_image_35 ⟨Nat.le_of_ble_eq_true rfl, Nat.le_of_ble_eq_true rfl⟩ ⟨rfl, rfl⟩ (fun _ => updM [1, 11] [0, 2, 3, 4, 5, 6, 7, 8, 9, 10, 12, 13, 14, 15, 16, 17, 18, 19] [(a0 0, .inr (11, [.int ((0 : Int32)), .int (gvm.1), .int (gvm.2.1), .int (gvm.2.2.1), .ref (a0 1), .ref (a0 2), .ref (a0 3), .ref (a0 4), .ref (a0 5), .ref (a0 6), .ref (a0 7), .ref (a0 8), .ref (a0 9), .ref (a0 10), .int (gtd), .int (gfl.1), .int (gfl.2), .ref (a0 11), .int (grd.1), .int (grd.2.1), .int (grd.2.2.1), .int (grd.2.2.2.1), .int (grd.2.2.2.2.1), .int (grd.2.2.2.2.2.1), .long (grd.2.2.2.2.2.2.1), .ref (a0 12), .int (gnv.1), .int (gnv.2.1), .int (gnv.2.2.1), .int (gnv.2.2.2.1), .int (gnv.2.2.2.2.1), .ref (a0 13), .ref (a0 14), .ref (a0 15), .ref (a0 16), .ref (a0 17), .ref (a0 18), .int (gac.1), .ref (a0 19), .ref (a0 20), .ref (a0 21), .ref (a0 22), .ref (a0 23), .ref (a0 24), .ref (a0 25), .ref (a0 26), .ref (a0 27), .int (grc.1), .ref (a0 28), .ref (a0 29), .ref (a0 30), .ref (a0 31), .int ((1 : Int32)), .int (gvm.2.2.1), .int (grc.1), .ref (a0 32), .ref (a0 33), .ref (a0 34), .ref (a0 35), .ref (a0 36), .ref (a0 37), .ref (a0 38), .ref (a0 39), .ref (a0 40)])), (a0 2, .inl (cy 1, 5, .inl (gvm.2.2.2.2.1))), (a0 3, .inl (cy 1, 5, .inl (gvm.2.2.2.2.2.1))), (a0 4, .inl (cy 1, 25, .inl (gvm.2.2.2.2.2.2.1))), (a0 5, .inl (cy 1, 10, .inl (gvm.2.2.2.2.2.2.2.1))), (a0 6, .inl (cy 1, 10, .inl (gvm.2.2.2.2.2.2.2.2.1))), (a0 7, .inl (cy 1, 10, .inl (gvm.2.2.2.2.2.2.2.2.2.1))), (a0 8, .inl (cy 1, 10, .inl (gvm.2.2.2.2.2.2.2.2.2.2.1))), (a0 9, .inl (cy 1, 50, .inl (gvm.2.2.2.2.2.2.2.2.2.2.2))), (a0 28, .inl (cy 1, 36, .inl (grc.2))), (a0 33, .inl (cy 1, 5, .inl (gim.2.2.2.2.1))), (a0 34, .inl (cy 1, 25, .inl (gim.2.2.2.2.2.1))), (a0 35, .inl (cy 1, 10, .inl (gim.2.2.2.2.2.2.1))), (a0 36, .inl (cy 1, 10, .inl (gim.2.2.2.2.2.2.2.1))), (a0 37, .inl (cy 1, 10, .inl (gim.2.2.2.2.2.2.2.2.1))), (a0 38, .inl (cy 1, 10, .inl (gim.2.2.2.2.2.2.2.2.2.1))), (a0 39, .inl (cy 1, 50, .inl (gim.2.2.2.2.2.2.2.2.2.2.1))), (a0 40, .inl (cy 1, 36, .inl (gim.2.2.2.2.2.2.2.2.2.2.2)))] 20 rfl rfl rfl rfl rfl (by decide +kernel) (by decide +kernel) rfl) (fun u H locs hw hP hD hS => ?_)
  have hw := hw.symm
  subst hw
  have hP : va_P (dC, dI) vwCl (w_X13_image cy a0 ((0 : Int32)) gvm gtd gfl grd gnv gac grc (((1 : Int32), gvm.2.2.1, grc.1, v1, gim.2.2.2.2))) H := hP
  have hD : va_D A (w_X13_image cy a0 ((0 : Int32)) gvm gtd gfl grd gnv gac grc (((1 : Int32), gvm.2.2.1, grc.1, v1, gim.2.2.2.2))) := hD
  refine lv_aload_n hx hb dX13_image_38 rfl (lv_at hl 0 rfl) ?_
  refine lv_aload_n hx hb dX13_image_39 rfl (lv_at hl 0 rfl) ?_
  refine va_get (D := (dC, dI)) (ci := 11) (v := .ref (a0 3)) (C := RX13) (T := TX13) (N := 64) hx hb hts in_X13 hown hK hP 0 rfl rfl 6 (by decide) lk8 (fun _ h9 => h9) rfl dX13_image_40 ?_
  refine lv_aload_n hx hb dX13_image_43 rfl (lv_at hl 0 rfl) ?_
  refine va_get (D := (dC, dI)) (ci := 11) (v := .ref (a0 33)) (C := RX13) (T := TX13) (N := 64) hx hb hts in_X13 hown hK hP 0 rfl rfl 56 (by decide) lk9 (fun _ h9 => h9) rfl dX13_image_44 ?_
  obtain ⟨v3, hv4, h⟩ := ok_bind h
  refine cl_vv (w2 := fun (u : ((Nat → Int32))) => w_X13_image cy a0 ((0 : Int32)) gvm gtd gfl grd gnv gac grc (((1 : Int32), gvm.2.2.1, grc.1, v1, u, gim.2.2.2.2.2))) (As := [.ref (a0 3), .ref (a0 33)]) (rest := []) ⟨hx, hb, hml, hown, hts⟩ (c_X13_copies l dC dI cy a0 (fun k => a0 (k + 3)) (fun k => a0 (k + 33)) 5 5 gvm.2.2.2.2.2.1 gim.2.2.2.2.1 H.size v3 hv4) (cwV 2 hts gX13_image_X13_copies rfl rfl rfl (by decide +kernel) ⟨Nat.le_of_ble_eq_true rfl, Nat.le_of_ble_eq_true rfl⟩) (va_recv hK hP (ci := 11) (q0 := 0) rfl rfl) cl_blind (cl_pre hK hP hD [3, 12] (by decide) rfl) hP hD hS hA [3, 12] rfl rfl hl.1 rfl (lv_room (Nat.le_of_ble_eq_true rfl)) dX13_image_47 ⟨Nat.le_of_ble_eq_true rfl, Nat.le_of_ble_eq_true rfl⟩ ⟨rfl, rfl⟩ (fun _ => updM [3, 12] [0, 1, 2, 4, 5, 6, 7, 8, 9, 10, 11, 13, 14, 15, 16, 17, 18, 19] [(a0 0, .inr (11, [.int ((0 : Int32)), .int (gvm.1), .int (gvm.2.1), .int (gvm.2.2.1), .ref (a0 1), .ref (a0 2), .ref (a0 3), .ref (a0 4), .ref (a0 5), .ref (a0 6), .ref (a0 7), .ref (a0 8), .ref (a0 9), .ref (a0 10), .int (gtd), .int (gfl.1), .int (gfl.2), .ref (a0 11), .int (grd.1), .int (grd.2.1), .int (grd.2.2.1), .int (grd.2.2.2.1), .int (grd.2.2.2.2.1), .int (grd.2.2.2.2.2.1), .long (grd.2.2.2.2.2.2.1), .ref (a0 12), .int (gnv.1), .int (gnv.2.1), .int (gnv.2.2.1), .int (gnv.2.2.2.1), .int (gnv.2.2.2.2.1), .ref (a0 13), .ref (a0 14), .ref (a0 15), .ref (a0 16), .ref (a0 17), .ref (a0 18), .int (gac.1), .ref (a0 19), .ref (a0 20), .ref (a0 21), .ref (a0 22), .ref (a0 23), .ref (a0 24), .ref (a0 25), .ref (a0 26), .ref (a0 27), .int (grc.1), .ref (a0 28), .ref (a0 29), .ref (a0 30), .ref (a0 31), .int ((1 : Int32)), .int (gvm.2.2.1), .int (grc.1), .ref (a0 32), .ref (a0 33), .ref (a0 34), .ref (a0 35), .ref (a0 36), .ref (a0 37), .ref (a0 38), .ref (a0 39), .ref (a0 40)])), (a0 1, .inl (cy 1, 5, .inl (gvm.2.2.2.1))), (a0 2, .inl (cy 1, 5, .inl (gvm.2.2.2.2.1))), (a0 4, .inl (cy 1, 25, .inl (gvm.2.2.2.2.2.2.1))), (a0 5, .inl (cy 1, 10, .inl (gvm.2.2.2.2.2.2.2.1))), (a0 6, .inl (cy 1, 10, .inl (gvm.2.2.2.2.2.2.2.2.1))), (a0 7, .inl (cy 1, 10, .inl (gvm.2.2.2.2.2.2.2.2.2.1))), (a0 8, .inl (cy 1, 10, .inl (gvm.2.2.2.2.2.2.2.2.2.2.1))), (a0 9, .inl (cy 1, 50, .inl (gvm.2.2.2.2.2.2.2.2.2.2.2))), (a0 28, .inl (cy 1, 36, .inl (grc.2))), (a0 32, .inl (cy 1, 5, .inl (v1))), (a0 34, .inl (cy 1, 25, .inl (gim.2.2.2.2.2.1))), (a0 35, .inl (cy 1, 10, .inl (gim.2.2.2.2.2.2.1))), (a0 36, .inl (cy 1, 10, .inl (gim.2.2.2.2.2.2.2.1))), (a0 37, .inl (cy 1, 10, .inl (gim.2.2.2.2.2.2.2.2.1))), (a0 38, .inl (cy 1, 10, .inl (gim.2.2.2.2.2.2.2.2.2.1))), (a0 39, .inl (cy 1, 50, .inl (gim.2.2.2.2.2.2.2.2.2.2.1))), (a0 40, .inl (cy 1, 36, .inl (gim.2.2.2.2.2.2.2.2.2.2.2)))] 20 rfl rfl rfl rfl rfl (by decide +kernel) (by decide +kernel) rfl) (fun u H locs hw hP hD hS => ?_)
  have hw := hw.symm
  subst hw
  have hP : va_P (dC, dI) vwCl (w_X13_image cy a0 ((0 : Int32)) gvm gtd gfl grd gnv gac grc (((1 : Int32), gvm.2.2.1, grc.1, v1, v3, gim.2.2.2.2.2))) H := hP
  have hD : va_D A (w_X13_image cy a0 ((0 : Int32)) gvm gtd gfl grd gnv gac grc (((1 : Int32), gvm.2.2.1, grc.1, v1, v3, gim.2.2.2.2.2))) := hD
  refine lv_aload_n hx hb dX13_image_50 rfl (lv_at hl 0 rfl) ?_
  refine lv_aload_n hx hb dX13_image_51 rfl (lv_at hl 0 rfl) ?_
  refine va_get (D := (dC, dI)) (ci := 11) (v := .ref (a0 4)) (C := RX13) (T := TX13) (N := 64) hx hb hts in_X13 hown hK hP 0 rfl rfl 7 (by decide) lk10 (fun _ h9 => h9) rfl dX13_image_52 ?_
  refine lv_aload_n hx hb dX13_image_55 rfl (lv_at hl 0 rfl) ?_
  refine va_get (D := (dC, dI)) (ci := 11) (v := .ref (a0 34)) (C := RX13) (T := TX13) (N := 64) hx hb hts in_X13 hown hK hP 0 rfl rfl 57 (by decide) lk11 (fun _ h9 => h9) rfl dX13_image_56 ?_
  obtain ⟨v5, hv6, h⟩ := ok_bind h
  refine cl_vv (w2 := fun (u : ((Nat → Int32))) => w_X13_image cy a0 ((0 : Int32)) gvm gtd gfl grd gnv gac grc (((1 : Int32), gvm.2.2.1, grc.1, v1, v3, u, gim.2.2.2.2.2.2))) (As := [.ref (a0 4), .ref (a0 34)]) (rest := []) ⟨hx, hb, hml, hown, hts⟩ (c_X13_copies l dC dI cy a0 (fun k => a0 (k + 4)) (fun k => a0 (k + 34)) 25 25 gvm.2.2.2.2.2.2.1 gim.2.2.2.2.2.1 H.size v5 hv6) (cwV 2 hts gX13_image_X13_copies rfl rfl rfl (by decide +kernel) ⟨Nat.le_of_ble_eq_true rfl, Nat.le_of_ble_eq_true rfl⟩) (va_recv hK hP (ci := 11) (q0 := 0) rfl rfl) cl_blind (cl_pre hK hP hD [4, 13] (by decide) rfl) hP hD hS hA [4, 13] rfl rfl hl.1 rfl (lv_room (Nat.le_of_ble_eq_true rfl)) dX13_image_59 ⟨Nat.le_of_ble_eq_true rfl, Nat.le_of_ble_eq_true rfl⟩ ⟨rfl, rfl⟩ (fun _ => updM [4, 13] [0, 1, 2, 3, 5, 6, 7, 8, 9, 10, 11, 12, 14, 15, 16, 17, 18, 19] [(a0 0, .inr (11, [.int ((0 : Int32)), .int (gvm.1), .int (gvm.2.1), .int (gvm.2.2.1), .ref (a0 1), .ref (a0 2), .ref (a0 3), .ref (a0 4), .ref (a0 5), .ref (a0 6), .ref (a0 7), .ref (a0 8), .ref (a0 9), .ref (a0 10), .int (gtd), .int (gfl.1), .int (gfl.2), .ref (a0 11), .int (grd.1), .int (grd.2.1), .int (grd.2.2.1), .int (grd.2.2.2.1), .int (grd.2.2.2.2.1), .int (grd.2.2.2.2.2.1), .long (grd.2.2.2.2.2.2.1), .ref (a0 12), .int (gnv.1), .int (gnv.2.1), .int (gnv.2.2.1), .int (gnv.2.2.2.1), .int (gnv.2.2.2.2.1), .ref (a0 13), .ref (a0 14), .ref (a0 15), .ref (a0 16), .ref (a0 17), .ref (a0 18), .int (gac.1), .ref (a0 19), .ref (a0 20), .ref (a0 21), .ref (a0 22), .ref (a0 23), .ref (a0 24), .ref (a0 25), .ref (a0 26), .ref (a0 27), .int (grc.1), .ref (a0 28), .ref (a0 29), .ref (a0 30), .ref (a0 31), .int ((1 : Int32)), .int (gvm.2.2.1), .int (grc.1), .ref (a0 32), .ref (a0 33), .ref (a0 34), .ref (a0 35), .ref (a0 36), .ref (a0 37), .ref (a0 38), .ref (a0 39), .ref (a0 40)])), (a0 1, .inl (cy 1, 5, .inl (gvm.2.2.2.1))), (a0 2, .inl (cy 1, 5, .inl (gvm.2.2.2.2.1))), (a0 3, .inl (cy 1, 5, .inl (gvm.2.2.2.2.2.1))), (a0 5, .inl (cy 1, 10, .inl (gvm.2.2.2.2.2.2.2.1))), (a0 6, .inl (cy 1, 10, .inl (gvm.2.2.2.2.2.2.2.2.1))), (a0 7, .inl (cy 1, 10, .inl (gvm.2.2.2.2.2.2.2.2.2.1))), (a0 8, .inl (cy 1, 10, .inl (gvm.2.2.2.2.2.2.2.2.2.2.1))), (a0 9, .inl (cy 1, 50, .inl (gvm.2.2.2.2.2.2.2.2.2.2.2))), (a0 28, .inl (cy 1, 36, .inl (grc.2))), (a0 32, .inl (cy 1, 5, .inl (v1))), (a0 33, .inl (cy 1, 5, .inl (v3))), (a0 35, .inl (cy 1, 10, .inl (gim.2.2.2.2.2.2.1))), (a0 36, .inl (cy 1, 10, .inl (gim.2.2.2.2.2.2.2.1))), (a0 37, .inl (cy 1, 10, .inl (gim.2.2.2.2.2.2.2.2.1))), (a0 38, .inl (cy 1, 10, .inl (gim.2.2.2.2.2.2.2.2.2.1))), (a0 39, .inl (cy 1, 50, .inl (gim.2.2.2.2.2.2.2.2.2.2.1))), (a0 40, .inl (cy 1, 36, .inl (gim.2.2.2.2.2.2.2.2.2.2.2)))] 20 rfl rfl rfl rfl rfl (by decide +kernel) (by decide +kernel) rfl) (fun u H locs hw hP hD hS => ?_)
  have hw := hw.symm
  subst hw
  have hP : va_P (dC, dI) vwCl (w_X13_image cy a0 ((0 : Int32)) gvm gtd gfl grd gnv gac grc (((1 : Int32), gvm.2.2.1, grc.1, v1, v3, v5, gim.2.2.2.2.2.2))) H := hP
  have hD : va_D A (w_X13_image cy a0 ((0 : Int32)) gvm gtd gfl grd gnv gac grc (((1 : Int32), gvm.2.2.1, grc.1, v1, v3, v5, gim.2.2.2.2.2.2))) := hD
  refine lv_aload_n hx hb dX13_image_62 rfl (lv_at hl 0 rfl) ?_
  refine lv_aload_n hx hb dX13_image_63 rfl (lv_at hl 0 rfl) ?_
  refine va_get (D := (dC, dI)) (ci := 11) (v := .ref (a0 5)) (C := RX13) (T := TX13) (N := 64) hx hb hts in_X13 hown hK hP 0 rfl rfl 8 (by decide) lk12 (fun _ h9 => h9) rfl dX13_image_64 ?_
  refine lv_aload_n hx hb dX13_image_67 rfl (lv_at hl 0 rfl) ?_
  refine va_get (D := (dC, dI)) (ci := 11) (v := .ref (a0 35)) (C := RX13) (T := TX13) (N := 64) hx hb hts in_X13 hown hK hP 0 rfl rfl 58 (by decide) lk13 (fun _ h9 => h9) rfl dX13_image_68 ?_
  obtain ⟨v7, hv8, h⟩ := ok_bind h
  refine cl_vv (w2 := fun (u : ((Nat → Int32))) => w_X13_image cy a0 ((0 : Int32)) gvm gtd gfl grd gnv gac grc (((1 : Int32), gvm.2.2.1, grc.1, v1, v3, v5, u, gim.2.2.2.2.2.2.2))) (As := [.ref (a0 5), .ref (a0 35)]) (rest := []) ⟨hx, hb, hml, hown, hts⟩ (c_X13_copies l dC dI cy a0 (fun k => a0 (k + 5)) (fun k => a0 (k + 35)) 10 10 gvm.2.2.2.2.2.2.2.1 gim.2.2.2.2.2.2.1 H.size v7 hv8) (cwV 2 hts gX13_image_X13_copies rfl rfl rfl (by decide +kernel) ⟨Nat.le_of_ble_eq_true rfl, Nat.le_of_ble_eq_true rfl⟩) (va_recv hK hP (ci := 11) (q0 := 0) rfl rfl) cl_blind (cl_pre hK hP hD [5, 14] (by decide) rfl) hP hD hS hA [5, 14] rfl rfl hl.1 rfl (lv_room (Nat.le_of_ble_eq_true rfl)) dX13_image_71 ⟨Nat.le_of_ble_eq_true rfl, Nat.le_of_ble_eq_true rfl⟩ ⟨rfl, rfl⟩ (fun _ => updM [5, 14] [0, 1, 2, 3, 4, 6, 7, 8, 9, 10, 11, 12, 13, 15, 16, 17, 18, 19] [(a0 0, .inr (11, [.int ((0 : Int32)), .int (gvm.1), .int (gvm.2.1), .int (gvm.2.2.1), .ref (a0 1), .ref (a0 2), .ref (a0 3), .ref (a0 4), .ref (a0 5), .ref (a0 6), .ref (a0 7), .ref (a0 8), .ref (a0 9), .ref (a0 10), .int (gtd), .int (gfl.1), .int (gfl.2), .ref (a0 11), .int (grd.1), .int (grd.2.1), .int (grd.2.2.1), .int (grd.2.2.2.1), .int (grd.2.2.2.2.1), .int (grd.2.2.2.2.2.1), .long (grd.2.2.2.2.2.2.1), .ref (a0 12), .int (gnv.1), .int (gnv.2.1), .int (gnv.2.2.1), .int (gnv.2.2.2.1), .int (gnv.2.2.2.2.1), .ref (a0 13), .ref (a0 14), .ref (a0 15), .ref (a0 16), .ref (a0 17), .ref (a0 18), .int (gac.1), .ref (a0 19), .ref (a0 20), .ref (a0 21), .ref (a0 22), .ref (a0 23), .ref (a0 24), .ref (a0 25), .ref (a0 26), .ref (a0 27), .int (grc.1), .ref (a0 28), .ref (a0 29), .ref (a0 30), .ref (a0 31), .int ((1 : Int32)), .int (gvm.2.2.1), .int (grc.1), .ref (a0 32), .ref (a0 33), .ref (a0 34), .ref (a0 35), .ref (a0 36), .ref (a0 37), .ref (a0 38), .ref (a0 39), .ref (a0 40)])), (a0 1, .inl (cy 1, 5, .inl (gvm.2.2.2.1))), (a0 2, .inl (cy 1, 5, .inl (gvm.2.2.2.2.1))), (a0 3, .inl (cy 1, 5, .inl (gvm.2.2.2.2.2.1))), (a0 4, .inl (cy 1, 25, .inl (gvm.2.2.2.2.2.2.1))), (a0 6, .inl (cy 1, 10, .inl (gvm.2.2.2.2.2.2.2.2.1))), (a0 7, .inl (cy 1, 10, .inl (gvm.2.2.2.2.2.2.2.2.2.1))), (a0 8, .inl (cy 1, 10, .inl (gvm.2.2.2.2.2.2.2.2.2.2.1))), (a0 9, .inl (cy 1, 50, .inl (gvm.2.2.2.2.2.2.2.2.2.2.2))), (a0 28, .inl (cy 1, 36, .inl (grc.2))), (a0 32, .inl (cy 1, 5, .inl (v1))), (a0 33, .inl (cy 1, 5, .inl (v3))), (a0 34, .inl (cy 1, 25, .inl (v5))), (a0 36, .inl (cy 1, 10, .inl (gim.2.2.2.2.2.2.2.1))), (a0 37, .inl (cy 1, 10, .inl (gim.2.2.2.2.2.2.2.2.1))), (a0 38, .inl (cy 1, 10, .inl (gim.2.2.2.2.2.2.2.2.2.1))), (a0 39, .inl (cy 1, 50, .inl (gim.2.2.2.2.2.2.2.2.2.2.1))), (a0 40, .inl (cy 1, 36, .inl (gim.2.2.2.2.2.2.2.2.2.2.2)))] 20 rfl rfl rfl rfl rfl (by decide +kernel) (by decide +kernel) rfl) (fun u H locs hw hP hD hS => ?_)
  have hw := hw.symm
  subst hw
  have hP : va_P (dC, dI) vwCl (w_X13_image cy a0 ((0 : Int32)) gvm gtd gfl grd gnv gac grc (((1 : Int32), gvm.2.2.1, grc.1, v1, v3, v5, v7, gim.2.2.2.2.2.2.2))) H := hP
  have hD : va_D A (w_X13_image cy a0 ((0 : Int32)) gvm gtd gfl grd gnv gac grc (((1 : Int32), gvm.2.2.1, grc.1, v1, v3, v5, v7, gim.2.2.2.2.2.2.2))) := hD
  refine lv_aload_n hx hb dX13_image_74 rfl (lv_at hl 0 rfl) ?_
  refine lv_aload_n hx hb dX13_image_75 rfl (lv_at hl 0 rfl) ?_
  refine va_get (D := (dC, dI)) (ci := 11) (v := .ref (a0 6)) (C := RX13) (T := TX13) (N := 64) hx hb hts in_X13 hown hK hP 0 rfl rfl 9 (by decide) lk14 (fun _ h9 => h9) rfl dX13_image_76 ?_
  refine lv_aload_n hx hb dX13_image_79 rfl (lv_at hl 0 rfl) ?_
  refine va_get (D := (dC, dI)) (ci := 11) (v := .ref (a0 36)) (C := RX13) (T := TX13) (N := 64) hx hb hts in_X13 hown hK hP 0 rfl rfl 59 (by decide) lk15 (fun _ h9 => h9) rfl dX13_image_80 ?_
  obtain ⟨v9, hv10, h⟩ := ok_bind h
  refine cl_vv (w2 := fun (u : ((Nat → Int32))) => w_X13_image cy a0 ((0 : Int32)) gvm gtd gfl grd gnv gac grc (((1 : Int32), gvm.2.2.1, grc.1, v1, v3, v5, v7, u, gim.2.2.2.2.2.2.2.2))) (As := [.ref (a0 6), .ref (a0 36)]) (rest := []) ⟨hx, hb, hml, hown, hts⟩ (c_X13_copies l dC dI cy a0 (fun k => a0 (k + 6)) (fun k => a0 (k + 36)) 10 10 gvm.2.2.2.2.2.2.2.2.1 gim.2.2.2.2.2.2.2.1 H.size v9 hv10) (cwV 2 hts gX13_image_X13_copies rfl rfl rfl (by decide +kernel) ⟨Nat.le_of_ble_eq_true rfl, Nat.le_of_ble_eq_true rfl⟩) (va_recv hK hP (ci := 11) (q0 := 0) rfl rfl) cl_blind (cl_pre hK hP hD [6, 15] (by decide) rfl) hP hD hS hA [6, 15] rfl rfl hl.1 rfl (lv_room (Nat.le_of_ble_eq_true rfl)) dX13_image_83 ⟨Nat.le_of_ble_eq_true rfl, Nat.le_of_ble_eq_true rfl⟩ ⟨rfl, rfl⟩ (fun _ => updM [6, 15] [0, 1, 2, 3, 4, 5, 7, 8, 9, 10, 11, 12, 13, 14, 16, 17, 18, 19] [(a0 0, .inr (11, [.int ((0 : Int32)), .int (gvm.1), .int (gvm.2.1), .int (gvm.2.2.1), .ref (a0 1), .ref (a0 2), .ref (a0 3), .ref (a0 4), .ref (a0 5), .ref (a0 6), .ref (a0 7), .ref (a0 8), .ref (a0 9), .ref (a0 10), .int (gtd), .int (gfl.1), .int (gfl.2), .ref (a0 11), .int (grd.1), .int (grd.2.1), .int (grd.2.2.1), .int (grd.2.2.2.1), .int (grd.2.2.2.2.1), .int (grd.2.2.2.2.2.1), .long (grd.2.2.2.2.2.2.1), .ref (a0 12), .int (gnv.1), .int (gnv.2.1), .int (gnv.2.2.1), .int (gnv.2.2.2.1), .int (gnv.2.2.2.2.1), .ref (a0 13), .ref (a0 14), .ref (a0 15), .ref (a0 16), .ref (a0 17), .ref (a0 18), .int (gac.1), .ref (a0 19), .ref (a0 20), .ref (a0 21), .ref (a0 22), .ref (a0 23), .ref (a0 24), .ref (a0 25), .ref (a0 26), .ref (a0 27), .int (grc.1), .ref (a0 28), .ref (a0 29), .ref (a0 30), .ref (a0 31), .int ((1 : Int32)), .int (gvm.2.2.1), .int (grc.1), .ref (a0 32), .ref (a0 33), .ref (a0 34), .ref (a0 35), .ref (a0 36), .ref (a0 37), .ref (a0 38), .ref (a0 39), .ref (a0 40)])), (a0 1, .inl (cy 1, 5, .inl (gvm.2.2.2.1))), (a0 2, .inl (cy 1, 5, .inl (gvm.2.2.2.2.1))), (a0 3, .inl (cy 1, 5, .inl (gvm.2.2.2.2.2.1))), (a0 4, .inl (cy 1, 25, .inl (gvm.2.2.2.2.2.2.1))), (a0 5, .inl (cy 1, 10, .inl (gvm.2.2.2.2.2.2.2.1))), (a0 7, .inl (cy 1, 10, .inl (gvm.2.2.2.2.2.2.2.2.2.1))), (a0 8, .inl (cy 1, 10, .inl (gvm.2.2.2.2.2.2.2.2.2.2.1))), (a0 9, .inl (cy 1, 50, .inl (gvm.2.2.2.2.2.2.2.2.2.2.2))), (a0 28, .inl (cy 1, 36, .inl (grc.2))), (a0 32, .inl (cy 1, 5, .inl (v1))), (a0 33, .inl (cy 1, 5, .inl (v3))), (a0 34, .inl (cy 1, 25, .inl (v5))), (a0 35, .inl (cy 1, 10, .inl (v7))), (a0 37, .inl (cy 1, 10, .inl (gim.2.2.2.2.2.2.2.2.1))), (a0 38, .inl (cy 1, 10, .inl (gim.2.2.2.2.2.2.2.2.2.1))), (a0 39, .inl (cy 1, 50, .inl (gim.2.2.2.2.2.2.2.2.2.2.1))), (a0 40, .inl (cy 1, 36, .inl (gim.2.2.2.2.2.2.2.2.2.2.2)))] 20 rfl rfl rfl rfl rfl (by decide +kernel) (by decide +kernel) rfl) (fun u H locs hw hP hD hS => ?_)
  have hw := hw.symm
  subst hw
  have hP : va_P (dC, dI) vwCl (w_X13_image cy a0 ((0 : Int32)) gvm gtd gfl grd gnv gac grc (((1 : Int32), gvm.2.2.1, grc.1, v1, v3, v5, v7, v9, gim.2.2.2.2.2.2.2.2))) H := hP
  have hD : va_D A (w_X13_image cy a0 ((0 : Int32)) gvm gtd gfl grd gnv gac grc (((1 : Int32), gvm.2.2.1, grc.1, v1, v3, v5, v7, v9, gim.2.2.2.2.2.2.2.2))) := hD
  refine lv_aload_n hx hb dX13_image_86 rfl (lv_at hl 0 rfl) ?_
  refine lv_aload_n hx hb dX13_image_87 rfl (lv_at hl 0 rfl) ?_
  refine va_get (D := (dC, dI)) (ci := 11) (v := .ref (a0 7)) (C := RX13) (T := TX13) (N := 64) hx hb hts in_X13 hown hK hP 0 rfl rfl 10 (by decide) lk16 (fun _ h9 => h9) rfl dX13_image_88 ?_
  refine lv_aload_n hx hb dX13_image_91 rfl (lv_at hl 0 rfl) ?_
  refine va_get (D := (dC, dI)) (ci := 11) (v := .ref (a0 37)) (C := RX13) (T := TX13) (N := 64) hx hb hts in_X13 hown hK hP 0 rfl rfl 60 (by decide) lk17 (fun _ h9 => h9) rfl dX13_image_92 ?_
  obtain ⟨v11, hv12, h⟩ := ok_bind h
  refine cl_vv (w2 := fun (u : ((Nat → Int32))) => w_X13_image cy a0 ((0 : Int32)) gvm gtd gfl grd gnv gac grc (((1 : Int32), gvm.2.2.1, grc.1, v1, v3, v5, v7, v9, u, gim.2.2.2.2.2.2.2.2.2))) (As := [.ref (a0 7), .ref (a0 37)]) (rest := []) ⟨hx, hb, hml, hown, hts⟩ (c_X13_copies l dC dI cy a0 (fun k => a0 (k + 7)) (fun k => a0 (k + 37)) 10 10 gvm.2.2.2.2.2.2.2.2.2.1 gim.2.2.2.2.2.2.2.2.1 H.size v11 hv12) (cwV 2 hts gX13_image_X13_copies rfl rfl rfl (by decide +kernel) ⟨Nat.le_of_ble_eq_true rfl, Nat.le_of_ble_eq_true rfl⟩) (va_recv hK hP (ci := 11) (q0 := 0) rfl rfl) cl_blind (cl_pre hK hP hD [7, 16] (by decide) rfl) hP hD hS hA [7, 16] rfl rfl hl.1 rfl (lv_room (Nat.le_of_ble_eq_true rfl)) dX13_image_95 ⟨Nat.le_of_ble_eq_true rfl, Nat.le_of_ble_eq_true rfl⟩ ⟨rfl, rfl⟩ (fun _ => updM [7, 16] [0, 1, 2, 3, 4, 5, 6, 8, 9, 10, 11, 12, 13, 14, 15, 17, 18, 19] [(a0 0, .inr (11, [.int ((0 : Int32)), .int (gvm.1), .int (gvm.2.1), .int (gvm.2.2.1), .ref (a0 1), .ref (a0 2), .ref (a0 3), .ref (a0 4), .ref (a0 5), .ref (a0 6), .ref (a0 7), .ref (a0 8), .ref (a0 9), .ref (a0 10), .int (gtd), .int (gfl.1), .int (gfl.2), .ref (a0 11), .int (grd.1), .int (grd.2.1), .int (grd.2.2.1), .int (grd.2.2.2.1), .int (grd.2.2.2.2.1), .int (grd.2.2.2.2.2.1), .long (grd.2.2.2.2.2.2.1), .ref (a0 12), .int (gnv.1), .int (gnv.2.1), .int (gnv.2.2.1), .int (gnv.2.2.2.1), .int (gnv.2.2.2.2.1), .ref (a0 13), .ref (a0 14), .ref (a0 15), .ref (a0 16), .ref (a0 17), .ref (a0 18), .int (gac.1), .ref (a0 19), .ref (a0 20), .ref (a0 21), .ref (a0 22), .ref (a0 23), .ref (a0 24), .ref (a0 25), .ref (a0 26), .ref (a0 27), .int (grc.1), .ref (a0 28), .ref (a0 29), .ref (a0 30), .ref (a0 31), .int ((1 : Int32)), .int (gvm.2.2.1), .int (grc.1), .ref (a0 32), .ref (a0 33), .ref (a0 34), .ref (a0 35), .ref (a0 36), .ref (a0 37), .ref (a0 38), .ref (a0 39), .ref (a0 40)])), (a0 1, .inl (cy 1, 5, .inl (gvm.2.2.2.1))), (a0 2, .inl (cy 1, 5, .inl (gvm.2.2.2.2.1))), (a0 3, .inl (cy 1, 5, .inl (gvm.2.2.2.2.2.1))), (a0 4, .inl (cy 1, 25, .inl (gvm.2.2.2.2.2.2.1))), (a0 5, .inl (cy 1, 10, .inl (gvm.2.2.2.2.2.2.2.1))), (a0 6, .inl (cy 1, 10, .inl (gvm.2.2.2.2.2.2.2.2.1))), (a0 8, .inl (cy 1, 10, .inl (gvm.2.2.2.2.2.2.2.2.2.2.1))), (a0 9, .inl (cy 1, 50, .inl (gvm.2.2.2.2.2.2.2.2.2.2.2))), (a0 28, .inl (cy 1, 36, .inl (grc.2))), (a0 32, .inl (cy 1, 5, .inl (v1))), (a0 33, .inl (cy 1, 5, .inl (v3))), (a0 34, .inl (cy 1, 25, .inl (v5))), (a0 35, .inl (cy 1, 10, .inl (v7))), (a0 36, .inl (cy 1, 10, .inl (v9))), (a0 38, .inl (cy 1, 10, .inl (gim.2.2.2.2.2.2.2.2.2.1))), (a0 39, .inl (cy 1, 50, .inl (gim.2.2.2.2.2.2.2.2.2.2.1))), (a0 40, .inl (cy 1, 36, .inl (gim.2.2.2.2.2.2.2.2.2.2.2)))] 20 rfl rfl rfl rfl rfl (by decide +kernel) (by decide +kernel) rfl) (fun u H locs hw hP hD hS => ?_)
  have hw := hw.symm
  subst hw
  have hP : va_P (dC, dI) vwCl (w_X13_image cy a0 ((0 : Int32)) gvm gtd gfl grd gnv gac grc (((1 : Int32), gvm.2.2.1, grc.1, v1, v3, v5, v7, v9, v11, gim.2.2.2.2.2.2.2.2.2))) H := hP
  have hD : va_D A (w_X13_image cy a0 ((0 : Int32)) gvm gtd gfl grd gnv gac grc (((1 : Int32), gvm.2.2.1, grc.1, v1, v3, v5, v7, v9, v11, gim.2.2.2.2.2.2.2.2.2))) := hD
  refine lv_aload_n hx hb dX13_image_98 rfl (lv_at hl 0 rfl) ?_
  refine lv_aload_n hx hb dX13_image_99 rfl (lv_at hl 0 rfl) ?_
  refine va_get (D := (dC, dI)) (ci := 11) (v := .ref (a0 8)) (C := RX13) (T := TX13) (N := 64) hx hb hts in_X13 hown hK hP 0 rfl rfl 11 (by decide) lk18 (fun _ h9 => h9) rfl dX13_image_100 ?_
  refine lv_aload_n hx hb dX13_image_103 rfl (lv_at hl 0 rfl) ?_
  refine va_get (D := (dC, dI)) (ci := 11) (v := .ref (a0 38)) (C := RX13) (T := TX13) (N := 64) hx hb hts in_X13 hown hK hP 0 rfl rfl 61 (by decide) lk19 (fun _ h9 => h9) rfl dX13_image_104 ?_
  obtain ⟨v13, hv14, h⟩ := ok_bind h
  refine cl_vv (w2 := fun (u : ((Nat → Int32))) => w_X13_image cy a0 ((0 : Int32)) gvm gtd gfl grd gnv gac grc (((1 : Int32), gvm.2.2.1, grc.1, v1, v3, v5, v7, v9, v11, u, gim.2.2.2.2.2.2.2.2.2.2))) (As := [.ref (a0 8), .ref (a0 38)]) (rest := []) ⟨hx, hb, hml, hown, hts⟩ (c_X13_copies l dC dI cy a0 (fun k => a0 (k + 8)) (fun k => a0 (k + 38)) 10 10 gvm.2.2.2.2.2.2.2.2.2.2.1 gim.2.2.2.2.2.2.2.2.2.1 H.size v13 hv14) (cwV 2 hts gX13_image_X13_copies rfl rfl rfl (by decide +kernel) ⟨Nat.le_of_ble_eq_true rfl, Nat.le_of_ble_eq_true rfl⟩) (va_recv hK hP (ci := 11) (q0 := 0) rfl rfl) cl_blind (cl_pre hK hP hD [8, 17] (by decide) rfl) hP hD hS hA [8, 17] rfl rfl hl.1 rfl (lv_room (Nat.le_of_ble_eq_true rfl)) dX13_image_107 ⟨Nat.le_of_ble_eq_true rfl, Nat.le_of_ble_eq_true rfl⟩ ⟨rfl, rfl⟩ (fun _ => updM [8, 17] [0, 1, 2, 3, 4, 5, 6, 7, 9, 10, 11, 12, 13, 14, 15, 16, 18, 19] [(a0 0, .inr (11, [.int ((0 : Int32)), .int (gvm.1), .int (gvm.2.1), .int (gvm.2.2.1), .ref (a0 1), .ref (a0 2), .ref (a0 3), .ref (a0 4), .ref (a0 5), .ref (a0 6), .ref (a0 7), .ref (a0 8), .ref (a0 9), .ref (a0 10), .int (gtd), .int (gfl.1), .int (gfl.2), .ref (a0 11), .int (grd.1), .int (grd.2.1), .int (grd.2.2.1), .int (grd.2.2.2.1), .int (grd.2.2.2.2.1), .int (grd.2.2.2.2.2.1), .long (grd.2.2.2.2.2.2.1), .ref (a0 12), .int (gnv.1), .int (gnv.2.1), .int (gnv.2.2.1), .int (gnv.2.2.2.1), .int (gnv.2.2.2.2.1), .ref (a0 13), .ref (a0 14), .ref (a0 15), .ref (a0 16), .ref (a0 17), .ref (a0 18), .int (gac.1), .ref (a0 19), .ref (a0 20), .ref (a0 21), .ref (a0 22), .ref (a0 23), .ref (a0 24), .ref (a0 25), .ref (a0 26), .ref (a0 27), .int (grc.1), .ref (a0 28), .ref (a0 29), .ref (a0 30), .ref (a0 31), .int ((1 : Int32)), .int (gvm.2.2.1), .int (grc.1), .ref (a0 32), .ref (a0 33), .ref (a0 34), .ref (a0 35), .ref (a0 36), .ref (a0 37), .ref (a0 38), .ref (a0 39), .ref (a0 40)])), (a0 1, .inl (cy 1, 5, .inl (gvm.2.2.2.1))), (a0 2, .inl (cy 1, 5, .inl (gvm.2.2.2.2.1))), (a0 3, .inl (cy 1, 5, .inl (gvm.2.2.2.2.2.1))), (a0 4, .inl (cy 1, 25, .inl (gvm.2.2.2.2.2.2.1))), (a0 5, .inl (cy 1, 10, .inl (gvm.2.2.2.2.2.2.2.1))), (a0 6, .inl (cy 1, 10, .inl (gvm.2.2.2.2.2.2.2.2.1))), (a0 7, .inl (cy 1, 10, .inl (gvm.2.2.2.2.2.2.2.2.2.1))), (a0 9, .inl (cy 1, 50, .inl (gvm.2.2.2.2.2.2.2.2.2.2.2))), (a0 28, .inl (cy 1, 36, .inl (grc.2))), (a0 32, .inl (cy 1, 5, .inl (v1))), (a0 33, .inl (cy 1, 5, .inl (v3))), (a0 34, .inl (cy 1, 25, .inl (v5))), (a0 35, .inl (cy 1, 10, .inl (v7))), (a0 36, .inl (cy 1, 10, .inl (v9))), (a0 37, .inl (cy 1, 10, .inl (v11))), (a0 39, .inl (cy 1, 50, .inl (gim.2.2.2.2.2.2.2.2.2.2.1))), (a0 40, .inl (cy 1, 36, .inl (gim.2.2.2.2.2.2.2.2.2.2.2)))] 20 rfl rfl rfl rfl rfl (by decide +kernel) (by decide +kernel) rfl) (fun u H locs hw hP hD hS => ?_)
  have hw := hw.symm
  subst hw
  have hP : va_P (dC, dI) vwCl (w_X13_image cy a0 ((0 : Int32)) gvm gtd gfl grd gnv gac grc (((1 : Int32), gvm.2.2.1, grc.1, v1, v3, v5, v7, v9, v11, v13, gim.2.2.2.2.2.2.2.2.2.2))) H := hP
  have hD : va_D A (w_X13_image cy a0 ((0 : Int32)) gvm gtd gfl grd gnv gac grc (((1 : Int32), gvm.2.2.1, grc.1, v1, v3, v5, v7, v9, v11, v13, gim.2.2.2.2.2.2.2.2.2.2))) := hD
  refine lv_aload_n hx hb dX13_image_110 rfl (lv_at hl 0 rfl) ?_
  refine lv_aload_n hx hb dX13_image_111 rfl (lv_at hl 0 rfl) ?_
  refine va_get (D := (dC, dI)) (ci := 11) (v := .ref (a0 9)) (C := RX13) (T := TX13) (N := 64) hx hb hts in_X13 hown hK hP 0 rfl rfl 12 (by decide) lk20 (fun _ h9 => h9) rfl dX13_image_112 ?_
  refine lv_aload_n hx hb dX13_image_115 rfl (lv_at hl 0 rfl) ?_
  refine va_get (D := (dC, dI)) (ci := 11) (v := .ref (a0 39)) (C := RX13) (T := TX13) (N := 64) hx hb hts in_X13 hown hK hP 0 rfl rfl 62 (by decide) lk21 (fun _ h9 => h9) rfl dX13_image_116 ?_
  obtain ⟨v15, hv16, h⟩ := ok_bind h
  refine cl_vv (w2 := fun (u : ((Nat → Int32))) => w_X13_image cy a0 ((0 : Int32)) gvm gtd gfl grd gnv gac grc (((1 : Int32), gvm.2.2.1, grc.1, v1, v3, v5, v7, v9, v11, v13, u, gim.2.2.2.2.2.2.2.2.2.2.2))) (As := [.ref (a0 9), .ref (a0 39)]) (rest := []) ⟨hx, hb, hml, hown, hts⟩ (c_X13_copies l dC dI cy a0 (fun k => a0 (k + 9)) (fun k => a0 (k + 39)) 50 50 gvm.2.2.2.2.2.2.2.2.2.2.2 gim.2.2.2.2.2.2.2.2.2.2.1 H.size v15 hv16) (cwV 2 hts gX13_image_X13_copies rfl rfl rfl (by decide +kernel) ⟨Nat.le_of_ble_eq_true rfl, Nat.le_of_ble_eq_true rfl⟩) (va_recv hK hP (ci := 11) (q0 := 0) rfl rfl) cl_blind (cl_pre hK hP hD [9, 18] (by decide) rfl) hP hD hS hA [9, 18] rfl rfl hl.1 rfl (lv_room (Nat.le_of_ble_eq_true rfl)) dX13_image_119 ⟨Nat.le_of_ble_eq_true rfl, Nat.le_of_ble_eq_true rfl⟩ ⟨rfl, rfl⟩ (fun _ => updM [9, 18] [0, 1, 2, 3, 4, 5, 6, 7, 8, 10, 11, 12, 13, 14, 15, 16, 17, 19] [(a0 0, .inr (11, [.int ((0 : Int32)), .int (gvm.1), .int (gvm.2.1), .int (gvm.2.2.1), .ref (a0 1), .ref (a0 2), .ref (a0 3), .ref (a0 4), .ref (a0 5), .ref (a0 6), .ref (a0 7), .ref (a0 8), .ref (a0 9), .ref (a0 10), .int (gtd), .int (gfl.1), .int (gfl.2), .ref (a0 11), .int (grd.1), .int (grd.2.1), .int (grd.2.2.1), .int (grd.2.2.2.1), .int (grd.2.2.2.2.1), .int (grd.2.2.2.2.2.1), .long (grd.2.2.2.2.2.2.1), .ref (a0 12), .int (gnv.1), .int (gnv.2.1), .int (gnv.2.2.1), .int (gnv.2.2.2.1), .int (gnv.2.2.2.2.1), .ref (a0 13), .ref (a0 14), .ref (a0 15), .ref (a0 16), .ref (a0 17), .ref (a0 18), .int (gac.1), .ref (a0 19), .ref (a0 20), .ref (a0 21), .ref (a0 22), .ref (a0 23), .ref (a0 24), .ref (a0 25), .ref (a0 26), .ref (a0 27), .int (grc.1), .ref (a0 28), .ref (a0 29), .ref (a0 30), .ref (a0 31), .int ((1 : Int32)), .int (gvm.2.2.1), .int (grc.1), .ref (a0 32), .ref (a0 33), .ref (a0 34), .ref (a0 35), .ref (a0 36), .ref (a0 37), .ref (a0 38), .ref (a0 39), .ref (a0 40)])), (a0 1, .inl (cy 1, 5, .inl (gvm.2.2.2.1))), (a0 2, .inl (cy 1, 5, .inl (gvm.2.2.2.2.1))), (a0 3, .inl (cy 1, 5, .inl (gvm.2.2.2.2.2.1))), (a0 4, .inl (cy 1, 25, .inl (gvm.2.2.2.2.2.2.1))), (a0 5, .inl (cy 1, 10, .inl (gvm.2.2.2.2.2.2.2.1))), (a0 6, .inl (cy 1, 10, .inl (gvm.2.2.2.2.2.2.2.2.1))), (a0 7, .inl (cy 1, 10, .inl (gvm.2.2.2.2.2.2.2.2.2.1))), (a0 8, .inl (cy 1, 10, .inl (gvm.2.2.2.2.2.2.2.2.2.2.1))), (a0 28, .inl (cy 1, 36, .inl (grc.2))), (a0 32, .inl (cy 1, 5, .inl (v1))), (a0 33, .inl (cy 1, 5, .inl (v3))), (a0 34, .inl (cy 1, 25, .inl (v5))), (a0 35, .inl (cy 1, 10, .inl (v7))), (a0 36, .inl (cy 1, 10, .inl (v9))), (a0 37, .inl (cy 1, 10, .inl (v11))), (a0 38, .inl (cy 1, 10, .inl (v13))), (a0 40, .inl (cy 1, 36, .inl (gim.2.2.2.2.2.2.2.2.2.2.2)))] 20 rfl rfl rfl rfl rfl (by decide +kernel) (by decide +kernel) rfl) (fun u H locs hw hP hD hS => ?_)
  have hw := hw.symm
  subst hw
  have hP : va_P (dC, dI) vwCl (w_X13_image cy a0 ((0 : Int32)) gvm gtd gfl grd gnv gac grc (((1 : Int32), gvm.2.2.1, grc.1, v1, v3, v5, v7, v9, v11, v13, v15, gim.2.2.2.2.2.2.2.2.2.2.2))) H := hP
  have hD : va_D A (w_X13_image cy a0 ((0 : Int32)) gvm gtd gfl grd gnv gac grc (((1 : Int32), gvm.2.2.1, grc.1, v1, v3, v5, v7, v9, v11, v13, v15, gim.2.2.2.2.2.2.2.2.2.2.2))) := hD
  refine lv_aload_n hx hb dX13_image_122 rfl (lv_at hl 0 rfl) ?_
  refine lv_aload_n hx hb dX13_image_123 rfl (lv_at hl 0 rfl) ?_
  refine va_get (D := (dC, dI)) (ci := 11) (v := .ref (a0 28)) (C := RX13) (T := TX13) (N := 64) hx hb hts in_X13 hown hK hP 0 rfl rfl 48 (by decide) lk22 (fun _ h9 => h9) rfl dX13_image_124 ?_
  refine lv_aload_n hx hb dX13_image_127 rfl (lv_at hl 0 rfl) ?_
  refine va_get (D := (dC, dI)) (ci := 11) (v := .ref (a0 40)) (C := RX13) (T := TX13) (N := 64) hx hb hts in_X13 hown hK hP 0 rfl rfl 63 (by decide) lk23 (fun _ h9 => h9) rfl dX13_image_128 ?_
  obtain ⟨v17, hv18, h⟩ := ok_bind h
  refine cl_vv (w2 := fun (u : ((Nat → Int32))) => w_X13_image cy a0 ((0 : Int32)) gvm gtd gfl grd gnv gac grc (((1 : Int32), gvm.2.2.1, grc.1, v1, v3, v5, v7, v9, v11, v13, v15, u))) (As := [.ref (a0 28), .ref (a0 40)]) (rest := []) ⟨hx, hb, hml, hown, hts⟩ (c_X13_copies l dC dI cy a0 (fun k => a0 (k + 28)) (fun k => a0 (k + 40)) 36 36 grc.2 gim.2.2.2.2.2.2.2.2.2.2.2 H.size v17 hv18) (cwV 2 hts gX13_image_X13_copies rfl rfl rfl (by decide +kernel) ⟨Nat.le_of_ble_eq_true rfl, Nat.le_of_ble_eq_true rfl⟩) (va_recv hK hP (ci := 11) (q0 := 0) rfl rfl) cl_blind (cl_pre hK hP hD [10, 19] (by decide) rfl) hP hD hS hA [10, 19] rfl rfl hl.1 rfl (lv_room (Nat.le_of_ble_eq_true rfl)) dX13_image_131 ⟨Nat.le_of_ble_eq_true rfl, Nat.le_of_ble_eq_true rfl⟩ ⟨rfl, rfl⟩ (fun _ => updM [10, 19] [0, 1, 2, 3, 4, 5, 6, 7, 8, 9, 11, 12, 13, 14, 15, 16, 17, 18] [(a0 0, .inr (11, [.int ((0 : Int32)), .int (gvm.1), .int (gvm.2.1), .int (gvm.2.2.1), .ref (a0 1), .ref (a0 2), .ref (a0 3), .ref (a0 4), .ref (a0 5), .ref (a0 6), .ref (a0 7), .ref (a0 8), .ref (a0 9), .ref (a0 10), .int (gtd), .int (gfl.1), .int (gfl.2), .ref (a0 11), .int (grd.1), .int (grd.2.1), .int (grd.2.2.1), .int (grd.2.2.2.1), .int (grd.2.2.2.2.1), .int (grd.2.2.2.2.2.1), .long (grd.2.2.2.2.2.2.1), .ref (a0 12), .int (gnv.1), .int (gnv.2.1), .int (gnv.2.2.1), .int (gnv.2.2.2.1), .int (gnv.2.2.2.2.1), .ref (a0 13), .ref (a0 14), .ref (a0 15), .ref (a0 16), .ref (a0 17), .ref (a0 18), .int (gac.1), .ref (a0 19), .ref (a0 20), .ref (a0 21), .ref (a0 22), .ref (a0 23), .ref (a0 24), .ref (a0 25), .ref (a0 26), .ref (a0 27), .int (grc.1), .ref (a0 28), .ref (a0 29), .ref (a0 30), .ref (a0 31), .int ((1 : Int32)), .int (gvm.2.2.1), .int (grc.1), .ref (a0 32), .ref (a0 33), .ref (a0 34), .ref (a0 35), .ref (a0 36), .ref (a0 37), .ref (a0 38), .ref (a0 39), .ref (a0 40)])), (a0 1, .inl (cy 1, 5, .inl (gvm.2.2.2.1))), (a0 2, .inl (cy 1, 5, .inl (gvm.2.2.2.2.1))), (a0 3, .inl (cy 1, 5, .inl (gvm.2.2.2.2.2.1))), (a0 4, .inl (cy 1, 25, .inl (gvm.2.2.2.2.2.2.1))), (a0 5, .inl (cy 1, 10, .inl (gvm.2.2.2.2.2.2.2.1))), (a0 6, .inl (cy 1, 10, .inl (gvm.2.2.2.2.2.2.2.2.1))), (a0 7, .inl (cy 1, 10, .inl (gvm.2.2.2.2.2.2.2.2.2.1))), (a0 8, .inl (cy 1, 10, .inl (gvm.2.2.2.2.2.2.2.2.2.2.1))), (a0 9, .inl (cy 1, 50, .inl (gvm.2.2.2.2.2.2.2.2.2.2.2))), (a0 32, .inl (cy 1, 5, .inl (v1))), (a0 33, .inl (cy 1, 5, .inl (v3))), (a0 34, .inl (cy 1, 25, .inl (v5))), (a0 35, .inl (cy 1, 10, .inl (v7))), (a0 36, .inl (cy 1, 10, .inl (v9))), (a0 37, .inl (cy 1, 10, .inl (v11))), (a0 38, .inl (cy 1, 10, .inl (v13))), (a0 39, .inl (cy 1, 50, .inl (v15)))] 20 rfl rfl rfl rfl rfl (by decide +kernel) (by decide +kernel) rfl) (fun u H locs hw hP hD hS => ?_)
  have hw := hw.symm
  subst hw
  have hP : va_P (dC, dI) vwCl (w_X13_image cy a0 ((0 : Int32)) gvm gtd gfl grd gnv gac grc (((1 : Int32), gvm.2.2.1, grc.1, v1, v3, v5, v7, v9, v11, v13, v15, v17))) H := hP
  have hD : va_D A (w_X13_image cy a0 ((0 : Int32)) gvm gtd gfl grd gnv gac grc (((1 : Int32), gvm.2.2.1, grc.1, v1, v3, v5, v7, v9, v11, v13, v15, v17))) := hD
  exact W.vret hx hb hr (fun t ht hW => by rw [hqq]; have hh := Option.some.inj h; exact ⟨⟨(((0 : Int32), ((1 : Int32), gvm.2.2.1, grc.1, v1, v3, v5, v7, v9, v11, v13, v15, v17))), rfl, Option.some.inj h, by rw [ht]; exact hP, va_K.moved hW.alike hK⟩, hS.F ht⟩) hS.2.2 dX13_image_134

abbrev w_X13_restore (cy : Nat → ClassId) (a0 : Nat → Nat) (gth : Int32) (gvm : Int32 × Int32 × Int32 × (Nat → Int32) × (Nat → Int32) × (Nat → Int32) × (Nat → Int32) × (Nat → Int32) × (Nat → Int32) × (Nat → Int32) × (Nat → Int32) × (Nat → Int32)) (gtd : Int32) (gfl : Int32 × Int32) (grd : Int32 × Int32 × Int32 × Int32 × Int32 × Int32 × Int64 × (Nat → Int32)) (gnv : Int32 × Int32 × Int32 × Int32 × Int32 × (Nat → Int32) × (Nat → Int32) × (Nat → Int32) × (Nat → Int32) × (Nat → Int32) × (Nat → Int32)) (gac : Int32 × (Nat → Int32) × (Nat → Int32)) (grc : Int32 × (Nat → Int32)) (gim : Int32 × Int32 × Int32 × (Nat → Int32) × (Nat → Int32) × (Nat → Int32) × (Nat → Int32) × (Nat → Int32) × (Nat → Int32) × (Nat → Int32) × (Nat → Int32) × (Nat → Int32)) : va_W := [(a0 0, .inr (11, [.int (gth), .int (gvm.1), .int (gvm.2.1), .int (gvm.2.2.1), .ref (a0 1), .ref (a0 2), .ref (a0 3), .ref (a0 4), .ref (a0 5), .ref (a0 6), .ref (a0 7), .ref (a0 8), .ref (a0 9), .ref (a0 10), .int (gtd), .int (gfl.1), .int (gfl.2), .ref (a0 11), .int (grd.1), .int (grd.2.1), .int (grd.2.2.1), .int (grd.2.2.2.1), .int (grd.2.2.2.2.1), .int (grd.2.2.2.2.2.1), .long (grd.2.2.2.2.2.2.1), .ref (a0 12), .int (gnv.1), .int (gnv.2.1), .int (gnv.2.2.1), .int (gnv.2.2.2.1), .int (gnv.2.2.2.2.1), .ref (a0 13), .ref (a0 14), .ref (a0 15), .ref (a0 16), .ref (a0 17), .ref (a0 18), .int (gac.1), .ref (a0 19), .ref (a0 20), .ref (a0 21), .ref (a0 22), .ref (a0 23), .ref (a0 24), .ref (a0 25), .ref (a0 26), .ref (a0 27), .int (grc.1), .ref (a0 28), .ref (a0 29), .ref (a0 30), .ref (a0 31), .int (gim.1), .int (gim.2.1), .int (gim.2.2.1), .ref (a0 32), .ref (a0 33), .ref (a0 34), .ref (a0 35), .ref (a0 36), .ref (a0 37), .ref (a0 38), .ref (a0 39), .ref (a0 40)])), (a0 1, .inl (cy 1, 5, .inl (gvm.2.2.2.1))), (a0 2, .inl (cy 1, 5, .inl (gvm.2.2.2.2.1))), (a0 3, .inl (cy 1, 5, .inl (gvm.2.2.2.2.2.1))), (a0 4, .inl (cy 1, 25, .inl (gvm.2.2.2.2.2.2.1))), (a0 5, .inl (cy 1, 10, .inl (gvm.2.2.2.2.2.2.2.1))), (a0 6, .inl (cy 1, 10, .inl (gvm.2.2.2.2.2.2.2.2.1))), (a0 7, .inl (cy 1, 10, .inl (gvm.2.2.2.2.2.2.2.2.2.1))), (a0 8, .inl (cy 1, 10, .inl (gvm.2.2.2.2.2.2.2.2.2.2.1))), (a0 9, .inl (cy 1, 50, .inl (gvm.2.2.2.2.2.2.2.2.2.2.2))), (a0 28, .inl (cy 1, 36, .inl (grc.2))), (a0 32, .inl (cy 1, 5, .inl (gim.2.2.2.1))), (a0 33, .inl (cy 1, 5, .inl (gim.2.2.2.2.1))), (a0 34, .inl (cy 1, 25, .inl (gim.2.2.2.2.2.1))), (a0 35, .inl (cy 1, 10, .inl (gim.2.2.2.2.2.2.1))), (a0 36, .inl (cy 1, 10, .inl (gim.2.2.2.2.2.2.2.1))), (a0 37, .inl (cy 1, 10, .inl (gim.2.2.2.2.2.2.2.2.1))), (a0 38, .inl (cy 1, 10, .inl (gim.2.2.2.2.2.2.2.2.2.1))), (a0 39, .inl (cy 1, 50, .inl (gim.2.2.2.2.2.2.2.2.2.2.1))), (a0 40, .inl (cy 1, 36, .inl (gim.2.2.2.2.2.2.2.2.2.2.2)))]
abbrev rm_X13_restore : Room := { frames := 1, cells := 0, slots := 0, locals := 23 }
set_option maxHeartbeats 1000000 in
set_option maxRecDepth 100000 in
theorem c_X13_restore (l : Launch) (dC : Nat → ClassId) (dI : Nat → Nat → Nat) (cy : Nat → ClassId) (a0 : Nat → Nat) (gth : Int32) (gvm : Int32 × Int32 × Int32 × (Nat → Int32) × (Nat → Int32) × (Nat → Int32) × (Nat → Int32) × (Nat → Int32) × (Nat → Int32) × (Nat → Int32) × (Nat → Int32) × (Nat → Int32)) (gtd : Int32) (gfl : Int32 × Int32) (grd : Int32 × Int32 × Int32 × Int32 × Int32 × Int32 × Int64 × (Nat → Int32)) (gnv : Int32 × Int32 × Int32 × Int32 × Int32 × (Nat → Int32) × (Nat → Int32) × (Nat → Int32) × (Nat → Int32) × (Nat → Int32) × (Nat → Int32)) (gac : Int32 × (Nat → Int32) × (Nat → Int32)) (grc : Int32 × (Nat → Int32)) (gim : Int32 × Int32 × Int32 × (Nat → Int32) × (Nat → Int32) × (Nat → Int32) × (Nat → Int32) × (Nat → Int32) × (Nat → Int32) × (Nat → Int32) × (Nat → Int32) × (Nat → Int32)) (sz : Nat) (R0 : Int32 × (Int32) × (Int32 × Int32 × Int32 × (Nat → Int32) × (Nat → Int32) × (Nat → Int32) × (Nat → Int32) × (Nat → Int32) × (Nat → Int32) × (Nat → Int32) × (Nat → Int32) × (Nat → Int32)) × (Int32 × (Nat → Int32))) (h : p_X13_restore gth gvm grc gim = some R0) : Met l yX13_restore wsX13_restore rm_X13_restore (va_Pc [.ref (a0 0)] (prC dC dI cy (w_X13_restore cy a0 gth gvm gtd gfl grd gnv gac grc gim) sz)) (va_Qi (fun (r : Int32) (u : (Int32) × (Int32 × Int32 × Int32 × (Nat → Int32) × (Nat → Int32) × (Nat → Int32) × (Nat → Int32) × (Nat → Int32) × (Nat → Int32) × (Nat → Int32) × (Nat → Int32) × (Nat → Int32)) × (Int32 × (Nat → Int32))) => r = R0.1 ∧ u = R0.2) (fun (u : (Int32) × (Int32 × Int32 × Int32 × (Nat → Int32) × (Nat → Int32) × (Nat → Int32) × (Nat → Int32) × (Nat → Int32) × (Nat → Int32) × (Nat → Int32) × (Nat → Int32) × (Nat → Int32)) × (Int32 × (Nat → Int32))) t => poC dC dI cy (w_X13_restore cy a0 u.1 u.2.1 gtd gfl grd gnv gac u.2.2 gim) t) (va_A (w_X13_restore cy a0 gth gvm gtd gfl grd gnv gac grc gim) sz)) 0 0 (va_A (w_X13_restore cy a0 gth gvm gtd gfl grd gnv gac grc gim) sz) := by
  refine Met.ofW (cc := cX13_restore) (maxL := 1) (ret := (some .boolean)) (by decide) rfl ?_
  intro p e s m aa below meth c s₁ B hml hv
  obtain ⟨haa, hsz, hP, hK, hD0⟩ := hv
  have hx := B.exec
  have hb := B.bytes
  have hr := B.returns
  have hts := atoms_spec (ws := wsX13_restore) B.pre
  have hown : s.vm.findClass RX13 = some m.cls := findClass_of_methodNamed B.named
  have hlocks := B.notSynchronized
  subst hsz
  have hD := hD0.self (sz := s.heap.size)
  obtain ⟨qq, hqq⟩ : ∃ qq, qq = (va_Qi (fun (r : Int32) (u : (Int32) × (Int32 × Int32 × Int32 × (Nat → Int32) × (Nat → Int32) × (Nat → Int32) × (Nat → Int32) × (Nat → Int32) × (Nat → Int32) × (Nat → Int32) × (Nat → Int32) × (Nat → Int32)) × (Int32 × (Nat → Int32))) => r = R0.1 ∧ u = R0.2) (fun (u : (Int32) × (Int32 × Int32 × Int32 × (Nat → Int32) × (Nat → Int32) × (Nat → Int32) × (Nat → Int32) × (Nat → Int32) × (Nat → Int32) × (Nat → Int32) × (Nat → Int32) × (Nat → Int32)) × (Int32 × (Nat → Int32))) t => poC dC dI cy (w_X13_restore cy a0 u.1 u.2.1 gtd gfl grd gnv gac u.2.2 gim) t) (va_A (w_X13_restore cy a0 gth gvm gtd gfl grd gnv gac grc gim) s.heap.size)) := ⟨_, rfl⟩
  rw [← hqq]
  generalize hAe : va_A (w_X13_restore cy a0 gth gvm gtd gfl grd gnv gac grc gim) s.heap.size = A at hD hqq ⊢
  have hA : ∀ q : Nat, s.heap.size ≤ q → A q := fun q h => by rw [← hAe]; exact Or.inr h
  have hS : va_S A s.heap s.heap [] := va_S.rf
  have hl := lv_entry ([.ref (a0 0)]) (n := 1) (Nat.le_of_ble_eq_true rfl)
  have hE : entryFrame m aa 1 = F0 m 0 ((lg_sl ([.ref (a0 0)]) ++ List.replicate (1 - (lg_sl ([.ref (a0 0)])).length) Slot.unset).toArray) [] := by rw [haa]; exact lg_entry_eq m _ 1
  refine W.eq hE ?_
  generalize (lg_sl ([.ref (a0 0)]) ++ List.replicate (1 - (lg_sl ([.ref (a0 0)])).length) Slot.unset).toArray = ls at hl ⊢
  have hl : lv_has ls 1 [(0, .ref (a0 0))] := hl
  change W p l e rm_X13_restore s m aa below meth c s.heap [] 0 0 (MQ below qq aa s 0 0 A) (F0 m 0 ls [])
  have hS0 := hS
  have lk0 := hts (.fieldLink RX13 135 "GoatDoorsModel" "thrown" "I") (by decide +kernel)
  have lk1 := hts (.fieldLink RX13 264 "GoatDoorsModel" "hasImage" "Z") (by decide +kernel)
  have lk2 := hts (.fieldLink RX13 380 "GoatDoorsModel" "imageBase" "I") (by decide +kernel)
  have lk3 := hts (.fieldLink RX13 251 "GoatDoorsModel" "base" "I") (by decide +kernel)
  have lk4 := hts (.fieldLink RX13 383 "GoatDoorsModel" "imageReceipts" "I") (by decide +kernel)
  have lk5 := hts (.fieldLink RX13 261 "GoatDoorsModel" "receipts" "I") (by decide +kernel)
  have lk6 := hts (.fieldLink RX13 108 "GoatDoorsModel" "imageGoats" "[I") (by decide +kernel)
  have lk7 := hts (.fieldLink RX13 7 "GoatDoorsModel" "goats" "[I") (by decide +kernel)
  have lk8 := hts (.fieldLink RX13 111 "GoatDoorsModel" "imageHides" "[I") (by decide +kernel)
  have lk9 := hts (.fieldLink RX13 16 "GoatDoorsModel" "hides" "[I") (by decide +kernel)
  have lk10 := hts (.fieldLink RX13 114 "GoatDoorsModel" "imageLent" "[I") (by decide +kernel)
  have lk11 := hts (.fieldLink RX13 19 "GoatDoorsModel" "lent" "[I") (by decide +kernel)
  have lk12 := hts (.fieldLink RX13 117 "GoatDoorsModel" "imageHas" "[I") (by decide +kernel)
  have lk13 := hts (.fieldLink RX13 22 "GoatDoorsModel" "has" "[I") (by decide +kernel)
  have lk14 := hts (.fieldLink RX13 120 "GoatDoorsModel" "imageBy" "[I") (by decide +kernel)
  have lk15 := hts (.fieldLink RX13 25 "GoatDoorsModel" "by" "[I") (by decide +kernel)
  have lk16 := hts (.fieldLink RX13 123 "GoatDoorsModel" "imageTo" "[I") (by decide +kernel)
  have lk17 := hts (.fieldLink RX13 28 "GoatDoorsModel" "to" "[I") (by decide +kernel)
  have lk18 := hts (.fieldLink RX13 126 "GoatDoorsModel" "imageMany" "[I") (by decide +kernel)
  have lk19 := hts (.fieldLink RX13 31 "GoatDoorsModel" "many" "[I") (by decide +kernel)
  have lk20 := hts (.fieldLink RX13 129 "GoatDoorsModel" "imageFigure" "[I") (by decide +kernel)
  have lk21 := hts (.fieldLink RX13 34 "GoatDoorsModel" "figure" "[I") (by decide +kernel)
  have lk22 := hts (.fieldLink RX13 132 "GoatDoorsModel" "imageReceipt" "[I") (by decide +kernel)
  have lk23 := hts (.fieldLink RX13 95 "GoatDoorsModel" "receipt" "[I") (by decide +kernel)
  have in_X13 : ∀ w ∈ wsX130, w ∈ wsX13_restore := by decide +kernel
  obtain ⟨H, hH⟩ : ∃ H : Heap, H = s.heap := ⟨_, rfl⟩
  obtain ⟨locs, hlocs⟩ : ∃ locs : List Loc, locs = [] := ⟨_, rfl⟩
  have hS : va_S A s.heap H locs := by rw [hH, hlocs]; exact hS
  rw [← hH] at hP
  suffices hg : W p l e rm_X13_restore s m aa below meth c H locs 0 0 (MQ below qq aa s 0 0 A) (F0 m 0 ls []) by subst hH; subst hlocs; exact hg
  unfold p_X13_restore at h
  refine lv_aload_n hx hb dX13_restore_0 rfl (lv_at hl 0 rfl) ?_
  refine lv_iconst (v := (0 : Int32)) hx hb dX13_restore_1 (by decide) ?_
  refine va_put (D := (dC, dI)) (ci := 11) (v := .int (0 : Int32)) (ty := .int) (C := RX13) (T := TX13) (N := 64) hx hb hts in_X13 tyX13 tyX13_ok nmX13 hown hK hP hD hS 0 rfl rfl 0 (by decide) lk0 (fun _ h9 => h9) rfl (by decide +kernel) rfl rfl (Nat.le_of_ble_eq_true rfl) dX13_restore_2 (fun H locs hP hD hS => ?_)
  have hP : va_P (dC, dI) vwCl (w_X13_restore cy a0 ((0 : Int32)) gvm gtd gfl grd gnv gac grc gim) H := hP
  have hD : va_D A (w_X13_restore cy a0 ((0 : Int32)) gvm gtd gfl grd gnv gac grc gim) := hD
  refine lv_aload_n hx hb dX13_restore_5 rfl (lv_at hl 0 rfl) ?_
  refine va_get (D := (dC, dI)) (ci := 11) (v := .int gim.1) (C := RX13) (T := TX13) (N := 64) hx hb hts in_X13 hown hK hP 0 rfl rfl 52 (by decide) lk1 (fun _ h9 => h9) rfl dX13_restore_6 ?_
  refine lv_if_ne (tgt := 14) hx hb dX13_restore_9 (by decide) (fun c1 => ?_) (fun c1 => ?_)
  · rw [if_neg c1] at h
    refine lv_aload_n hx hb dX13_restore_14 rfl (lv_at hl 0 rfl) ?_
    refine lv_aload_n hx hb dX13_restore_15 rfl (lv_at hl 0 rfl) ?_
    refine va_get (D := (dC, dI)) (ci := 11) (v := .int gim.2.1) (C := RX13) (T := TX13) (N := 64) hx hb hts in_X13 hown hK hP 0 rfl rfl 53 (by decide) lk2 (fun _ h9 => h9) rfl dX13_restore_16 ?_
    refine va_put (D := (dC, dI)) (ci := 11) (v := .int gim.2.1) (ty := .int) (C := RX13) (T := TX13) (N := 64) hx hb hts in_X13 tyX13 tyX13_ok nmX13 hown hK hP hD hS 0 rfl rfl 3 (by decide) lk3 (fun _ h9 => h9) rfl (by decide +kernel) rfl rfl (Nat.le_of_ble_eq_true rfl) dX13_restore_19 (fun H locs hP hD hS => ?_)
    have hP : va_P (dC, dI) vwCl (w_X13_restore cy a0 ((0 : Int32)) ((gvm.1, gvm.2.1, gim.2.1, gvm.2.2.2)) gtd gfl grd gnv gac grc gim) H := hP
    have hD : va_D A (w_X13_restore cy a0 ((0 : Int32)) ((gvm.1, gvm.2.1, gim.2.1, gvm.2.2.2)) gtd gfl grd gnv gac grc gim) := hD
    refine lv_aload_n hx hb dX13_restore_22 rfl (lv_at hl 0 rfl) ?_
    refine lv_aload_n hx hb dX13_restore_23 rfl (lv_at hl 0 rfl) ?_
    refine va_get (D := (dC, dI)) (ci := 11) (v := .int gim.2.2.1) (C := RX13) (T := TX13) (N := 64) hx hb hts in_X13 hown hK hP 0 rfl rfl 54 (by decide) lk4 (fun _ h9 => h9) rfl dX13_restore_24 ?_
    refine va_put (D := (dC, dI)) (ci := 11) (v := .int gim.2.2.1) (ty := .int) (C := RX13) (T := TX13) (N := 64) hx hb hts in_X13 tyX13 tyX13_ok nmX13 hown hK hP hD hS 0 rfl rfl 47 (by decide) lk5 (fun _ h9 => h9) rfl (by decide +kernel) rfl rfl (Nat.le_of_ble_eq_true rfl) dX13_restore_27 (fun H locs hP hD hS => ?_)
    have hP : va_P (dC, dI) vwCl (w_X13_restore cy a0 ((0 : Int32)) ((gvm.1, gvm.2.1, gim.2.1, gvm.2.2.2)) gtd gfl grd gnv gac ((gim.2.2.1, grc.2)) gim) H := hP
    have hD : va_D A (w_X13_restore cy a0 ((0 : Int32)) ((gvm.1, gvm.2.1, gim.2.1, gvm.2.2.2)) gtd gfl grd gnv gac ((gim.2.2.1, grc.2)) gim) := hD
    refine lv_aload_n hx hb dX13_restore_30 rfl (lv_at hl 0 rfl) ?_
    refine lv_aload_n hx hb dX13_restore_31 rfl (lv_at hl 0 rfl) ?_
    refine va_get (D := (dC, dI)) (ci := 11) (v := .ref (a0 32)) (C := RX13) (T := TX13) (N := 64) hx hb hts in_X13 hown hK hP 0 rfl rfl 55 (by decide) lk6 (fun _ h9 => h9) rfl dX13_restore_32 ?_
    refine lv_aload_n hx hb dX13_restore_35 rfl (lv_at hl 0 rfl) ?_
    refine va_get (D := (dC, dI)) (ci := 11) (v := .ref (a0 1)) (C := RX13) (T := TX13) (N := 64) hx hb hts in_X13 hown hK hP 0 rfl rfl 4 (by decide) lk7 (fun _ h9 => h9) rfl dX13_restore_36 ?_
    obtain ⟨v2, hv3, h⟩ := ok_bind h
    refine cl_vv (w2 := fun (u : ((Nat → Int32))) => w_X13_restore cy a0 ((0 : Int32)) ((gvm.1, gvm.2.1, gim.2.1, u, gvm.2.2.2.2)) gtd gfl grd gnv gac ((gim.2.2.1, grc.2)) gim) (As := [.ref (a0 32), .ref (a0 1)]) (rest := []) ⟨hx, hb, hml, hown, hts⟩ (c_X13_copies l dC dI cy a0 (fun k => a0 (k + 32)) (fun k => a0 (k + 1)) 5 5 gim.2.2.2.1 gvm.2.2.2.1 H.size v2 hv3) (cwV 2 hts gX13_restore_X13_copies rfl rfl rfl (by decide +kernel) ⟨Nat.le_of_ble_eq_true rfl, Nat.le_of_ble_eq_true rfl⟩) (va_recv hK hP (ci := 11) (q0 := 0) rfl rfl) cl_blind (cl_pre hK hP hD [11, 1] (by decide) rfl) hP hD hS hA [11, 1] rfl rfl hl.1 rfl (lv_room (Nat.le_of_ble_eq_true rfl)) dX13_restore_39 ⟨Nat.le_of_ble_eq_true rfl, Nat.le_of_ble_eq_true rfl⟩ ⟨rfl, rfl⟩ (fun _ => updM [11, 1] [0, 2, 3, 4, 5, 6, 7, 8, 9, 10, 12, 13, 14, 15, 16, 17, 18, 19] [(a0 0, .inr (11, [.int ((0 : Int32)), .int (gvm.1), .int (gvm.2.1), .int (gim.2.1), .ref (a0 1), .ref (a0 2), .ref (a0 3), .ref (a0 4), .ref (a0 5), .ref (a0 6), .ref (a0 7), .ref (a0 8), .ref (a0 9), .ref (a0 10), .int (gtd), .int (gfl.1), .int (gfl.2), .ref (a0 11), .int (grd.1), .int (grd.2.1), .int (grd.2.2.1), .int (grd.2.2.2.1), .int (grd.2.2.2.2.1), .int (grd.2.2.2.2.2.1), .long (grd.2.2.2.2.2.2.1), .ref (a0 12), .int (gnv.1), .int (gnv.2.1), .int (gnv.2.2.1), .int (gnv.2.2.2.1), .int (gnv.2.2.2.2.1), .ref (a0 13), .ref (a0 14), .ref (a0 15), .ref (a0 16), .ref (a0 17), .ref (a0 18), .int (gac.1), .ref (a0 19), .ref (a0 20), .ref (a0 21), .ref (a0 22), .ref (a0 23), .ref (a0 24), .ref (a0 25), .ref (a0 26), .ref (a0 27), .int (gim.2.2.1), .ref (a0 28), .ref (a0 29), .ref (a0 30), .ref (a0 31), .int (gim.1), .int (gim.2.1), .int (gim.2.2.1), .ref (a0 32), .ref (a0 33), .ref (a0 34), .ref (a0 35), .ref (a0 36), .ref (a0 37), .ref (a0 38), .ref (a0 39), .ref (a0 40)])), (a0 2, .inl (cy 1, 5, .inl (gvm.2.2.2.2.1))), (a0 3, .inl (cy 1, 5, .inl (gvm.2.2.2.2.2.1))), (a0 4, .inl (cy 1, 25, .inl (gvm.2.2.2.2.2.2.1))), (a0 5, .inl (cy 1, 10, .inl (gvm.2.2.2.2.2.2.2.1))), (a0 6, .inl (cy 1, 10, .inl (gvm.2.2.2.2.2.2.2.2.1))), (a0 7, .inl (cy 1, 10, .inl (gvm.2.2.2.2.2.2.2.2.2.1))), (a0 8, .inl (cy 1, 10, .inl (gvm.2.2.2.2.2.2.2.2.2.2.1))), (a0 9, .inl (cy 1, 50, .inl (gvm.2.2.2.2.2.2.2.2.2.2.2))), (a0 28, .inl (cy 1, 36, .inl (grc.2))), (a0 33, .inl (cy 1, 5, .inl (gim.2.2.2.2.1))), (a0 34, .inl (cy 1, 25, .inl (gim.2.2.2.2.2.1))), (a0 35, .inl (cy 1, 10, .inl (gim.2.2.2.2.2.2.1))), (a0 36, .inl (cy 1, 10, .inl (gim.2.2.2.2.2.2.2.1))), (a0 37, .inl (cy 1, 10, .inl (gim.2.2.2.2.2.2.2.2.1))), (a0 38, .inl (cy 1, 10, .inl (gim.2.2.2.2.2.2.2.2.2.1))), (a0 39, .inl (cy 1, 50, .inl (gim.2.2.2.2.2.2.2.2.2.2.1))), (a0 40, .inl (cy 1, 36, .inl (gim.2.2.2.2.2.2.2.2.2.2.2)))] 20 rfl rfl rfl rfl rfl (by decide +kernel) (by decide +kernel) rfl) (fun u H locs hw hP hD hS => ?_)
    have hw := hw.symm
    subst hw
    have hP : va_P (dC, dI) vwCl (w_X13_restore cy a0 ((0 : Int32)) ((gvm.1, gvm.2.1, gim.2.1, v2, gvm.2.2.2.2)) gtd gfl grd gnv gac ((gim.2.2.1, grc.2)) gim) H := hP
    have hD : va_D A (w_X13_restore cy a0 ((0 : Int32)) ((gvm.1, gvm.2.1, gim.2.1, v2, gvm.2.2.2.2)) gtd gfl grd gnv gac ((gim.2.2.1, grc.2)) gim) := hD
    refine lv_aload_n hx hb dX13_restore_42 rfl (lv_at hl 0 rfl) ?_
    refine lv_aload_n hx hb dX13_restore_43 rfl (lv_at hl 0 rfl) ?_
    refine va_get (D := (dC, dI)) (ci := 11) (v := .ref (a0 33)) (C := RX13) (T := TX13) (N := 64) hx hb hts in_X13 hown hK hP 0 rfl rfl 56 (by decide) lk8 (fun _ h9 => h9) rfl dX13_restore_44 ?_
    refine lv_aload_n hx hb dX13_restore_47 rfl (lv_at hl 0 rfl) ?_
    refine va_get (D := (dC, dI)) (ci := 11) (v := .ref (a0 3)) (C := RX13) (T := TX13) (N := 64) hx hb hts in_X13 hown hK hP 0 rfl rfl 6 (by decide) lk9 (fun _ h9 => h9) rfl dX13_restore_48 ?_
    obtain ⟨v4, hv5, h⟩ := ok_bind h
    refine cl_vv (w2 := fun (u : ((Nat → Int32))) => w_X13_restore cy a0 ((0 : Int32)) ((gvm.1, gvm.2.1, gim.2.1, v2, gvm.2.2.2.2.1, u, gvm.2.2.2.2.2.2)) gtd gfl grd gnv gac ((gim.2.2.1, grc.2)) gim) (As := [.ref (a0 33), .ref (a0 3)]) (rest := []) ⟨hx, hb, hml, hown, hts⟩ (c_X13_copies l dC dI cy a0 (fun k => a0 (k + 33)) (fun k => a0 (k + 3)) 5 5 gim.2.2.2.2.1 gvm.2.2.2.2.2.1 H.size v4 hv5) (cwV 2 hts gX13_restore_X13_copies rfl rfl rfl (by decide +kernel) ⟨Nat.le_of_ble_eq_true rfl, Nat.le_of_ble_eq_true rfl⟩) (va_recv hK hP (ci := 11) (q0 := 0) rfl rfl) cl_blind (cl_pre hK hP hD [12, 3] (by decide) rfl) hP hD hS hA [12, 3] rfl rfl hl.1 rfl (lv_room (Nat.le_of_ble_eq_true rfl)) dX13_restore_51 ⟨Nat.le_of_ble_eq_true rfl, Nat.le_of_ble_eq_true rfl⟩ ⟨rfl, rfl⟩ (fun _ => updM [12, 3] [0, 1, 2, 4, 5, 6, 7, 8, 9, 10, 11, 13, 14, 15, 16, 17, 18, 19] [(a0 0, .inr (11, [.int ((0 : Int32)), .int (gvm.1), .int (gvm.2.1), .int (gim.2.1), .ref (a0 1), .ref (a0 2), .ref (a0 3), .ref (a0 4), .ref (a0 5), .ref (a0 6), .ref (a0 7), .ref (a0 8), .ref (a0 9), .ref (a0 10), .int (gtd), .int (gfl.1), .int (gfl.2), .ref (a0 11), .int (grd.1), .int (grd.2.1), .int (grd.2.2.1), .int (grd.2.2.2.1), .int (grd.2.2.2.2.1), .int (grd.2.2.2.2.2.1), .long (grd.2.2.2.2.2.2.1), .ref (a0 12), .int (gnv.1), .int (gnv.2.1), .int (gnv.2.2.1), .int (gnv.2.2.2.1), .int (gnv.2.2.2.2.1), .ref (a0 13), .ref (a0 14), .ref (a0 15), .ref (a0 16), .ref (a0 17), .ref (a0 18), .int (gac.1), .ref (a0 19), .ref (a0 20), .ref (a0 21), .ref (a0 22), .ref (a0 23), .ref (a0 24), .ref (a0 25), .ref (a0 26), .ref (a0 27), .int (gim.2.2.1), .ref (a0 28), .ref (a0 29), .ref (a0 30), .ref (a0 31), .int (gim.1), .int (gim.2.1), .int (gim.2.2.1), .ref (a0 32), .ref (a0 33), .ref (a0 34), .ref (a0 35), .ref (a0 36), .ref (a0 37), .ref (a0 38), .ref (a0 39), .ref (a0 40)])), (a0 1, .inl (cy 1, 5, .inl (v2))), (a0 2, .inl (cy 1, 5, .inl (gvm.2.2.2.2.1))), (a0 4, .inl (cy 1, 25, .inl (gvm.2.2.2.2.2.2.1))), (a0 5, .inl (cy 1, 10, .inl (gvm.2.2.2.2.2.2.2.1))), (a0 6, .inl (cy 1, 10, .inl (gvm.2.2.2.2.2.2.2.2.1))), (a0 7, .inl (cy 1, 10, .inl (gvm.2.2.2.2.2.2.2.2.2.1))), (a0 8, .inl (cy 1, 10, .inl (gvm.2.2.2.2.2.2.2.2.2.2.1))), (a0 9, .inl (cy 1, 50, .inl (gvm.2.2.2.2.2.2.2.2.2.2.2))), (a0 28, .inl (cy 1, 36, .inl (grc.2))), (a0 32, .inl (cy 1, 5, .inl (gim.2.2.2.1))), (a0 34, .inl (cy 1, 25, .inl (gim.2.2.2.2.2.1))), (a0 35, .inl (cy 1, 10, .inl (gim.2.2.2.2.2.2.1))), (a0 36, .inl (cy 1, 10, .inl (gim.2.2.2.2.2.2.2.1))), (a0 37, .inl (cy 1, 10, .inl (gim.2.2.2.2.2.2.2.2.1))), (a0 38, .inl (cy 1, 10, .inl (gim.2.2.2.2.2.2.2.2.2.1))), (a0 39, .inl (cy 1, 50, .inl (gim.2.2.2.2.2.2.2.2.2.2.1))), (a0 40, .inl (cy 1, 36, .inl (gim.2.2.2.2.2.2.2.2.2.2.2)))] 20 rfl rfl rfl rfl rfl (by decide +kernel) (by decide +kernel) rfl) (fun u H locs hw hP hD hS => ?_)
    have hw := hw.symm
    subst hw
    have hP : va_P (dC, dI) vwCl (w_X13_restore cy a0 ((0 : Int32)) ((gvm.1, gvm.2.1, gim.2.1, v2, gvm.2.2.2.2.1, v4, gvm.2.2.2.2.2.2)) gtd gfl grd gnv gac ((gim.2.2.1, grc.2)) gim) H := hP
    have hD : va_D A (w_X13_restore cy a0 ((0 : Int32)) ((gvm.1, gvm.2.1, gim.2.1, v2, gvm.2.2.2.2.1, v4, gvm.2.2.2.2.2.2)) gtd gfl grd gnv gac ((gim.2.2.1, grc.2)) gim) := hD
    refine lv_aload_n hx hb dX13_restore_54 rfl (lv_at hl 0 rfl) ?_
    refine lv_aload_n hx hb dX13_restore_55 rfl (lv_at hl 0 rfl) ?_
    refine va_get (D := (dC, dI)) (ci := 11) (v := .ref (a0 34)) (C := RX13) (T := TX13) (N := 64) hx hb hts in_X13 hown hK hP 0 rfl rfl 57 (by decide) lk10 (fun _ h9 => h9) rfl dX13_restore_56 ?_
    refine lv_aload_n hx hb dX13_restore_59 rfl (lv_at hl 0 rfl) ?_
    refine va_get (D := (dC, dI)) (ci := 11) (v := .ref (a0 4)) (C := RX13) (T := TX13) (N := 64) hx hb hts in_X13 hown hK hP 0 rfl rfl 7 (by decide) lk11 (fun _ h9 => h9) rfl dX13_restore_60 ?_
    obtain ⟨v6, hv7, h⟩ := ok_bind h
    refine cl_vv (w2 := fun (u : ((Nat → Int32))) => w_X13_restore cy a0 ((0 : Int32)) ((gvm.1, gvm.2.1, gim.2.1, v2, gvm.2.2.2.2.1, v4, u, gvm.2.2.2.2.2.2.2)) gtd gfl grd gnv gac ((gim.2.2.1, grc.2)) gim) (As := [.ref (a0 34), .ref (a0 4)]) (rest := []) ⟨hx, hb, hml, hown, hts⟩ (c_X13_copies l dC dI cy a0 (fun k => a0 (k + 34)) (fun k => a0 (k + 4)) 25 25 gim.2.2.2.2.2.1 gvm.2.2.2.2.2.2.1 H.size v6 hv7) (cwV 2 hts gX13_restore_X13_copies rfl rfl rfl (by decide +kernel) ⟨Nat.le_of_ble_eq_true rfl, Nat.le_of_ble_eq_true rfl⟩) (va_recv hK hP (ci := 11) (q0 := 0) rfl rfl) cl_blind (cl_pre hK hP hD [13, 4] (by decide) rfl) hP hD hS hA [13, 4] rfl rfl hl.1 rfl (lv_room (Nat.le_of_ble_eq_true rfl)) dX13_restore_63 ⟨Nat.le_of_ble_eq_true rfl, Nat.le_of_ble_eq_true rfl⟩ ⟨rfl, rfl⟩ (fun _ => updM [13, 4] [0, 1, 2, 3, 5, 6, 7, 8, 9, 10, 11, 12, 14, 15, 16, 17, 18, 19] [(a0 0, .inr (11, [.int ((0 : Int32)), .int (gvm.1), .int (gvm.2.1), .int (gim.2.1), .ref (a0 1), .ref (a0 2), .ref (a0 3), .ref (a0 4), .ref (a0 5), .ref (a0 6), .ref (a0 7), .ref (a0 8), .ref (a0 9), .ref (a0 10), .int (gtd), .int (gfl.1), .int (gfl.2), .ref (a0 11), .int (grd.1), .int (grd.2.1), .int (grd.2.2.1), .int (grd.2.2.2.1), .int (grd.2.2.2.2.1), .int (grd.2.2.2.2.2.1), .long (grd.2.2.2.2.2.2.1), .ref (a0 12), .int (gnv.1), .int (gnv.2.1), .int (gnv.2.2.1), .int (gnv.2.2.2.1), .int (gnv.2.2.2.2.1), .ref (a0 13), .ref (a0 14), .ref (a0 15), .ref (a0 16), .ref (a0 17), .ref (a0 18), .int (gac.1), .ref (a0 19), .ref (a0 20), .ref (a0 21), .ref (a0 22), .ref (a0 23), .ref (a0 24), .ref (a0 25), .ref (a0 26), .ref (a0 27), .int (gim.2.2.1), .ref (a0 28), .ref (a0 29), .ref (a0 30), .ref (a0 31), .int (gim.1), .int (gim.2.1), .int (gim.2.2.1), .ref (a0 32), .ref (a0 33), .ref (a0 34), .ref (a0 35), .ref (a0 36), .ref (a0 37), .ref (a0 38), .ref (a0 39), .ref (a0 40)])), (a0 1, .inl (cy 1, 5, .inl (v2))), (a0 2, .inl (cy 1, 5, .inl (gvm.2.2.2.2.1))), (a0 3, .inl (cy 1, 5, .inl (v4))), (a0 5, .inl (cy 1, 10, .inl (gvm.2.2.2.2.2.2.2.1))), (a0 6, .inl (cy 1, 10, .inl (gvm.2.2.2.2.2.2.2.2.1))), (a0 7, .inl (cy 1, 10, .inl (gvm.2.2.2.2.2.2.2.2.2.1))), (a0 8, .inl (cy 1, 10, .inl (gvm.2.2.2.2.2.2.2.2.2.2.1))), (a0 9, .inl (cy 1, 50, .inl (gvm.2.2.2.2.2.2.2.2.2.2.2))), (a0 28, .inl (cy 1, 36, .inl (grc.2))), (a0 32, .inl (cy 1, 5, .inl (gim.2.2.2.1))), (a0 33, .inl (cy 1, 5, .inl (gim.2.2.2.2.1))), (a0 35, .inl (cy 1, 10, .inl (gim.2.2.2.2.2.2.1))), (a0 36, .inl (cy 1, 10, .inl (gim.2.2.2.2.2.2.2.1))), (a0 37, .inl (cy 1, 10, .inl (gim.2.2.2.2.2.2.2.2.1))), (a0 38, .inl (cy 1, 10, .inl (gim.2.2.2.2.2.2.2.2.2.1))), (a0 39, .inl (cy 1, 50, .inl (gim.2.2.2.2.2.2.2.2.2.2.1))), (a0 40, .inl (cy 1, 36, .inl (gim.2.2.2.2.2.2.2.2.2.2.2)))] 20 rfl rfl rfl rfl rfl (by decide +kernel) (by decide +kernel) rfl) (fun u H locs hw hP hD hS => ?_)
    have hw := hw.symm
    subst hw
    have hP : va_P (dC, dI) vwCl (w_X13_restore cy a0 ((0 : Int32)) ((gvm.1, gvm.2.1, gim.2.1, v2, gvm.2.2.2.2.1, v4, v6, gvm.2.2.2.2.2.2.2)) gtd gfl grd gnv gac ((gim.2.2.1, grc.2)) gim) H := hP
    have hD : va_D A (w_X13_restore cy a0 ((0 : Int32)) ((gvm.1, gvm.2.1, gim.2.1, v2, gvm.2.2.2.2.1, v4, v6, gvm.2.2.2.2.2.2.2)) gtd gfl grd gnv gac ((gim.2.2.1, grc.2)) gim) := hD
    refine lv_aload_n hx hb dX13_restore_66 rfl (lv_at hl 0 rfl) ?_
    refine lv_aload_n hx hb dX13_restore_67 rfl (lv_at hl 0 rfl) ?_
    refine va_get (D := (dC, dI)) (ci := 11) (v := .ref (a0 35)) (C := RX13) (T := TX13) (N := 64) hx hb hts in_X13 hown hK hP 0 rfl rfl 58 (by decide) lk12 (fun _ h9 => h9) rfl dX13_restore_68 ?_
    refine lv_aload_n hx hb dX13_restore_71 rfl (lv_at hl 0 rfl) ?_
    refine va_get (D := (dC, dI)) (ci := 11) (v := .ref (a0 5)) (C := RX13) (T := TX13) (N := 64) hx hb hts in_X13 hown hK hP 0 rfl rfl 8 (by decide) lk13 (fun _ h9 => h9) rfl dX13_restore_72 ?_
    obtain ⟨v8, hv9, h⟩ := ok_bind h
    refine cl_vv (w2 := fun (u : ((Nat → Int32))) => w_X13_restore cy a0 ((0 : Int32)) ((gvm.1, gvm.2.1, gim.2.1, v2, gvm.2.2.2.2.1, v4, v6, u, gvm.2.2.2.2.2.2.2.2)) gtd gfl grd gnv gac ((gim.2.2.1, grc.2)) gim) (As := [.ref (a0 35), .ref (a0 5)]) (rest := []) ⟨hx, hb, hml, hown, hts⟩ (c_X13_copies l dC dI cy a0 (fun k => a0 (k + 35)) (fun k => a0 (k + 5)) 10 10 gim.2.2.2.2.2.2.1 gvm.2.2.2.2.2.2.2.1 H.size v8 hv9) (cwV 2 hts gX13_restore_X13_copies rfl rfl rfl (by decide +kernel) ⟨Nat.le_of_ble_eq_true rfl, Nat.le_of_ble_eq_true rfl⟩) (va_recv hK hP (ci := 11) (q0 := 0) rfl rfl) cl_blind (cl_pre hK hP hD [14, 5] (by decide) rfl) hP hD hS hA [14, 5] rfl rfl hl.1 rfl (lv_room (Nat.le_of_ble_eq_true rfl)) dX13_restore_75 ⟨Nat.le_of_ble_eq_true rfl, Nat.le_of_ble_eq_true rfl⟩ ⟨rfl, rfl⟩ (fun _ => updM [14, 5] [0, 1, 2, 3, 4, 6, 7, 8, 9, 10, 11, 12, 13, 15, 16, 17, 18, 19] [(a0 0, .inr (11, [.int ((0 : Int32)), .int (gvm.1), .int (gvm.2.1), .int (gim.2.1), .ref (a0 1), .ref (a0 2), .ref (a0 3), .ref (a0 4), .ref (a0 5), .ref (a0 6), .ref (a0 7), .ref (a0 8), .ref (a0 9), .ref (a0 10), .int (gtd), .int (gfl.1), .int (gfl.2), .ref (a0 11), .int (grd.1), .int (grd.2.1), .int (grd.2.2.1), .int (grd.2.2.2.1), .int (grd.2.2.2.2.1), .int (grd.2.2.2.2.2.1), .long (grd.2.2.2.2.2.2.1), .ref (a0 12), .int (gnv.1), .int (gnv.2.1), .int (gnv.2.2.1), .int (gnv.2.2.2.1), .int (gnv.2.2.2.2.1), .ref (a0 13), .ref (a0 14), .ref (a0 15), .ref (a0 16), .ref (a0 17), .ref (a0 18), .int (gac.1), .ref (a0 19), .ref (a0 20), .ref (a0 21), .ref (a0 22), .ref (a0 23), .ref (a0 24), .ref (a0 25), .ref (a0 26), .ref (a0 27), .int (gim.2.2.1), .ref (a0 28), .ref (a0 29), .ref (a0 30), .ref (a0 31), .int (gim.1), .int (gim.2.1), .int (gim.2.2.1), .ref (a0 32), .ref (a0 33), .ref (a0 34), .ref (a0 35), .ref (a0 36), .ref (a0 37), .ref (a0 38), .ref (a0 39), .ref (a0 40)])), (a0 1, .inl (cy 1, 5, .inl (v2))), (a0 2, .inl (cy 1, 5, .inl (gvm.2.2.2.2.1))), (a0 3, .inl (cy 1, 5, .inl (v4))), (a0 4, .inl (cy 1, 25, .inl (v6))), (a0 6, .inl (cy 1, 10, .inl (gvm.2.2.2.2.2.2.2.2.1))), (a0 7, .inl (cy 1, 10, .inl (gvm.2.2.2.2.2.2.2.2.2.1))), (a0 8, .inl (cy 1, 10, .inl (gvm.2.2.2.2.2.2.2.2.2.2.1))), (a0 9, .inl (cy 1, 50, .inl (gvm.2.2.2.2.2.2.2.2.2.2.2))), (a0 28, .inl (cy 1, 36, .inl (grc.2))), (a0 32, .inl (cy 1, 5, .inl (gim.2.2.2.1))), (a0 33, .inl (cy 1, 5, .inl (gim.2.2.2.2.1))), (a0 34, .inl (cy 1, 25, .inl (gim.2.2.2.2.2.1))), (a0 36, .inl (cy 1, 10, .inl (gim.2.2.2.2.2.2.2.1))), (a0 37, .inl (cy 1, 10, .inl (gim.2.2.2.2.2.2.2.2.1))), (a0 38, .inl (cy 1, 10, .inl (gim.2.2.2.2.2.2.2.2.2.1))), (a0 39, .inl (cy 1, 50, .inl (gim.2.2.2.2.2.2.2.2.2.2.1))), (a0 40, .inl (cy 1, 36, .inl (gim.2.2.2.2.2.2.2.2.2.2.2)))] 20 rfl rfl rfl rfl rfl (by decide +kernel) (by decide +kernel) rfl) (fun u H locs hw hP hD hS => ?_)
    have hw := hw.symm
    subst hw
    have hP : va_P (dC, dI) vwCl (w_X13_restore cy a0 ((0 : Int32)) ((gvm.1, gvm.2.1, gim.2.1, v2, gvm.2.2.2.2.1, v4, v6, v8, gvm.2.2.2.2.2.2.2.2)) gtd gfl grd gnv gac ((gim.2.2.1, grc.2)) gim) H := hP
    have hD : va_D A (w_X13_restore cy a0 ((0 : Int32)) ((gvm.1, gvm.2.1, gim.2.1, v2, gvm.2.2.2.2.1, v4, v6, v8, gvm.2.2.2.2.2.2.2.2)) gtd gfl grd gnv gac ((gim.2.2.1, grc.2)) gim) := hD
    refine lv_aload_n hx hb dX13_restore_78 rfl (lv_at hl 0 rfl) ?_
    refine lv_aload_n hx hb dX13_restore_79 rfl (lv_at hl 0 rfl) ?_
    refine va_get (D := (dC, dI)) (ci := 11) (v := .ref (a0 36)) (C := RX13) (T := TX13) (N := 64) hx hb hts in_X13 hown hK hP 0 rfl rfl 59 (by decide) lk14 (fun _ h9 => h9) rfl dX13_restore_80 ?_
    refine lv_aload_n hx hb dX13_restore_83 rfl (lv_at hl 0 rfl) ?_
    refine va_get (D := (dC, dI)) (ci := 11) (v := .ref (a0 6)) (C := RX13) (T := TX13) (N := 64) hx hb hts in_X13 hown hK hP 0 rfl rfl 9 (by decide) lk15 (fun _ h9 => h9) rfl dX13_restore_84 ?_
    obtain ⟨v10, hv11, h⟩ := ok_bind h
    refine cl_vv (w2 := fun (u : ((Nat → Int32))) => w_X13_restore cy a0 ((0 : Int32)) ((gvm.1, gvm.2.1, gim.2.1, v2, gvm.2.2.2.2.1, v4, v6, v8, u, gvm.2.2.2.2.2.2.2.2.2)) gtd gfl grd gnv gac ((gim.2.2.1, grc.2)) gim) (As := [.ref (a0 36), .ref (a0 6)]) (rest := []) ⟨hx, hb, hml, hown, hts⟩ (c_X13_copies l dC dI cy a0 (fun k => a0 (k + 36)) (fun k => a0 (k + 6)) 10 10 gim.2.2.2.2.2.2.2.1 gvm.2.2.2.2.2.2.2.2.1 H.size v10 hv11) (cwV 2 hts gX13_restore_X13_copies rfl rfl rfl (by decide +kernel) ⟨Nat.le_of_ble_eq_true rfl, Nat.le_of_ble_eq_true rfl⟩) (va_recv hK hP (ci := 11) (q0 := 0) rfl rfl) cl_blind (cl_pre hK hP hD [15, 6] (by decide) rfl) hP hD hS hA [15, 6] rfl rfl hl.1 rfl (lv_room (Nat.le_of_ble_eq_true rfl)) dX13_restore_87 ⟨Nat.le_of_ble_eq_true rfl, Nat.le_of_ble_eq_true rfl⟩ ⟨rfl, rfl⟩ (fun _ => updM [15, 6] [0, 1, 2, 3, 4, 5, 7, 8, 9, 10, 11, 12, 13, 14, 16, 17, 18, 19] [(a0 0, .inr (11, [.int ((0 : Int32)), .int (gvm.1), .int (gvm.2.1), .int (gim.2.1), .ref (a0 1), .ref (a0 2), .ref (a0 3), .ref (a0 4), .ref (a0 5), .ref (a0 6), .ref (a0 7), .ref (a0 8), .ref (a0 9), .ref (a0 10), .int (gtd), .int (gfl.1), .int (gfl.2), .ref (a0 11), .int (grd.1), .int (grd.2.1), .int (grd.2.2.1), .int (grd.2.2.2.1), .int (grd.2.2.2.2.1), .int (grd.2.2.2.2.2.1), .long (grd.2.2.2.2.2.2.1), .ref (a0 12), .int (gnv.1), .int (gnv.2.1), .int (gnv.2.2.1), .int (gnv.2.2.2.1), .int (gnv.2.2.2.2.1), .ref (a0 13), .ref (a0 14), .ref (a0 15), .ref (a0 16), .ref (a0 17), .ref (a0 18), .int (gac.1), .ref (a0 19), .ref (a0 20), .ref (a0 21), .ref (a0 22), .ref (a0 23), .ref (a0 24), .ref (a0 25), .ref (a0 26), .ref (a0 27), .int (gim.2.2.1), .ref (a0 28), .ref (a0 29), .ref (a0 30), .ref (a0 31), .int (gim.1), .int (gim.2.1), .int (gim.2.2.1), .ref (a0 32), .ref (a0 33), .ref (a0 34), .ref (a0 35), .ref (a0 36), .ref (a0 37), .ref (a0 38), .ref (a0 39), .ref (a0 40)])), (a0 1, .inl (cy 1, 5, .inl (v2))), (a0 2, .inl (cy 1, 5, .inl (gvm.2.2.2.2.1))), (a0 3, .inl (cy 1, 5, .inl (v4))), (a0 4, .inl (cy 1, 25, .inl (v6))), (a0 5, .inl (cy 1, 10, .inl (v8))), (a0 7, .inl (cy 1, 10, .inl (gvm.2.2.2.2.2.2.2.2.2.1))), (a0 8, .inl (cy 1, 10, .inl (gvm.2.2.2.2.2.2.2.2.2.2.1))), (a0 9, .inl (cy 1, 50, .inl (gvm.2.2.2.2.2.2.2.2.2.2.2))), (a0 28, .inl (cy 1, 36, .inl (grc.2))), (a0 32, .inl (cy 1, 5, .inl (gim.2.2.2.1))), (a0 33, .inl (cy 1, 5, .inl (gim.2.2.2.2.1))), (a0 34, .inl (cy 1, 25, .inl (gim.2.2.2.2.2.1))), (a0 35, .inl (cy 1, 10, .inl (gim.2.2.2.2.2.2.1))), (a0 37, .inl (cy 1, 10, .inl (gim.2.2.2.2.2.2.2.2.1))), (a0 38, .inl (cy 1, 10, .inl (gim.2.2.2.2.2.2.2.2.2.1))), (a0 39, .inl (cy 1, 50, .inl (gim.2.2.2.2.2.2.2.2.2.2.1))), (a0 40, .inl (cy 1, 36, .inl (gim.2.2.2.2.2.2.2.2.2.2.2)))] 20 rfl rfl rfl rfl rfl (by decide +kernel) (by decide +kernel) rfl) (fun u H locs hw hP hD hS => ?_)
    have hw := hw.symm
    subst hw
    have hP : va_P (dC, dI) vwCl (w_X13_restore cy a0 ((0 : Int32)) ((gvm.1, gvm.2.1, gim.2.1, v2, gvm.2.2.2.2.1, v4, v6, v8, v10, gvm.2.2.2.2.2.2.2.2.2)) gtd gfl grd gnv gac ((gim.2.2.1, grc.2)) gim) H := hP
    have hD : va_D A (w_X13_restore cy a0 ((0 : Int32)) ((gvm.1, gvm.2.1, gim.2.1, v2, gvm.2.2.2.2.1, v4, v6, v8, v10, gvm.2.2.2.2.2.2.2.2.2)) gtd gfl grd gnv gac ((gim.2.2.1, grc.2)) gim) := hD
    refine lv_aload_n hx hb dX13_restore_90 rfl (lv_at hl 0 rfl) ?_
    refine lv_aload_n hx hb dX13_restore_91 rfl (lv_at hl 0 rfl) ?_
    refine va_get (D := (dC, dI)) (ci := 11) (v := .ref (a0 37)) (C := RX13) (T := TX13) (N := 64) hx hb hts in_X13 hown hK hP 0 rfl rfl 60 (by decide) lk16 (fun _ h9 => h9) rfl dX13_restore_92 ?_
    refine lv_aload_n hx hb dX13_restore_95 rfl (lv_at hl 0 rfl) ?_
    refine va_get (D := (dC, dI)) (ci := 11) (v := .ref (a0 7)) (C := RX13) (T := TX13) (N := 64) hx hb hts in_X13 hown hK hP 0 rfl rfl 10 (by decide) lk17 (fun _ h9 => h9) rfl dX13_restore_96 ?_
    obtain ⟨v12, hv13, h⟩ := ok_bind h
    refine cl_vv (w2 := fun (u : ((Nat → Int32))) => w_X13_restore cy a0 ((0 : Int32)) ((gvm.1, gvm.2.1, gim.2.1, v2, gvm.2.2.2.2.1, v4, v6, v8, v10, u, gvm.2.2.2.2.2.2.2.2.2.2)) gtd gfl grd gnv gac ((gim.2.2.1, grc.2)) gim) (As := [.ref (a0 37), .ref (a0 7)]) (rest := []) ⟨hx, hb, hml, hown, hts⟩ (c_X13_copies l dC dI cy a0 (fun k => a0 (k + 37)) (fun k => a0 (k + 7)) 10 10 gim.2.2.2.2.2.2.2.2.1 gvm.2.2.2.2.2.2.2.2.2.1 H.size v12 hv13) (cwV 2 hts gX13_restore_X13_copies rfl rfl rfl (by decide +kernel) ⟨Nat.le_of_ble_eq_true rfl, Nat.le_of_ble_eq_true rfl⟩) (va_recv hK hP (ci := 11) (q0 := 0) rfl rfl) cl_blind (cl_pre hK hP hD [16, 7] (by decide) rfl) hP hD hS hA [16, 7] rfl rfl hl.1 rfl (lv_room (Nat.le_of_ble_eq_true rfl)) dX13_restore_99 ⟨Nat.le_of_ble_eq_true rfl, Nat.le_of_ble_eq_true rfl⟩ ⟨rfl, rfl⟩ (fun _ => updM [16, 7] [0, 1, 2, 3, 4, 5, 6, 8, 9, 10, 11, 12, 13, 14, 15, 17, 18, 19] [(a0 0, .inr (11, [.int ((0 : Int32)), .int (gvm.1), .int (gvm.2.1), .int (gim.2.1), .ref (a0 1), .ref (a0 2), .ref (a0 3), .ref (a0 4), .ref (a0 5), .ref (a0 6), .ref (a0 7), .ref (a0 8), .ref (a0 9), .ref (a0 10), .int (gtd), .int (gfl.1), .int (gfl.2), .ref (a0 11), .int (grd.1), .int (grd.2.1), .int (grd.2.2.1), .int (grd.2.2.2.1), .int (grd.2.2.2.2.1), .int (grd.2.2.2.2.2.1), .long (grd.2.2.2.2.2.2.1), .ref (a0 12), .int (gnv.1), .int (gnv.2.1), .int (gnv.2.2.1), .int (gnv.2.2.2.1), .int (gnv.2.2.2.2.1), .ref (a0 13), .ref (a0 14), .ref (a0 15), .ref (a0 16), .ref (a0 17), .ref (a0 18), .int (gac.1), .ref (a0 19), .ref (a0 20), .ref (a0 21), .ref (a0 22), .ref (a0 23), .ref (a0 24), .ref (a0 25), .ref (a0 26), .ref (a0 27), .int (gim.2.2.1), .ref (a0 28), .ref (a0 29), .ref (a0 30), .ref (a0 31), .int (gim.1), .int (gim.2.1), .int (gim.2.2.1), .ref (a0 32), .ref (a0 33), .ref (a0 34), .ref (a0 35), .ref (a0 36), .ref (a0 37), .ref (a0 38), .ref (a0 39), .ref (a0 40)])), (a0 1, .inl (cy 1, 5, .inl (v2))), (a0 2, .inl (cy 1, 5, .inl (gvm.2.2.2.2.1))), (a0 3, .inl (cy 1, 5, .inl (v4))), (a0 4, .inl (cy 1, 25, .inl (v6))), (a0 5, .inl (cy 1, 10, .inl (v8))), (a0 6, .inl (cy 1, 10, .inl (v10))), (a0 8, .inl (cy 1, 10, .inl (gvm.2.2.2.2.2.2.2.2.2.2.1))), (a0 9, .inl (cy 1, 50, .inl (gvm.2.2.2.2.2.2.2.2.2.2.2))), (a0 28, .inl (cy 1, 36, .inl (grc.2))), (a0 32, .inl (cy 1, 5, .inl (gim.2.2.2.1))), (a0 33, .inl (cy 1, 5, .inl (gim.2.2.2.2.1))), (a0 34, .inl (cy 1, 25, .inl (gim.2.2.2.2.2.1))), (a0 35, .inl (cy 1, 10, .inl (gim.2.2.2.2.2.2.1))), (a0 36, .inl (cy 1, 10, .inl (gim.2.2.2.2.2.2.2.1))), (a0 38, .inl (cy 1, 10, .inl (gim.2.2.2.2.2.2.2.2.2.1))), (a0 39, .inl (cy 1, 50, .inl (gim.2.2.2.2.2.2.2.2.2.2.1))), (a0 40, .inl (cy 1, 36, .inl (gim.2.2.2.2.2.2.2.2.2.2.2)))] 20 rfl rfl rfl rfl rfl (by decide +kernel) (by decide +kernel) rfl) (fun u H locs hw hP hD hS => ?_)
    have hw := hw.symm
    subst hw
    have hP : va_P (dC, dI) vwCl (w_X13_restore cy a0 ((0 : Int32)) ((gvm.1, gvm.2.1, gim.2.1, v2, gvm.2.2.2.2.1, v4, v6, v8, v10, v12, gvm.2.2.2.2.2.2.2.2.2.2)) gtd gfl grd gnv gac ((gim.2.2.1, grc.2)) gim) H := hP
    have hD : va_D A (w_X13_restore cy a0 ((0 : Int32)) ((gvm.1, gvm.2.1, gim.2.1, v2, gvm.2.2.2.2.1, v4, v6, v8, v10, v12, gvm.2.2.2.2.2.2.2.2.2.2)) gtd gfl grd gnv gac ((gim.2.2.1, grc.2)) gim) := hD
    refine lv_aload_n hx hb dX13_restore_102 rfl (lv_at hl 0 rfl) ?_
    refine lv_aload_n hx hb dX13_restore_103 rfl (lv_at hl 0 rfl) ?_
    refine va_get (D := (dC, dI)) (ci := 11) (v := .ref (a0 38)) (C := RX13) (T := TX13) (N := 64) hx hb hts in_X13 hown hK hP 0 rfl rfl 61 (by decide) lk18 (fun _ h9 => h9) rfl dX13_restore_104 ?_
    refine lv_aload_n hx hb dX13_restore_107 rfl (lv_at hl 0 rfl) ?_
    refine va_get (D := (dC, dI)) (ci := 11) (v := .ref (a0 8)) (C := RX13) (T := TX13) (N := 64) hx hb hts in_X13 hown hK hP 0 rfl rfl 11 (by decide) lk19 (fun _ h9 => h9) rfl dX13_restore_108 ?_
    obtain ⟨v14, hv15, h⟩ := ok_bind h
    refine cl_vv (w2 := fun (u : ((Nat → Int32))) => w_X13_restore cy a0 ((0 : Int32)) ((gvm.1, gvm.2.1, gim.2.1, v2, gvm.2.2.2.2.1, v4, v6, v8, v10, v12, u, gvm.2.2.2.2.2.2.2.2.2.2.2)) gtd gfl grd gnv gac ((gim.2.2.1, grc.2)) gim) (As := [.ref (a0 38), .ref (a0 8)]) (rest := []) ⟨hx, hb, hml, hown, hts⟩ (c_X13_copies l dC dI cy a0 (fun k => a0 (k + 38)) (fun k => a0 (k + 8)) 10 10 gim.2.2.2.2.2.2.2.2.2.1 gvm.2.2.2.2.2.2.2.2.2.2.1 H.size v14 hv15) (cwV 2 hts gX13_restore_X13_copies rfl rfl rfl (by decide +kernel) ⟨Nat.le_of_ble_eq_true rfl, Nat.le_of_ble_eq_true rfl⟩) (va_recv hK hP (ci := 11) (q0 := 0) rfl rfl) cl_blind (cl_pre hK hP hD [17, 8] (by decide) rfl) hP hD hS hA [17, 8] rfl rfl hl.1 rfl (lv_room (Nat.le_of_ble_eq_true rfl)) dX13_restore_111 ⟨Nat.le_of_ble_eq_true rfl, Nat.le_of_ble_eq_true rfl⟩ ⟨rfl, rfl⟩ (fun _ => updM [17, 8] [0, 1, 2, 3, 4, 5, 6, 7, 9, 10, 11, 12, 13, 14, 15, 16, 18, 19] [(a0 0, .inr (11, [.int ((0 : Int32)), .int (gvm.1), .int (gvm.2.1), .int (gim.2.1), .ref (a0 1), .ref (a0 2), .ref (a0 3), .ref (a0 4), .ref (a0 5), .ref (a0 6), .ref (a0 7), .ref (a0 8), .ref (a0 9), .ref (a0 10), .int (gtd), .int (gfl.1), .int (gfl.2), .ref (a0 11), .int (grd.1), .int (grd.2.1), .int (grd.2.2.1), .int (grd.2.2.2.1), .int (grd.2.2.2.2.1), .int (grd.2.2.2.2.2.1), .long (grd.2.2.2.2.2.2.1), .ref (a0 12), .int (gnv.1), .int (gnv.2.1), .int (gnv.2.2.1), .int (gnv.2.2.2.1), .int (gnv.2.2.2.2.1), .ref (a0 13), .ref (a0 14), .ref (a0 15), .ref (a0 16), .ref (a0 17), .ref (a0 18), .int (gac.1), .ref (a0 19), .ref (a0 20), .ref (a0 21), .ref (a0 22), .ref (a0 23), .ref (a0 24), .ref (a0 25), .ref (a0 26), .ref (a0 27), .int (gim.2.2.1), .ref (a0 28), .ref (a0 29), .ref (a0 30), .ref (a0 31), .int (gim.1), .int (gim.2.1), .int (gim.2.2.1), .ref (a0 32), .ref (a0 33), .ref (a0 34), .ref (a0 35), .ref (a0 36), .ref (a0 37), .ref (a0 38), .ref (a0 39), .ref (a0 40)])), (a0 1, .inl (cy 1, 5, .inl (v2))), (a0 2, .inl (cy 1, 5, .inl (gvm.2.2.2.2.1))), (a0 3, .inl (cy 1, 5, .inl (v4))), (a0 4, .inl (cy 1, 25, .inl (v6))), (a0 5, .inl (cy 1, 10, .inl (v8))), (a0 6, .inl (cy 1, 10, .inl (v10))), (a0 7, .inl (cy 1, 10, .inl (v12))), (a0 9, .inl (cy 1, 50, .inl (gvm.2.2.2.2.2.2.2.2.2.2.2))), (a0 28, .inl (cy 1, 36, .inl (grc.2))), (a0 32, .inl (cy 1, 5, .inl (gim.2.2.2.1))), (a0 33, .inl (cy 1, 5, .inl (gim.2.2.2.2.1))), (a0 34, .inl (cy 1, 25, .inl (gim.2.2.2.2.2.1))), (a0 35, .inl (cy 1, 10, .inl (gim.2.2.2.2.2.2.1))), (a0 36, .inl (cy 1, 10, .inl (gim.2.2.2.2.2.2.2.1))), (a0 37, .inl (cy 1, 10, .inl (gim.2.2.2.2.2.2.2.2.1))), (a0 39, .inl (cy 1, 50, .inl (gim.2.2.2.2.2.2.2.2.2.2.1))), (a0 40, .inl (cy 1, 36, .inl (gim.2.2.2.2.2.2.2.2.2.2.2)))] 20 rfl rfl rfl rfl rfl (by decide +kernel) (by decide +kernel) rfl) (fun u H locs hw hP hD hS => ?_)
    have hw := hw.symm
    subst hw
    have hP : va_P (dC, dI) vwCl (w_X13_restore cy a0 ((0 : Int32)) ((gvm.1, gvm.2.1, gim.2.1, v2, gvm.2.2.2.2.1, v4, v6, v8, v10, v12, v14, gvm.2.2.2.2.2.2.2.2.2.2.2)) gtd gfl grd gnv gac ((gim.2.2.1, grc.2)) gim) H := hP
    have hD : va_D A (w_X13_restore cy a0 ((0 : Int32)) ((gvm.1, gvm.2.1, gim.2.1, v2, gvm.2.2.2.2.1, v4, v6, v8, v10, v12, v14, gvm.2.2.2.2.2.2.2.2.2.2.2)) gtd gfl grd gnv gac ((gim.2.2.1, grc.2)) gim) := hD
    refine lv_aload_n hx hb dX13_restore_114 rfl (lv_at hl 0 rfl) ?_
    refine lv_aload_n hx hb dX13_restore_115 rfl (lv_at hl 0 rfl) ?_
    refine va_get (D := (dC, dI)) (ci := 11) (v := .ref (a0 39)) (C := RX13) (T := TX13) (N := 64) hx hb hts in_X13 hown hK hP 0 rfl rfl 62 (by decide) lk20 (fun _ h9 => h9) rfl dX13_restore_116 ?_
    refine lv_aload_n hx hb dX13_restore_119 rfl (lv_at hl 0 rfl) ?_
    refine va_get (D := (dC, dI)) (ci := 11) (v := .ref (a0 9)) (C := RX13) (T := TX13) (N := 64) hx hb hts in_X13 hown hK hP 0 rfl rfl 12 (by decide) lk21 (fun _ h9 => h9) rfl dX13_restore_120 ?_
    obtain ⟨v16, hv17, h⟩ := ok_bind h
    refine cl_vv (w2 := fun (u : ((Nat → Int32))) => w_X13_restore cy a0 ((0 : Int32)) ((gvm.1, gvm.2.1, gim.2.1, v2, gvm.2.2.2.2.1, v4, v6, v8, v10, v12, v14, u)) gtd gfl grd gnv gac ((gim.2.2.1, grc.2)) gim) (As := [.ref (a0 39), .ref (a0 9)]) (rest := []) ⟨hx, hb, hml, hown, hts⟩ (c_X13_copies l dC dI cy a0 (fun k => a0 (k + 39)) (fun k => a0 (k + 9)) 50 50 gim.2.2.2.2.2.2.2.2.2.2.1 gvm.2.2.2.2.2.2.2.2.2.2.2 H.size v16 hv17) (cwV 2 hts gX13_restore_X13_copies rfl rfl rfl (by decide +kernel) ⟨Nat.le_of_ble_eq_true rfl, Nat.le_of_ble_eq_true rfl⟩) (va_recv hK hP (ci := 11) (q0 := 0) rfl rfl) cl_blind (cl_pre hK hP hD [18, 9] (by decide) rfl) hP hD hS hA [18, 9] rfl rfl hl.1 rfl (lv_room (Nat.le_of_ble_eq_true rfl)) dX13_restore_123 ⟨Nat.le_of_ble_eq_true rfl, Nat.le_of_ble_eq_true rfl⟩ ⟨rfl, rfl⟩ (fun _ => updM [18, 9] [0, 1, 2, 3, 4, 5, 6, 7, 8, 10, 11, 12, 13, 14, 15, 16, 17, 19] [(a0 0, .inr (11, [.int ((0 : Int32)), .int (gvm.1), .int (gvm.2.1), .int (gim.2.1), .ref (a0 1), .ref (a0 2), .ref (a0 3), .ref (a0 4), .ref (a0 5), .ref (a0 6), .ref (a0 7), .ref (a0 8), .ref (a0 9), .ref (a0 10), .int (gtd), .int (gfl.1), .int (gfl.2), .ref (a0 11), .int (grd.1), .int (grd.2.1), .int (grd.2.2.1), .int (grd.2.2.2.1), .int (grd.2.2.2.2.1), .int (grd.2.2.2.2.2.1), .long (grd.2.2.2.2.2.2.1), .ref (a0 12), .int (gnv.1), .int (gnv.2.1), .int (gnv.2.2.1), .int (gnv.2.2.2.1), .int (gnv.2.2.2.2.1), .ref (a0 13), .ref (a0 14), .ref (a0 15), .ref (a0 16), .ref (a0 17), .ref (a0 18), .int (gac.1), .ref (a0 19), .ref (a0 20), .ref (a0 21), .ref (a0 22), .ref (a0 23), .ref (a0 24), .ref (a0 25), .ref (a0 26), .ref (a0 27), .int (gim.2.2.1), .ref (a0 28), .ref (a0 29), .ref (a0 30), .ref (a0 31), .int (gim.1), .int (gim.2.1), .int (gim.2.2.1), .ref (a0 32), .ref (a0 33), .ref (a0 34), .ref (a0 35), .ref (a0 36), .ref (a0 37), .ref (a0 38), .ref (a0 39), .ref (a0 40)])), (a0 1, .inl (cy 1, 5, .inl (v2))), (a0 2, .inl (cy 1, 5, .inl (gvm.2.2.2.2.1))), (a0 3, .inl (cy 1, 5, .inl (v4))), (a0 4, .inl (cy 1, 25, .inl (v6))), (a0 5, .inl (cy 1, 10, .inl (v8))), (a0 6, .inl (cy 1, 10, .inl (v10))), (a0 7, .inl (cy 1, 10, .inl (v12))), (a0 8, .inl (cy 1, 10, .inl (v14))), (a0 28, .inl (cy 1, 36, .inl (grc.2))), (a0 32, .inl (cy 1, 5, .inl (gim.2.2.2.1))), (a0 33, .inl (cy 1, 5, .inl (gim.2.2.2.2.1))), (a0 34, .inl (cy 1, 25, .inl (gim.2.2.2.2.2.1))), (a0 35, .inl (cy 1, 10, .inl (gim.2.2.2.2.2.2.1))), (a0 36, .inl (cy 1, 10, .inl (gim.2.2.2.2.2.2.2.1))), (a0 37, .inl (cy 1, 10, .inl (gim.2.2.2.2.2.2.2.2.1))), (a0 38, .inl (cy 1, 10, .inl (gim.2.2.2.2.2.2.2.2.2.1))), (a0 40, .inl (cy 1, 36, .inl (gim.2.2.2.2.2.2.2.2.2.2.2)))] 20 rfl rfl rfl rfl rfl (by decide +kernel) (by decide +kernel) rfl) (fun u H locs hw hP hD hS => ?_)
    have hw := hw.symm
    subst hw
    have hP : va_P (dC, dI) vwCl (w_X13_restore cy a0 ((0 : Int32)) ((gvm.1, gvm.2.1, gim.2.1, v2, gvm.2.2.2.2.1, v4, v6, v8, v10, v12, v14, v16)) gtd gfl grd gnv gac ((gim.2.2.1, grc.2)) gim) H := hP
    have hD : va_D A (w_X13_restore cy a0 ((0 : Int32)) ((gvm.1, gvm.2.1, gim.2.1, v2, gvm.2.2.2.2.1, v4, v6, v8, v10, v12, v14, v16)) gtd gfl grd gnv gac ((gim.2.2.1, grc.2)) gim) := hD
    refine lv_aload_n hx hb dX13_restore_126 rfl (lv_at hl 0 rfl) ?_
    refine lv_aload_n hx hb dX13_restore_127 rfl (lv_at hl 0 rfl) ?_
    refine va_get (D := (dC, dI)) (ci := 11) (v := .ref (a0 40)) (C := RX13) (T := TX13) (N := 64) hx hb hts in_X13 hown hK hP 0 rfl rfl 63 (by decide) lk22 (fun _ h9 => h9) rfl dX13_restore_128 ?_
    refine lv_aload_n hx hb dX13_restore_131 rfl (lv_at hl 0 rfl) ?_
    refine va_get (D := (dC, dI)) (ci := 11) (v := .ref (a0 28)) (C := RX13) (T := TX13) (N := 64) hx hb hts in_X13 hown hK hP 0 rfl rfl 48 (by decide) lk23 (fun _ h9 => h9) rfl dX13_restore_132 ?_
    obtain ⟨v18, hv19, h⟩ := ok_bind h
    refine cl_vv (w2 := fun (u : ((Nat → Int32))) => w_X13_restore cy a0 ((0 : Int32)) ((gvm.1, gvm.2.1, gim.2.1, v2, gvm.2.2.2.2.1, v4, v6, v8, v10, v12, v14, v16)) gtd gfl grd gnv gac ((gim.2.2.1, u)) gim) (As := [.ref (a0 40), .ref (a0 28)]) (rest := []) ⟨hx, hb, hml, hown, hts⟩ (c_X13_copies l dC dI cy a0 (fun k => a0 (k + 40)) (fun k => a0 (k + 28)) 36 36 gim.2.2.2.2.2.2.2.2.2.2.2 grc.2 H.size v18 hv19) (cwV 2 hts gX13_restore_X13_copies rfl rfl rfl (by decide +kernel) ⟨Nat.le_of_ble_eq_true rfl, Nat.le_of_ble_eq_true rfl⟩) (va_recv hK hP (ci := 11) (q0 := 0) rfl rfl) cl_blind (cl_pre hK hP hD [19, 10] (by decide) rfl) hP hD hS hA [19, 10] rfl rfl hl.1 rfl (lv_room (Nat.le_of_ble_eq_true rfl)) dX13_restore_135 ⟨Nat.le_of_ble_eq_true rfl, Nat.le_of_ble_eq_true rfl⟩ ⟨rfl, rfl⟩ (fun _ => updM [19, 10] [0, 1, 2, 3, 4, 5, 6, 7, 8, 9, 11, 12, 13, 14, 15, 16, 17, 18] [(a0 0, .inr (11, [.int ((0 : Int32)), .int (gvm.1), .int (gvm.2.1), .int (gim.2.1), .ref (a0 1), .ref (a0 2), .ref (a0 3), .ref (a0 4), .ref (a0 5), .ref (a0 6), .ref (a0 7), .ref (a0 8), .ref (a0 9), .ref (a0 10), .int (gtd), .int (gfl.1), .int (gfl.2), .ref (a0 11), .int (grd.1), .int (grd.2.1), .int (grd.2.2.1), .int (grd.2.2.2.1), .int (grd.2.2.2.2.1), .int (grd.2.2.2.2.2.1), .long (grd.2.2.2.2.2.2.1), .ref (a0 12), .int (gnv.1), .int (gnv.2.1), .int (gnv.2.2.1), .int (gnv.2.2.2.1), .int (gnv.2.2.2.2.1), .ref (a0 13), .ref (a0 14), .ref (a0 15), .ref (a0 16), .ref (a0 17), .ref (a0 18), .int (gac.1), .ref (a0 19), .ref (a0 20), .ref (a0 21), .ref (a0 22), .ref (a0 23), .ref (a0 24), .ref (a0 25), .ref (a0 26), .ref (a0 27), .int (gim.2.2.1), .ref (a0 28), .ref (a0 29), .ref (a0 30), .ref (a0 31), .int (gim.1), .int (gim.2.1), .int (gim.2.2.1), .ref (a0 32), .ref (a0 33), .ref (a0 34), .ref (a0 35), .ref (a0 36), .ref (a0 37), .ref (a0 38), .ref (a0 39), .ref (a0 40)])), (a0 1, .inl (cy 1, 5, .inl (v2))), (a0 2, .inl (cy 1, 5, .inl (gvm.2.2.2.2.1))), (a0 3, .inl (cy 1, 5, .inl (v4))), (a0 4, .inl (cy 1, 25, .inl (v6))), (a0 5, .inl (cy 1, 10, .inl (v8))), (a0 6, .inl (cy 1, 10, .inl (v10))), (a0 7, .inl (cy 1, 10, .inl (v12))), (a0 8, .inl (cy 1, 10, .inl (v14))), (a0 9, .inl (cy 1, 50, .inl (v16))), (a0 32, .inl (cy 1, 5, .inl (gim.2.2.2.1))), (a0 33, .inl (cy 1, 5, .inl (gim.2.2.2.2.1))), (a0 34, .inl (cy 1, 25, .inl (gim.2.2.2.2.2.1))), (a0 35, .inl (cy 1, 10, .inl (gim.2.2.2.2.2.2.1))), (a0 36, .inl (cy 1, 10, .inl (gim.2.2.2.2.2.2.2.1))), (a0 37, .inl (cy 1, 10, .inl (gim.2.2.2.2.2.2.2.2.1))), (a0 38, .inl (cy 1, 10, .inl (gim.2.2.2.2.2.2.2.2.2.1))), (a0 39, .inl (cy 1, 50, .inl (gim.2.2.2.2.2.2.2.2.2.2.1)))] 20 rfl rfl rfl rfl rfl (by decide +kernel) (by decide +kernel) rfl) (fun u H locs hw hP hD hS => ?_)
    have hw := hw.symm
    subst hw
    have hP : va_P (dC, dI) vwCl (w_X13_restore cy a0 ((0 : Int32)) ((gvm.1, gvm.2.1, gim.2.1, v2, gvm.2.2.2.2.1, v4, v6, v8, v10, v12, v14, v16)) gtd gfl grd gnv gac ((gim.2.2.1, v18)) gim) H := hP
    have hD : va_D A (w_X13_restore cy a0 ((0 : Int32)) ((gvm.1, gvm.2.1, gim.2.1, v2, gvm.2.2.2.2.1, v4, v6, v8, v10, v12, v14, v16)) gtd gfl grd gnv gac ((gim.2.2.1, v18)) gim) := hD
    refine lv_iconst (v := (1 : Int32)) hx hb dX13_restore_138 (by decide) ?_
    exact W.zret (v := (1 : Int32)) (ty := .boolean) hx hb hr rfl (fun t ht hW => by rw [hqq]; have hh := Option.some.inj h; exact ⟨⟨(1 : Int32), (((0 : Int32), (gvm.1, gvm.2.1, gim.2.1, v2, gvm.2.2.2.2.1, v4, v6, v8, v10, v12, v14, v16), (gim.2.2.1, v18))), rfl, ⟨fst_of hh, snd_of hh⟩, by rw [ht]; exact hP, va_K.moved hW.alike hK⟩, hS.F ht⟩) hS.2.2 dX13_restore_139
  · rw [if_pos c1] at h
    refine lv_iconst (v := (0 : Int32)) hx hb dX13_restore_12 (by decide) ?_
    exact W.zret (v := (0 : Int32)) (ty := .boolean) hx hb hr rfl (fun t ht hW => by rw [hqq]; have hh := Option.some.inj h; exact ⟨⟨(0 : Int32), (((0 : Int32), gvm, grc)), rfl, ⟨fst_of hh, snd_of hh⟩, by rw [ht]; exact hP, va_K.moved hW.alike hK⟩, hS.F ht⟩) hS.2.2 dX13_restore_13
