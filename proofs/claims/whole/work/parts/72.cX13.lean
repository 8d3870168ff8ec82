abbrev w_X13_all (cy : Nat → ClassId) (a0 : Nat → Nat) (gth : Int32) (gvm : Int32 × Int32 × Int32 × (Nat → Int32) × (Nat → Int32) × (Nat → Int32) × (Nat → Int32) × (Nat → Int32) × (Nat → Int32) × (Nat → Int32) × (Nat → Int32) × (Nat → Int32)) (gtd : Int32) (gfl : Int32 × Int32) (grd : Int32 × Int32 × Int32 × Int32 × Int32 × Int32 × Int64 × (Nat → Int32)) (gnv : Int32 × Int32 × Int32 × Int32 × Int32 × (Nat → Int32) × (Nat → Int32) × (Nat → Int32) × (Nat → Int32) × (Nat → Int32) × (Nat → Int32)) (gac : Int32 × (Nat → Int32) × (Nat → Int32)) (grc : Int32 × (Nat → Int32)) (gim : Int32 × Int32 × Int32 × (Nat → Int32) × (Nat → Int32) × (Nat → Int32) × (Nat → Int32) × (Nat → Int32) × (Nat → Int32) × (Nat → Int32) × (Nat → Int32) × (Nat → Int32)) : va_W := [(a0 0, .inr (11, [.int (gth), .int (gvm.1), .int (gvm.2.1), .int (gvm.2.2.1), .ref (a0 1), .ref (a0 2), .ref (a0 3), .ref (a0 4), .ref (a0 5), .ref (a0 6), .ref (a0 7), .ref (a0 8), .ref (a0 9), .ref (a0 10), .int (gtd), .int (gfl.1), .int (gfl.2), .ref (a0 11), .int (grd.1), .int (grd.2.1), .int (grd.2.2.1), .int (grd.2.2.2.1), .int (grd.2.2.2.2.1), .int (grd.2.2.2.2.2.1), .long (grd.2.2.2.2.2.2.1), .ref (a0 12), .int (gnv.1), .int (gnv.2.1), .int (gnv.2.2.1), .int (gnv.2.2.2.1), .int (gnv.2.2.2.2.1), .ref (a0 13), .ref (a0 14), .ref (a0 15), .ref (a0 16), .ref (a0 17), .ref (a0 18), .int (gac.1), .ref (a0 19), .ref (a0 20), .ref (a0 21), .ref (a0 22), .ref (a0 23), .ref (a0 24), .ref (a0 25), .ref (a0 26), .ref (a0 27), .int (grc.1), .ref (a0 28), .ref (a0 29), .ref (a0 30), .ref (a0 31), .int (gim.1), .int (gim.2.1), .int (gim.2.2.1), .ref (a0 32), .ref (a0 33), .ref (a0 34), .ref (a0 35), .ref (a0 36), .ref (a0 37), .ref (a0 38), .ref (a0 39), .ref (a0 40)])), (a0 1, .inl (cy 1, 5, .inl (gvm.2.2.2.1))), (a0 2, .inl (cy 1, 5, .inl (gvm.2.2.2.2.1))), (a0 3, .inl (cy 1, 5, .inl (gvm.2.2.2.2.2.1))), (a0 4, .inl (cy 1, 25, .inl (gvm.2.2.2.2.2.2.1))), (a0 5, .inl (cy 1, 10, .inl (gvm.2.2.2.2.2.2.2.1))), (a0 6, .inl (cy 1, 10, .inl (gvm.2.2.2.2.2.2.2.2.1))), (a0 7, .inl (cy 1, 10, .inl (gvm.2.2.2.2.2.2.2.2.2.1))), (a0 8, .inl (cy 1, 10, .inl (gvm.2.2.2.2.2.2.2.2.2.2.1))), (a0 9, .inl (cy 1, 50, .inl (gvm.2.2.2.2.2.2.2.2.2.2.2)))]
abbrev rm_X13_all : Room := { frames := 0, cells := 0, slots := 0, locals := 0 }
set_option maxHeartbeats 1000000 in
set_option maxRecDepth 100000 in
theorem c_X13_all (l : Launch) (dC : Nat → ClassId) (dI : Nat → Nat → Nat) (cy : Nat → ClassId) (a0 : Nat → Nat) (gth : Int32) (gvm : Int32 × Int32 × Int32 × (Nat → Int32) × (Nat → Int32) × (Nat → Int32) × (Nat → Int32) × (Nat → Int32) × (Nat → Int32) × (Nat → Int32) × (Nat → Int32) × (Nat → Int32)) (gtd : Int32) (gfl : Int32 × Int32) (grd : Int32 × Int32 × Int32 × Int32 × Int32 × Int32 × Int64 × (Nat → Int32)) (gnv : Int32 × Int32 × Int32 × Int32 × Int32 × (Nat → Int32) × (Nat → Int32) × (Nat → Int32) × (Nat → Int32) × (Nat → Int32) × (Nat → Int32)) (gac : Int32 × (Nat → Int32) × (Nat → Int32)) (grc : Int32 × (Nat → Int32)) (gim : Int32 × Int32 × Int32 × (Nat → Int32) × (Nat → Int32) × (Nat → Int32) × (Nat → Int32) × (Nat → Int32) × (Nat → Int32) × (Nat → Int32) × (Nat → Int32) × (Nat → Int32)) (sz : Nat) (R0 : Int32) (h : p_X13_all gvm = some R0) : Met l yX13_all wsX13_all rm_X13_all (va_Pc [.ref (a0 0)] (prC dC dI cy (w_X13_all cy a0 gth gvm gtd gfl grd gnv gac grc gim) sz)) (va_Qi (fun (r : Int32) (_ : Unit) => r = R0) (fun (_ : Unit) t => poC dC dI cy (w_X13_all cy a0 gth gvm gtd gfl grd gnv gac grc gim) t) (va_A (w_X13_all cy a0 gth gvm gtd gfl grd gnv gac grc gim) sz)) 0 0 (va_A (w_X13_all cy a0 gth gvm gtd gfl grd gnv gac grc gim) sz) := by
  refine Met.ofW (cc := cX13_all) (maxL := 3) (ret := (some .int)) (by decide) rfl ?_
  intro p e s m aa below meth c s₁ B hml hv
  obtain ⟨haa, hsz, hP, hK, hD0⟩ := hv
  have hx := B.exec
  have hb := B.bytes
  have hr := B.returns
  have hts := atoms_spec (ws := wsX13_all) B.pre
  have hown : s.vm.findClass RX13 = some m.cls := findClass_of_methodNamed B.named
  have hlocks := B.notSynchronized
  subst hsz
  have hD := hD0.self (sz := s.heap.size)
  obtain ⟨qq, hqq⟩ : ∃ qq, qq = (va_Qi (fun (r : Int32) (_ : Unit) => r = R0) (fun (_ : Unit) t => poC dC dI cy (w_X13_all cy a0 gth gvm gtd gfl grd gnv gac grc gim) t) (va_A (w_X13_all cy a0 gth gvm gtd gfl grd gnv gac grc gim) s.heap.size)) := ⟨_, rfl⟩
  rw [← hqq]
  generalize hAe : va_A (w_X13_all cy a0 gth gvm gtd gfl grd gnv gac grc gim) s.heap.size = A at hD hqq ⊢
  have hA : ∀ q : Nat, s.heap.size ≤ q → A q := fun q h => by rw [← hAe]; exact Or.inr h
  have hS : va_S A s.heap s.heap [] := va_S.rf
  have hl := lv_entry ([.ref (a0 0)]) (n := 3) (Nat.le_of_ble_eq_true rfl)
  have hE : entryFrame m aa 3 = F0 m 0 ((lg_sl ([.ref (a0 0)]) ++ List.replicate (3 - (lg_sl ([.ref (a0 0)])).length) Slot.unset).toArray) [] := by rw [haa]; exact lg_entry_eq m _ 3
  refine W.eq hE ?_
  generalize (lg_sl ([.ref (a0 0)]) ++ List.replicate (3 - (lg_sl ([.ref (a0 0)])).length) Slot.unset).toArray = ls at hl ⊢
  have hl : lv_has ls 3 [(0, .ref (a0 0))] := hl
  change W p l e rm_X13_all s m aa below meth c s.heap [] 0 0 (MQ below qq aa s 0 0 A) (F0 m 0 ls [])
  have hS0 := hS
  have lk0 := hts (.fieldLink RX13 245 "GoatDoorsModel" "owners" "I") (by decide +kernel)
  have lk1 := hts (.fieldLink RX13 7 "GoatDoorsModel" "goats" "[I") (by decide +kernel)
  have in_X13 : ∀ w ∈ wsX130, w ∈ wsX13_all := by decide +kernel
  have c4 : ∀ (n : Nat), ∀ (x1 : Int32) (x2 : Int32) (H : Heap) (locs : List Loc) (ls : Array Slot), p_X13_all_4 gvm n x1 x2 = some R0 → va_P (dC, dI) vwCl (w_X13_all cy a0 gth gvm gtd gfl grd gnv gac grc gim) H → va_D A (w_X13_all cy a0 gth gvm gtd gfl grd gnv gac grc gim) → va_S A s.heap H locs → lv_has ls 3 [(0, .ref (a0 0)), (1, .int x1), (2, .int x2)] → W p l e rm_X13_all s m aa below meth c H locs 0 0 (MQ below qq aa s 0 0 A) (F0 m 4 ls []) := by
    intro  n
    induction n with
    | zero => intro x1 x2 H locs ls h; exact no_some h
    | succ n ih =>
      intro x1 x2 H locs ls h hP hD hS hl
      rw [p_X13_all_4.eq_2] at h
      refine lv_iload_n hx hb dX13_all_4 rfl (lv_at hl 2 rfl) ?_
      refine lv_aload_n hx hb dX13_all_5 rfl (lv_at hl 0 rfl) ?_
      refine va_get (D := (dC, dI)) (ci := 11) (v := .int gvm.1) (C := RX13) (T := TX13) (N := 64) hx hb hts in_X13 hown hK hP 0 rfl rfl 1 (by decide) lk0 (fun _ h9 => h9) rfl dX13_all_6 ?_
      refine lv_icmp_ge (tgt := 27) hx hb dX13_all_9 (by decide) (fun c1 => ?_) (fun c1 => ?_)
      · rw [if_pos c1] at h
        refine lv_iload_n hx hb dX13_all_27 rfl (lv_at hl 1 rfl) ?_
        exact W.iret (v := x1) hx hb hr (fun t ht hW => by rw [hqq]; have hh := Option.some.inj h; exact ⟨⟨x1, (()), rfl, Option.some.inj h, by rw [ht]; exact hP, va_K.moved hW.alike hK⟩, hS.F ht⟩) hS.2.2 dX13_all_28
      · rw [if_neg c1] at h
        refine lv_iload_n hx hb dX13_all_12 rfl (lv_at hl 1 rfl) ?_
        refine lv_aload_n hx hb dX13_all_13 rfl (lv_at hl 0 rfl) ?_
        refine va_get (D := (dC, dI)) (ci := 11) (v := .ref (a0 1)) (C := RX13) (T := TX13) (N := 64) hx hb hts in_X13 hown hK hP 0 rfl rfl 4 (by decide) lk1 (fun _ h9 => h9) rfl dX13_all_14 ?_
        refine lv_iload_n hx hb dX13_all_17 rfl (lv_at hl 2 rfl) ?_
        obtain ⟨hi2, h⟩ := ok_if h
        refine va_iald hx hb hK hP 1 1 rfl rfl (ix_in hi2) dX13_all_18 ?_
        refine lv_iadd hx hb dX13_all_19 ?_
        refine lv_istore_n (lv' := [(1, .int (x1 + (gvm.2.2.2.1 x2.toNatClampNeg))), (0, .ref (a0 0)), (2, .int x2)]) hx hb dX13_all_20 rfl hl (by decide) rfl (fun ls hl => ?_)
        refine lv_iinc (v := (x2 + (1 : Int32))) (lv' := [(2, .int (x2 + (1 : Int32))), (1, .int (x1 + (gvm.2.2.2.1 x2.toNatClampNeg))), (0, .ref (a0 0))]) hx hb dX13_all_21 hl (k := 2) rfl rfl (by decide) rfl (fun ls hl => ?_)
        refine lv_goto (tgt := 4) hx hb dX13_all_24 (by decide) ?_
        exact ih (x1 + (gvm.2.2.2.1 x2.toNatClampNeg)) (x2 + (1 : Int32)) H locs ls h hP hD hS (lv_sub hl [2, 1, 0] rfl)
  obtain ⟨H, hH⟩ : ∃ H : Heap, H = s.heap := ⟨_, rfl⟩
  obtain ⟨locs, hlocs⟩ : ∃ locs : List Loc, locs = [] := ⟨_, rfl⟩
  have hS : va_S A s.heap H locs := by rw [hH, hlocs]; exact hS
  rw [← hH] at hP
  suffices hg : W p l e rm_X13_all s m aa below meth c H locs 0 0 (MQ below qq aa s 0 0 A) (F0 m 0 ls []) by subst hH; subst hlocs; exact hg
  unfold p_X13_all at h
  refine lv_iconst (v := (0 : Int32)) hx hb dX13_all_0 (by decide) ?_
  refine lv_istore_n (lv' := [(1, .int (0 : Int32)), (0, .ref (a0 0))]) hx hb dX13_all_1 rfl hl (by decide) rfl (fun ls hl => ?_)
  refine lv_iconst (v := (0 : Int32)) hx hb dX13_all_2 (by decide) ?_
  refine lv_istore_n (lv' := [(2, .int (0 : Int32)), (1, .int (0 : Int32)), (0, .ref (a0 0))]) hx hb dX13_all_3 rfl hl (by decide) rfl (fun ls hl => ?_)
  exact c4 fu (0 : Int32) (0 : Int32) H locs ls h hP hD hS (lv_sub hl [2, 1, 0] rfl)

abbrev w_X13_lentBy (cy : Nat → ClassId) (a0 : Nat → Nat) (gth : Int32) (gvm : Int32 × Int32 × Int32 × (Nat → Int32) × (Nat → Int32) × (Nat → Int32) × (Nat → Int32) × (Nat → Int32) × (Nat → Int32) × (Nat → Int32) × (Nat → Int32) × (Nat → Int32)) (gtd : Int32) (gfl : Int32 × Int32) (grd : Int32 × Int32 × Int32 × Int32 × Int32 × Int32 × Int64 × (Nat → Int32)) (gnv : Int32 × Int32 × Int32 × Int32 × Int32 × (Nat → Int32) × (Nat → Int32) × (Nat → Int32) × (Nat → Int32) × (Nat → Int32) × (Nat → Int32)) (gac : Int32 × (Nat → Int32) × (Nat → Int32)) (grc : Int32 × (Nat → Int32)) (gim : Int32 × Int32 × Int32 × (Nat → Int32) × (Nat → Int32) × (Nat → Int32) × (Nat → Int32) × (Nat → Int32) × (Nat → Int32) × (Nat → Int32) × (Nat → Int32) × (Nat → Int32)) : va_W := [(a0 0, .inr (11, [.int (gth), .int (gvm.1), .int (gvm.2.1), .int (gvm.2.2.1), .ref (a0 1), .ref (a0 2), .ref (a0 3), .ref (a0 4), .ref (a0 5), .ref (a0 6), .ref (a0 7), .ref (a0 8), .ref (a0 9), .ref (a0 10), .int (gtd), .int (gfl.1), .int (gfl.2), .ref (a0 11), .int (grd.1), .int (grd.2.1), .int (grd.2.2.1), .int (grd.2.2.2.1), .int (grd.2.2.2.2.1), .int (grd.2.2.2.2.2.1), .long (grd.2.2.2.2.2.2.1), .ref (a0 12), .int (gnv.1), .int (gnv.2.1), .int (gnv.2.2.1), .int (gnv.2.2.2.1), .int (gnv.2.2.2.2.1), .ref (a0 13), .ref (a0 14), .ref (a0 15), .ref (a0 16), .ref (a0 17), .ref (a0 18), .int (gac.1), .ref (a0 19), .ref (a0 20), .ref (a0 21), .ref (a0 22), .ref (a0 23), .ref (a0 24), .ref (a0 25), .ref (a0 26), .ref (a0 27), .int (grc.1), .ref (a0 28), .ref (a0 29), .ref (a0 30), .ref (a0 31), .int (gim.1), .int (gim.2.1), .int (gim.2.2.1), .ref (a0 32), .ref (a0 33), .ref (a0 34), .ref (a0 35), .ref (a0 36), .ref (a0 37), .ref (a0 38), .ref (a0 39), .ref (a0 40)])), (a0 1, .inl (cy 1, 5, .inl (gvm.2.2.2.1))), (a0 2, .inl (cy 1, 5, .inl (gvm.2.2.2.2.1))), (a0 3, .inl (cy 1, 5, .inl (gvm.2.2.2.2.2.1))), (a0 4, .inl (cy 1, 25, .inl (gvm.2.2.2.2.2.2.1))), (a0 5, .inl (cy 1, 10, .inl (gvm.2.2.2.2.2.2.2.1))), (a0 6, .inl (cy 1, 10, .inl (gvm.2.2.2.2.2.2.2.2.1))), (a0 7, .inl (cy 1, 10, .inl (gvm.2.2.2.2.2.2.2.2.2.1))), (a0 8, .inl (cy 1, 10, .inl (gvm.2.2.2.2.2.2.2.2.2.2.1))), (a0 9, .inl (cy 1, 50, .inl (gvm.2.2.2.2.2.2.2.2.2.2.2)))]
abbrev rm_X13_lentBy : Room := { frames := 0, cells := 0, slots := 0, locals := 0 }
set_option maxHeartbeats 1000000 in
set_option maxRecDepth 100000 in
theorem c_X13_lentBy (l : Launch) (dC : Nat → ClassId) (dI : Nat → Nat → Nat) (cy : Nat → ClassId) (a0 : Nat → Nat) (gth : Int32) (gvm : Int32 × Int32 × Int32 × (Nat → Int32) × (Nat → Int32) × (Nat → Int32) × (Nat → Int32) × (Nat → Int32) × (Nat → Int32) × (Nat → Int32) × (Nat → Int32) × (Nat → Int32)) (gtd : Int32) (gfl : Int32 × Int32) (grd : Int32 × Int32 × Int32 × Int32 × Int32 × Int32 × Int64 × (Nat → Int32)) (gnv : Int32 × Int32 × Int32 × Int32 × Int32 × (Nat → Int32) × (Nat → Int32) × (Nat → Int32) × (Nat → Int32) × (Nat → Int32) × (Nat → Int32)) (gac : Int32 × (Nat → Int32) × (Nat → Int32)) (grc : Int32 × (Nat → Int32)) (gim : Int32 × Int32 × Int32 × (Nat → Int32) × (Nat → Int32) × (Nat → Int32) × (Nat → Int32) × (Nat → Int32) × (Nat → Int32) × (Nat → Int32) × (Nat → Int32) × (Nat → Int32)) (x1 : Int32) (sz : Nat) (R0 : Int32) (h : p_X13_lentBy gvm x1 = some R0) : Met l yX13_lentBy wsX13_lentBy rm_X13_lentBy (va_Pc [.ref (a0 0), .int x1] (prC dC dI cy (w_X13_lentBy cy a0 gth gvm gtd gfl grd gnv gac grc gim) sz)) (va_Qi (fun (r : Int32) (_ : Unit) => r = R0) (fun (_ : Unit) t => poC dC dI cy (w_X13_lentBy cy a0 gth gvm gtd gfl grd gnv gac grc gim) t) (va_A (w_X13_lentBy cy a0 gth gvm gtd gfl grd gnv gac grc gim) sz)) 0 0 (va_A (w_X13_lentBy cy a0 gth gvm gtd gfl grd gnv gac grc gim) sz) := by
  refine Met.ofW (cc := cX13_lentBy) (maxL := 4) (ret := (some .int)) (by decide) rfl ?_
  intro p e s m aa below meth c s₁ B hml hv
  obtain ⟨haa, hsz, hP, hK, hD0⟩ := hv
  have hx := B.exec
  have hb := B.bytes
  have hr := B.returns
  have hts := atoms_spec (ws := wsX13_lentBy) B.pre
  have hown : s.vm.findClass RX13 = some m.cls := findClass_of_methodNamed B.named
  have hlocks := B.notSynchronized
  subst hsz
  have hD := hD0.self (sz := s.heap.size)
  obtain ⟨qq, hqq⟩ : ∃ qq, qq = (va_Qi (fun (r : Int32) (_ : Unit) => r = R0) (fun (_ : Unit) t => poC dC dI cy (w_X13_lentBy cy a0 gth gvm gtd gfl grd gnv gac grc gim) t) (va_A (w_X13_lentBy cy a0 gth gvm gtd gfl grd gnv gac grc gim) s.heap.size)) := ⟨_, rfl⟩
  rw [← hqq]
  generalize hAe : va_A (w_X13_lentBy cy a0 gth gvm gtd gfl grd gnv gac grc gim) s.heap.size = A at hD hqq ⊢
  have hA : ∀ q : Nat, s.heap.size ≤ q → A q := fun q h => by rw [← hAe]; exact Or.inr h
  have hS : va_S A s.heap s.heap [] := va_S.rf
  have hl := lv_entry ([.ref (a0 0), .int x1]) (n := 4) (Nat.le_of_ble_eq_true rfl)
  have hE : entryFrame m aa 4 = F0 m 0 ((lg_sl ([.ref (a0 0), .int x1]) ++ List.replicate (4 - (lg_sl ([.ref (a0 0), .int x1])).length) Slot.unset).toArray) [] := by rw [haa]; exact lg_entry_eq m _ 4
  refine W.eq hE ?_
  generalize (lg_sl ([.ref (a0 0), .int x1]) ++ List.replicate (4 - (lg_sl ([.ref (a0 0), .int x1])).length) Slot.unset).toArray = ls at hl ⊢
  have hl : lv_has ls 4 [(0, .ref (a0 0)), (1, .int x1)] := hl
  change W p l e rm_X13_lentBy s m aa below meth c s.heap [] 0 0 (MQ below qq aa s 0 0 A) (F0 m 0 ls [])
  have hS0 := hS
  have lk0 := hts (.fieldLink RX13 19 "GoatDoorsModel" "lent" "[I") (by decide +kernel)
  have in_X13 : ∀ w ∈ wsX130, w ∈ wsX13_lentBy := by decide +kernel
  have c4 : ∀ (n : Nat), ∀ (x1 : Int32) (x2 : Int32) (x3 : Int32) (H : Heap) (locs : List Loc) (ls : Array Slot), p_X13_lentBy_4 gvm n x1 x2 x3 = some R0 → va_P (dC, dI) vwCl (w_X13_lentBy cy a0 gth gvm gtd gfl grd gnv gac grc gim) H → va_D A (w_X13_lentBy cy a0 gth gvm gtd gfl grd gnv gac grc gim) → va_S A s.heap H locs → lv_has ls 4 [(0, .ref (a0 0)), (1, .int x1), (2, .int x2), (3, .int x3)] → W p l e rm_X13_lentBy s m aa below meth c H locs 0 0 (MQ below qq aa s 0 0 A) (F0 m 4 ls []) := by
    intro  n
    induction n with
    | zero => intro x1 x2 x3 H locs ls h; exact no_some h
    | succ n ih =>
      intro x1 x2 x3 H locs ls h hP hD hS hl
      rw [p_X13_lentBy_4.eq_2] at h
      refine lv_iload_n hx hb dX13_lentBy_4 rfl (lv_at hl 3 rfl) ?_
      refine lv_iconst (v := (5 : Int32)) hx hb dX13_lentBy_5 (by decide) ?_
      refine lv_icmp_ge (tgt := 28) hx hb dX13_lentBy_6 (by decide) (fun c1 => ?_) (fun c1 => ?_)
      · rw [if_pos c1] at h
        refine lv_iload_n hx hb dX13_lentBy_28 rfl (lv_at hl 2 rfl) ?_
        exact W.iret (v := x2) hx hb hr (fun t ht hW => by rw [hqq]; have hh := Option.some.inj h; exact ⟨⟨x2, (()), rfl, Option.some.inj h, by rw [ht]; exact hP, va_K.moved hW.alike hK⟩, hS.F ht⟩) hS.2.2 dX13_lentBy_29
      · rw [if_neg c1] at h
        refine lv_iload_n hx hb dX13_lentBy_9 rfl (lv_at hl 2 rfl) ?_
        refine lv_aload_n hx hb dX13_lentBy_10 rfl (lv_at hl 0 rfl) ?_
        refine va_get (D := (dC, dI)) (ci := 11) (v := .ref (a0 4)) (C := RX13) (T := TX13) (N := 64) hx hb hts in_X13 hown hK hP 0 rfl rfl 7 (by decide) lk0 (fun _ h9 => h9) rfl dX13_lentBy_11 ?_
        refine lv_iconst (v := (5 : Int32)) hx hb dX13_lentBy_14 (by decide) ?_
        refine lv_iload_n hx hb dX13_lentBy_15 rfl (lv_at hl 1 rfl) ?_
        refine lv_imul hx hb dX13_lentBy_16 ?_
        refine lv_iload_n hx hb dX13_lentBy_17 rfl (lv_at hl 3 rfl) ?_
        refine lv_iadd hx hb dX13_lentBy_18 ?_
        obtain ⟨hi2, h⟩ := ok_if h
        refine va_iald hx hb hK hP 4 1 rfl rfl (ix_in hi2) dX13_lentBy_19 ?_
        refine lv_iadd hx hb dX13_lentBy_20 ?_
        refine lv_istore_n (lv' := [(2, .int (x2 + (gvm.2.2.2.2.2.2.1 (((5 : Int32) * x1) + x3).toNatClampNeg))), (0, .ref (a0 0)), (1, .int x1), (3, .int x3)]) hx hb dX13_lentBy_21 rfl hl (by decide) rfl (fun ls hl => ?_)
        refine lv_iinc (v := (x3 + (1 : Int32))) (lv' := [(3, .int (x3 + (1 : Int32))), (2, .int (x2 + (gvm.2.2.2.2.2.2.1 (((5 : Int32) * x1) + x3).toNatClampNeg))), (0, .ref (a0 0)), (1, .int x1)]) hx hb dX13_lentBy_22 hl (k := 3) rfl rfl (by decide) rfl (fun ls hl => ?_)
        refine lv_goto (tgt := 4) hx hb dX13_lentBy_25 (by decide) ?_
        exact ih x1 (x2 + (gvm.2.2.2.2.2.2.1 (((5 : Int32) * x1) + x3).toNatClampNeg)) (x3 + (1 : Int32)) H locs ls h hP hD hS (lv_sub hl [2, 3, 1, 0] rfl)
  obtain ⟨H, hH⟩ : ∃ H : Heap, H = s.heap := ⟨_, rfl⟩
  obtain ⟨locs, hlocs⟩ : ∃ locs : List Loc, locs = [] := ⟨_, rfl⟩
  have hS : va_S A s.heap H locs := by rw [hH, hlocs]; exact hS
  rw [← hH] at hP
  suffices hg : W p l e rm_X13_lentBy s m aa below meth c H locs 0 0 (MQ below qq aa s 0 0 A) (F0 m 0 ls []) by subst hH; subst hlocs; exact hg
  unfold p_X13_lentBy at h
  refine lv_iconst (v := (0 : Int32)) hx hb dX13_lentBy_0 (by decide) ?_
  refine lv_istore_n (lv' := [(2, .int (0 : Int32)), (0, .ref (a0 0)), (1, .int x1)]) hx hb dX13_lentBy_1 rfl hl (by decide) rfl (fun ls hl => ?_)
  refine lv_iconst (v := (0 : Int32)) hx hb dX13_lentBy_2 (by decide) ?_
  refine lv_istore_n (lv' := [(3, .int (0 : Int32)), (2, .int (0 : Int32)), (0, .ref (a0 0)), (1, .int x1)]) hx hb dX13_lentBy_3 rfl hl (by decide) rfl (fun ls hl => ?_)
  exact c4 fu x1 (0 : Int32) (0 : Int32) H locs ls h hP hD hS (lv_sub hl [2, 3, 1, 0] rfl)

abbrev w_X13_isSwap (cy : Nat → ClassId) (a0 : Nat → Nat) (gth : Int32) (gvm : Int32 × Int32 × Int32 × (Nat → Int32) × (Nat → Int32) × (Nat → Int32) × (Nat → Int32) × (Nat → Int32) × (Nat → Int32) × (Nat → Int32) × (Nat → Int32) × (Nat → Int32)) (gtd : Int32) (gfl : Int32 × Int32) (grd : Int32 × Int32 × Int32 × Int32 × Int32 × Int32 × Int64 × (Nat → Int32)) (gnv : Int32 × Int32 × Int32 × Int32 × Int32 × (Nat → Int32) × (Nat → Int32) × (Nat → Int32) × (Nat → Int32) × (Nat → Int32) × (Nat → Int32)) (gac : Int32 × (Nat → Int32) × (Nat → Int32)) (grc : Int32 × (Nat → Int32)) (gim : Int32 × Int32 × Int32 × (Nat → Int32) × (Nat → Int32) × (Nat → Int32) × (Nat → Int32) × (Nat → Int32) × (Nat → Int32) × (Nat → Int32) × (Nat → Int32) × (Nat → Int32)) : va_W := [(a0 0, .inr (11, [.int (gth), .int (gvm.1), .int (gvm.2.1), .int (gvm.2.2.1), .ref (a0 1), .ref (a0 2), .ref (a0 3), .ref (a0 4), .ref (a0 5), .ref (a0 6), .ref (a0 7), .ref (a0 8), .ref (a0 9), .ref (a0 10), .int (gtd), .int (gfl.1), .int (gfl.2), .ref (a0 11), .int (grd.1), .int (grd.2.1), .int (grd.2.2.1), .int (grd.2.2.2.1), .int (grd.2.2.2.2.1), .int (grd.2.2.2.2.2.1), .long (grd.2.2.2.2.2.2.1), .ref (a0 12), .int (gnv.1), .int (gnv.2.1), .int (gnv.2.2.1), .int (gnv.2.2.2.1), .int (gnv.2.2.2.2.1), .ref (a0 13), .ref (a0 14), .ref (a0 15), .ref (a0 16), .ref (a0 17), .ref (a0 18), .int (gac.1), .ref (a0 19), .ref (a0 20), .ref (a0 21), .ref (a0 22), .ref (a0 23), .ref (a0 24), .ref (a0 25), .ref (a0 26), .ref (a0 27), .int (grc.1), .ref (a0 28), .ref (a0 29), .ref (a0 30), .ref (a0 31), .int (gim.1), .int (gim.2.1), .int (gim.2.2.1), .ref (a0 32), .ref (a0 33), .ref (a0 34), .ref (a0 35), .ref (a0 36), .ref (a0 37), .ref (a0 38), .ref (a0 39), .ref (a0 40)])), (a0 1, .inl (cy 1, 5, .inl (gvm.2.2.2.1))), (a0 2, .inl (cy 1, 5, .inl (gvm.2.2.2.2.1))), (a0 3, .inl (cy 1, 5, .inl (gvm.2.2.2.2.2.1))), (a0 4, .inl (cy 1, 25, .inl (gvm.2.2.2.2.2.2.1))), (a0 5, .inl (cy 1, 10, .inl (gvm.2.2.2.2.2.2.2.1))), (a0 6, .inl (cy 1, 10, .inl (gvm.2.2.2.2.2.2.2.2.1))), (a0 7, .inl (cy 1, 10, .inl (gvm.2.2.2.2.2.2.2.2.2.1))), (a0 8, .inl (cy 1, 10, .inl (gvm.2.2.2.2.2.2.2.2.2.2.1))), (a0 9, .inl (cy 1, 50, .inl (gvm.2.2.2.2.2.2.2.2.2.2.2)))]
abbrev rm_X13_isSwap : Room := { frames := 0, cells := 0, slots := 0, locals := 0 }
set_option maxHeartbeats 1000000 in
set_option maxRecDepth 100000 in
theorem c_X13_isSwap (l : Launch) (dC : Nat → ClassId) (dI : Nat → Nat → Nat) (cy : Nat → ClassId) (a0 : Nat → Nat) (gth : Int32) (gvm : Int32 × Int32 × Int32 × (Nat → Int32) × (Nat → Int32) × (Nat → Int32) × (Nat → Int32) × (Nat → Int32) × (Nat → Int32) × (Nat → Int32) × (Nat → Int32) × (Nat → Int32)) (gtd : Int32) (gfl : Int32 × Int32) (grd : Int32 × Int32 × Int32 × Int32 × Int32 × Int32 × Int64 × (Nat → Int32)) (gnv : Int32 × Int32 × Int32 × Int32 × Int32 × (Nat → Int32) × (Nat → Int32) × (Nat → Int32) × (Nat → Int32) × (Nat → Int32) × (Nat → Int32)) (gac : Int32 × (Nat → Int32) × (Nat → Int32)) (grc : Int32 × (Nat → Int32)) (gim : Int32 × Int32 × Int32 × (Nat → Int32) × (Nat → Int32) × (Nat → Int32) × (Nat → Int32) × (Nat → Int32) × (Nat → Int32) × (Nat → Int32) × (Nat → Int32) × (Nat → Int32)) (x1 : Int32) (x2 : Int32) (sz : Nat) (R0 : Int32) (h : p_X13_isSwap gvm x1 x2 = some R0) : Met l yX13_isSwap wsX13_isSwap rm_X13_isSwap (va_Pc [.ref (a0 0), .int x1, .int x2] (prC dC dI cy (w_X13_isSwap cy a0 gth gvm gtd gfl grd gnv gac grc gim) sz)) (va_Qi (fun (r : Int32) (_ : Unit) => r = R0) (fun (_ : Unit) t => poC dC dI cy (w_X13_isSwap cy a0 gth gvm gtd gfl grd gnv gac grc gim) t) (va_A (w_X13_isSwap cy a0 gth gvm gtd gfl grd gnv gac grc gim) sz)) 0 0 (va_A (w_X13_isSwap cy a0 gth gvm gtd gfl grd gnv gac grc gim) sz) := by
  refine Met.ofW (cc := cX13_isSwap) (maxL := 3) (ret := (some .boolean)) (by decide) rfl ?_
  intro p e s m aa below meth c s₁ B hml hv
  obtain ⟨haa, hsz, hP, hK, hD0⟩ := hv
  have hx := B.exec
  have hb := B.bytes
  have hr := B.returns
  have hts := atoms_spec (ws := wsX13_isSwap) B.pre
  have hown : s.vm.findClass RX13 = some m.cls := findClass_of_methodNamed B.named
  have hlocks := B.notSynchronized
  subst hsz
  have hD := hD0.self (sz := s.heap.size)
  obtain ⟨qq, hqq⟩ : ∃ qq, qq = (va_Qi (fun (r : Int32) (_ : Unit) => r = R0) (fun (_ : Unit) t => poC dC dI cy (w_X13_isSwap cy a0 gth gvm gtd gfl grd gnv gac grc gim) t) (va_A (w_X13_isSwap cy a0 gth gvm gtd gfl grd gnv gac grc gim) s.heap.size)) := ⟨_, rfl⟩
  rw [← hqq]
  generalize hAe : va_A (w_X13_isSwap cy a0 gth gvm gtd gfl grd gnv gac grc gim) s.heap.size = A at hD hqq ⊢
  have hA : ∀ q : Nat, s.heap.size ≤ q → A q := fun q h => by rw [← hAe]; exact Or.inr h
  have hS : va_S A s.heap s.heap [] := va_S.rf
  have hl := lv_entry ([.ref (a0 0), .int x1, .int x2]) (n := 3) (Nat.le_of_ble_eq_true rfl)
  have hE : entryFrame m aa 3 = F0 m 0 ((lg_sl ([.ref (a0 0), .int x1, .int x2]) ++ List.replicate (3 - (lg_sl ([.ref (a0 0), .int x1, .int x2])).length) Slot.unset).toArray) [] := by rw [haa]; exact lg_entry_eq m _ 3
  refine W.eq hE ?_
  generalize (lg_sl ([.ref (a0 0), .int x1, .int x2]) ++ List.replicate (3 - (lg_sl ([.ref (a0 0), .int x1, .int x2])).length) Slot.unset).toArray = ls at hl ⊢
  have hl : lv_has ls 3 [(0, .ref (a0 0)), (1, .int x1), (2, .int x2)] := hl
  change W p l e rm_X13_isSwap s m aa below meth c s.heap [] 0 0 (MQ below qq aa s 0 0 A) (F0 m 0 ls [])
  have hS0 := hS
  have lk0 := hts (.fieldLink RX13 22 "GoatDoorsModel" "has" "[I") (by decide +kernel)
  have lk1 := hts (.fieldLink RX13 25 "GoatDoorsModel" "by" "[I") (by decide +kernel)
  have lk2 := hts (.fieldLink RX13 28 "GoatDoorsModel" "to" "[I") (by decide +kernel)
  have in_X13 : ∀ w ∈ wsX130, w ∈ wsX13_isSwap := by decide +kernel
  obtain ⟨H, hH⟩ : ∃ H : Heap, H = s.heap := ⟨_, rfl⟩
  obtain ⟨locs, hlocs⟩ : ∃ locs : List Loc, locs = [] := ⟨_, rfl⟩
  have hS : va_S A s.heap H locs := by rw [hH, hlocs]; exact hS
  rw [← hH] at hP
  suffices hg : W p l e rm_X13_isSwap s m aa below meth c H locs 0 0 (MQ below qq aa s 0 0 A) (F0 m 0 ls []) by subst hH; subst hlocs; exact hg
  unfold p_X13_isSwap at h
  refine lv_aload_n hx hb dX13_isSwap_0 rfl (lv_at hl 0 rfl) ?_
  refine va_get (D := (dC, dI)) (ci := 11) (v := .ref (a0 5)) (C := RX13) (T := TX13) (N := 64) hx hb hts in_X13 hown hK hP 0 rfl rfl 8 (by decide) lk0 (fun _ h9 => h9) rfl dX13_isSwap_1 ?_
  refine lv_iload_n hx hb dX13_isSwap_4 rfl (lv_at hl 1 rfl) ?_
  obtain ⟨hi1, h⟩ := ok_if h
  refine va_iald hx hb hK hP 5 1 rfl rfl (ix_in hi1) dX13_isSwap_5 ?_
  refine lv_iconst (v := (1 : Int32)) hx hb dX13_isSwap_6 (by decide) ?_
  refine lv_icmp_ne (tgt := 54) hx hb dX13_isSwap_7 (by decide) (fun c2 => ?_) (fun c2 => ?_)
  · rw [if_neg c2] at h
    refine lv_iconst (v := (0 : Int32)) hx hb dX13_isSwap_54 (by decide) ?_
    exact W.zret (v := (0 : Int32)) (ty := .boolean) hx hb hr rfl (fun t ht hW => by rw [hqq]; have hh := Option.some.inj h; exact ⟨⟨(0 : Int32), (()), rfl, Option.some.inj h, by rw [ht]; exact hP, va_K.moved hW.alike hK⟩, hS.F ht⟩) hS.2.2 dX13_isSwap_55
  · rw [if_pos c2] at h
    refine lv_aload_n hx hb dX13_isSwap_10 rfl (lv_at hl 0 rfl) ?_
    refine va_get (D := (dC, dI)) (ci := 11) (v := .ref (a0 5)) (C := RX13) (T := TX13) (N := 64) hx hb hts in_X13 hown hK hP 0 rfl rfl 8 (by decide) lk0 (fun _ h9 => h9) rfl dX13_isSwap_11 ?_
    refine lv_iload_n hx hb dX13_isSwap_14 rfl (lv_at hl 2 rfl) ?_
    obtain ⟨hi3, h⟩ := ok_if h
    refine va_iald hx hb hK hP 5 1 rfl rfl (ix_in hi3) dX13_isSwap_15 ?_
    refine lv_iconst (v := (1 : Int32)) hx hb dX13_isSwap_16 (by decide) ?_
    refine lv_icmp_ne (tgt := 54) hx hb dX13_isSwap_17 (by decide) (fun c4 => ?_) (fun c4 => ?_)
    · rw [if_neg c4] at h
      refine lv_iconst (v := (0 : Int32)) hx hb dX13_isSwap_54 (by decide) ?_
      exact W.zret (v := (0 : Int32)) (ty := .boolean) hx hb hr rfl (fun t ht hW => by rw [hqq]; have hh := Option.some.inj h; exact ⟨⟨(0 : Int32), (()), rfl, Option.some.inj h, by rw [ht]; exact hP, va_K.moved hW.alike hK⟩, hS.F ht⟩) hS.2.2 dX13_isSwap_55
    · rw [if_pos c4] at h
      refine lv_aload_n hx hb dX13_isSwap_20 rfl (lv_at hl 0 rfl) ?_
      refine va_get (D := (dC, dI)) (ci := 11) (v := .ref (a0 6)) (C := RX13) (T := TX13) (N := 64) hx hb hts in_X13 hown hK hP 0 rfl rfl 9 (by decide) lk1 (fun _ h9 => h9) rfl dX13_isSwap_21 ?_
      refine lv_iload_n hx hb dX13_isSwap_24 rfl (lv_at hl 1 rfl) ?_
      obtain ⟨hi5, h⟩ := ok_if h
      refine va_iald hx hb hK hP 6 1 rfl rfl (ix_in hi5) dX13_isSwap_25 ?_
      refine lv_aload_n hx hb dX13_isSwap_26 rfl (lv_at hl 0 rfl) ?_
      refine va_get (D := (dC, dI)) (ci := 11) (v := .ref (a0 7)) (C := RX13) (T := TX13) (N := 64) hx hb hts in_X13 hown hK hP 0 rfl rfl 10 (by decide) lk2 (fun _ h9 => h9) rfl dX13_isSwap_27 ?_
      refine lv_iload_n hx hb dX13_isSwap_30 rfl (lv_at hl 2 rfl) ?_
      obtain ⟨hi6, h⟩ := ok_if h
      refine va_iald hx hb hK hP 7 1 rfl rfl (ix_in hi6) dX13_isSwap_31 ?_
      refine lv_icmp_eq (tgt := 54) hx hb dX13_isSwap_32 (by decide) (fun c7 => ?_) (fun c7 => ?_)
      · rw [if_pos c7] at h
        refine lv_iconst (v := (0 : Int32)) hx hb dX13_isSwap_54 (by decide) ?_
        exact W.zret (v := (0 : Int32)) (ty := .boolean) hx hb hr rfl (fun t ht hW => by rw [hqq]; have hh := Option.some.inj h; exact ⟨⟨(0 : Int32), (()), rfl, Option.some.inj h, by rw [ht]; exact hP, va_K.moved hW.alike hK⟩, hS.F ht⟩) hS.2.2 dX13_isSwap_55
      · rw [if_neg c7] at h
        refine lv_aload_n hx hb dX13_isSwap_35 rfl (lv_at hl 0 rfl) ?_
        refine va_get (D := (dC, dI)) (ci := 11) (v := .ref (a0 6)) (C := RX13) (T := TX13) (N := 64) hx hb hts in_X13 hown hK hP 0 rfl rfl 9 (by decide) lk1 (fun _ h9 => h9) rfl dX13_isSwap_36 ?_
        refine lv_iload_n hx hb dX13_isSwap_39 rfl (lv_at hl 2 rfl) ?_
        obtain ⟨hi8, h⟩ := ok_if h
        refine va_iald hx hb hK hP 6 1 rfl rfl (ix_in hi8) dX13_isSwap_40 ?_
        refine lv_aload_n hx hb dX13_isSwap_41 rfl (lv_at hl 0 rfl) ?_
        refine va_get (D := (dC, dI)) (ci := 11) (v := .ref (a0 7)) (C := RX13) (T := TX13) (N := 64) hx hb hts in_X13 hown hK hP 0 rfl rfl 10 (by decide) lk2 (fun _ h9 => h9) rfl dX13_isSwap_42 ?_
        refine lv_iload_n hx hb dX13_isSwap_45 rfl (lv_at hl 1 rfl) ?_
        obtain ⟨hi9, h⟩ := ok_if h
        refine va_iald hx hb hK hP 7 1 rfl rfl (ix_in hi9) dX13_isSwap_46 ?_
        refine lv_icmp_eq (tgt := 54) hx hb dX13_isSwap_47 (by decide) (fun c10 => ?_) (fun c10 => ?_)
        · rw [if_pos c10] at h
          refine lv_iconst (v := (0 : Int32)) hx hb dX13_isSwap_54 (by decide) ?_
          exact W.zret (v := (0 : Int32)) (ty := .boolean) hx hb hr rfl (fun t ht hW => by rw [hqq]; have hh := Option.some.inj h; exact ⟨⟨(0 : Int32), (()), rfl, Option.some.inj h, by rw [ht]; exact hP, va_K.moved hW.alike hK⟩, hS.F ht⟩) hS.2.2 dX13_isSwap_55
        · rw [if_neg c10] at h
          refine lv_iconst (v := (1 : Int32)) hx hb dX13_isSwap_50 (by decide) ?_
          refine lv_goto (tgt := 55) hx hb dX13_isSwap_51 (by decide) ?_
          exact W.zret (v := (1 : Int32)) (ty := .boolean) hx hb hr rfl (fun t ht hW => by rw [hqq]; have hh := Option.some.inj h; exact ⟨⟨(1 : Int32), (()), rfl, Option.some.inj h, by rw [ht]; exact hP, va_K.moved hW.alike hK⟩, hS.F ht⟩) hS.2.2 dX13_isSwap_55

abbrev w_X13_freeDoor (cy : Nat → ClassId) (a0 : Nat → Nat) (gth : Int32) (gvm : Int32 × Int32 × Int32 × (Nat → Int32) × (Nat → Int32) × (Nat → Int32) × (Nat → Int32) × (Nat → Int32) × (Nat → Int32) × (Nat → Int32) × (Nat → Int32) × (Nat → Int32)) (gtd : Int32) (gfl : Int32 × Int32) (grd : Int32 × Int32 × Int32 × Int32 × Int32 × Int32 × Int64 × (Nat → Int32)) (gnv : Int32 × Int32 × Int32 × Int32 × Int32 × (Nat → Int32) × (Nat → Int32) × (Nat → Int32) × (Nat → Int32) × (Nat → Int32) × (Nat → Int32)) (gac : Int32 × (Nat → Int32) × (Nat → Int32)) (grc : Int32 × (Nat → Int32)) (gim : Int32 × Int32 × Int32 × (Nat → Int32) × (Nat → Int32) × (Nat → Int32) × (Nat → Int32) × (Nat → Int32) × (Nat → Int32) × (Nat → Int32) × (Nat → Int32) × (Nat → Int32)) : va_W := [(a0 0, .inr (11, [.int (gth), .int (gvm.1), .int (gvm.2.1), .int (gvm.2.2.1), .ref (a0 1), .ref (a0 2), .ref (a0 3), .ref (a0 4), .ref (a0 5), .ref (a0 6), .ref (a0 7), .ref (a0 8), .ref (a0 9), .ref (a0 10), .int (gtd), .int (gfl.1), .int (gfl.2), .ref (a0 11), .int (grd.1), .int (grd.2.1), .int (grd.2.2.1), .int (grd.2.2.2.1), .int (grd.2.2.2.2.1), .int (grd.2.2.2.2.2.1), .long (grd.2.2.2.2.2.2.1), .ref (a0 12), .int (gnv.1), .int (gnv.2.1), .int (gnv.2.2.1), .int (gnv.2.2.2.1), .int (gnv.2.2.2.2.1), .ref (a0 13), .ref (a0 14), .ref (a0 15), .ref (a0 16), .ref (a0 17), .ref (a0 18), .int (gac.1), .ref (a0 19), .ref (a0 20), .ref (a0 21), .ref (a0 22), .ref (a0 23), .ref (a0 24), .ref (a0 25), .ref (a0 26), .ref (a0 27), .int (grc.1), .ref (a0 28), .ref (a0 29), .ref (a0 30), .ref (a0 31), .int (gim.1), .int (gim.2.1), .int (gim.2.2.1), .ref (a0 32), .ref (a0 33), .ref (a0 34), .ref (a0 35), .ref (a0 36), .ref (a0 37), .ref (a0 38), .ref (a0 39), .ref (a0 40)])), (a0 1, .inl (cy 1, 5, .inl (gvm.2.2.2.1))), (a0 2, .inl (cy 1, 5, .inl (gvm.2.2.2.2.1))), (a0 3, .inl (cy 1, 5, .inl (gvm.2.2.2.2.2.1))), (a0 4, .inl (cy 1, 25, .inl (gvm.2.2.2.2.2.2.1))), (a0 5, .inl (cy 1, 10, .inl (gvm.2.2.2.2.2.2.2.1))), (a0 6, .inl (cy 1, 10, .inl (gvm.2.2.2.2.2.2.2.2.1))), (a0 7, .inl (cy 1, 10, .inl (gvm.2.2.2.2.2.2.2.2.2.1))), (a0 8, .inl (cy 1, 10, .inl (gvm.2.2.2.2.2.2.2.2.2.2.1))), (a0 9, .inl (cy 1, 50, .inl (gvm.2.2.2.2.2.2.2.2.2.2.2)))]
abbrev rm_X13_freeDoor : Room := { frames := 0, cells := 0, slots := 0, locals := 0 }
set_option maxHeartbeats 1000000 in
set_option maxRecDepth 100000 in
theorem c_X13_freeDoor (l : Launch) (dC : Nat → ClassId) (dI : Nat → Nat → Nat) (cy : Nat → ClassId) (a0 : Nat → Nat) (gth : Int32) (gvm : Int32 × Int32 × Int32 × (Nat → Int32) × (Nat → Int32) × (Nat → Int32) × (Nat → Int32) × (Nat → Int32) × (Nat → Int32) × (Nat → Int32) × (Nat → Int32) × (Nat → Int32)) (gtd : Int32) (gfl : Int32 × Int32) (grd : Int32 × Int32 × Int32 × Int32 × Int32 × Int32 × Int64 × (Nat → Int32)) (gnv : Int32 × Int32 × Int32 × Int32 × Int32 × (Nat → Int32) × (Nat → Int32) × (Nat → Int32) × (Nat → Int32) × (Nat → Int32) × (Nat → Int32)) (gac : Int32 × (Nat → Int32) × (Nat → Int32)) (grc : Int32 × (Nat → Int32)) (gim : Int32 × Int32 × Int32 × (Nat → Int32) × (Nat → Int32) × (Nat → Int32) × (Nat → Int32) × (Nat → Int32) × (Nat → Int32) × (Nat → Int32) × (Nat → Int32) × (Nat → Int32)) (sz : Nat) (R0 : Int32) (h : p_X13_freeDoor gvm = some R0) : Met l yX13_freeDoor wsX13_freeDoor rm_X13_freeDoor (va_Pc [.ref (a0 0)] (prC dC dI cy (w_X13_freeDoor cy a0 gth gvm gtd gfl grd gnv gac grc gim) sz)) (va_Qi (fun (r : Int32) (_ : Unit) => r = R0) (fun (_ : Unit) t => poC dC dI cy (w_X13_freeDoor cy a0 gth gvm gtd gfl grd gnv gac grc gim) t) (va_A (w_X13_freeDoor cy a0 gth gvm gtd gfl grd gnv gac grc gim) sz)) 0 0 (va_A (w_X13_freeDoor cy a0 gth gvm gtd gfl grd gnv gac grc gim) sz) := by
  refine Met.ofW (cc := cX13_freeDoor) (maxL := 2) (ret := (some .int)) (by decide) rfl ?_
  intro p e s m aa below meth c s₁ B hml hv
  obtain ⟨haa, hsz, hP, hK, hD0⟩ := hv
  have hx := B.exec
  have hb := B.bytes
  have hr := B.returns
  have hts := atoms_spec (ws := wsX13_freeDoor) B.pre
  have hown : s.vm.findClass RX13 = some m.cls := findClass_of_methodNamed B.named
  have hlocks := B.notSynchronized
  subst hsz
  have hD := hD0.self (sz := s.heap.size)
  obtain ⟨qq, hqq⟩ : ∃ qq, qq = (va_Qi (fun (r : Int32) (_ : Unit) => r = R0) (fun (_ : Unit) t => poC dC dI cy (w_X13_freeDoor cy a0 gth gvm gtd gfl grd gnv gac grc gim) t) (va_A (w_X13_freeDoor cy a0 gth gvm gtd gfl grd gnv gac grc gim) s.heap.size)) := ⟨_, rfl⟩
  rw [← hqq]
  generalize hAe : va_A (w_X13_freeDoor cy a0 gth gvm gtd gfl grd gnv gac grc gim) s.heap.size = A at hD hqq ⊢
  have hA : ∀ q : Nat, s.heap.size ≤ q → A q := fun q h => by rw [← hAe]; exact Or.inr h
  have hS : va_S A s.heap s.heap [] := va_S.rf
  have hl := lv_entry ([.ref (a0 0)]) (n := 2) (Nat.le_of_ble_eq_true rfl)
  have hE : entryFrame m aa 2 = F0 m 0 ((lg_sl ([.ref (a0 0)]) ++ List.replicate (2 - (lg_sl ([.ref (a0 0)])).length) Slot.unset).toArray) [] := by rw [haa]; exact lg_entry_eq m _ 2
  refine W.eq hE ?_
  generalize (lg_sl ([.ref (a0 0)]) ++ List.replicate (2 - (lg_sl ([.ref (a0 0)])).length) Slot.unset).toArray = ls at hl ⊢
  have hl : lv_has ls 2 [(0, .ref (a0 0))] := hl
  change W p l e rm_X13_freeDoor s m aa below meth c s.heap [] 0 0 (MQ below qq aa s 0 0 A) (F0 m 0 ls [])
  have hS0 := hS
  have lk0 := hts (.fieldLink RX13 22 "GoatDoorsModel" "has" "[I") (by decide +kernel)
  have in_X13 : ∀ w ∈ wsX130, w ∈ wsX13_freeDoor := by decide +kernel
  have c2 : ∀ (n : Nat), ∀ (x1 : Int32) (H : Heap) (locs : List Loc) (ls : Array Slot), p_X13_freeDoor_2 gvm n x1 = some R0 → va_P (dC, dI) vwCl (w_X13_freeDoor cy a0 gth gvm gtd gfl grd gnv gac grc gim) H → va_D A (w_X13_freeDoor cy a0 gth gvm gtd gfl grd gnv gac grc gim) → va_S A s.heap H locs → lv_has ls 2 [(0, .ref (a0 0)), (1, .int x1)] → W p l e rm_X13_freeDoor s m aa below meth c H locs 0 0 (MQ below qq aa s 0 0 A) (F0 m 2 ls []) := by
    intro  n
    induction n with
    | zero => intro x1 H locs ls h; exact no_some h
    | succ n ih =>
      intro x1 H locs ls h hP hD hS hl
      rw [p_X13_freeDoor_2.eq_2] at h
      refine lv_iload_n hx hb dX13_freeDoor_2 rfl (lv_at hl 1 rfl) ?_
      refine lv_bipush (v := (10 : Int32)) hx hb dX13_freeDoor_3 (by decide) ?_
      refine lv_icmp_ge (tgt := 25) hx hb dX13_freeDoor_5 (by decide) (fun c1 => ?_) (fun c1 => ?_)
      · rw [if_pos c1] at h
        refine lv_iconst (v := (-1 : Int32)) hx hb dX13_freeDoor_25 (by decide) ?_
        exact W.iret (v := (-1 : Int32)) hx hb hr (fun t ht hW => by rw [hqq]; have hh := Option.some.inj h; exact ⟨⟨(-1 : Int32), (()), rfl, Option.some.inj h, by rw [ht]; exact hP, va_K.moved hW.alike hK⟩, hS.F ht⟩) hS.2.2 dX13_freeDoor_26
      · rw [if_neg c1] at h
        refine lv_aload_n hx hb dX13_freeDoor_8 rfl (lv_at hl 0 rfl) ?_
        refine va_get (D := (dC, dI)) (ci := 11) (v := .ref (a0 5)) (C := RX13) (T := TX13) (N := 64) hx hb hts in_X13 hown hK hP 0 rfl rfl 8 (by decide) lk0 (fun _ h9 => h9) rfl dX13_freeDoor_9 ?_
        refine lv_iload_n hx hb dX13_freeDoor_12 rfl (lv_at hl 1 rfl) ?_
        obtain ⟨hi2, h⟩ := ok_if h
        refine va_iald hx hb hK hP 5 1 rfl rfl (ix_in hi2) dX13_freeDoor_13 ?_
        refine lv_if_ne (tgt := 19) hx hb dX13_freeDoor_14 (by decide) (fun c3 => ?_) (fun c3 => ?_)
        · rw [if_neg c3] at h
          refine lv_iinc (v := (x1 + (1 : Int32))) (lv' := [(1, .int (x1 + (1 : Int32))), (0, .ref (a0 0))]) hx hb dX13_freeDoor_19 hl (k := 1) rfl rfl (by decide) rfl (fun ls hl => ?_)
          refine lv_goto (tgt := 2) hx hb dX13_freeDoor_22 (by decide) ?_
          exact ih (x1 + (1 : Int32)) H locs ls h hP hD hS (lv_sub hl [1, 0] rfl)
        · rw [if_pos c3] at h
          refine lv_iload_n hx hb dX13_freeDoor_17 rfl (lv_at hl 1 rfl) ?_
          exact W.iret (v := x1) hx hb hr (fun t ht hW => by rw [hqq]; have hh := Option.some.inj h; exact ⟨⟨x1, (()), rfl, Option.some.inj h, by rw [ht]; exact hP, va_K.moved hW.alike hK⟩, hS.F ht⟩) hS.2.2 dX13_freeDoor_18
  obtain ⟨H, hH⟩ : ∃ H : Heap, H = s.heap := ⟨_, rfl⟩
  obtain ⟨locs, hlocs⟩ : ∃ locs : List Loc, locs = [] := ⟨_, rfl⟩
  have hS : va_S A s.heap H locs := by rw [hH, hlocs]; exact hS
  rw [← hH] at hP
  suffices hg : W p l e rm_X13_freeDoor s m aa below meth c H locs 0 0 (MQ below qq aa s 0 0 A) (F0 m 0 ls []) by subst hH; subst hlocs; exact hg
  unfold p_X13_freeDoor at h
  refine lv_iconst (v := (0 : Int32)) hx hb dX13_freeDoor_0 (by decide) ?_
  refine lv_istore_n (lv' := [(1, .int (0 : Int32)), (0, .ref (a0 0))]) hx hb dX13_freeDoor_1 rfl hl (by decide) rfl (fun ls hl => ?_)
  exact c2 fu (0 : Int32) H locs ls h hP hD hS (lv_sub hl [1, 0] rfl)

abbrev w_X13_does (cy : Nat → ClassId) (a0 : Nat → Nat) (gth : Int32) (gvm : Int32 × Int32 × Int32 × (Nat → Int32) × (Nat → Int32) × (Nat → Int32) × (Nat → Int32) × (Nat → Int32) × (Nat → Int32) × (Nat → Int32) × (Nat → Int32) × (Nat → Int32)) (gtd : Int32) (gfl : Int32 × Int32) (grd : Int32 × Int32 × Int32 × Int32 × Int32 × Int32 × Int64 × (Nat → Int32)) (gnv : Int32 × Int32 × Int32 × Int32 × Int32 × (Nat → Int32) × (Nat → Int32) × (Nat → Int32) × (Nat → Int32) × (Nat → Int32) × (Nat → Int32)) (gac : Int32 × (Nat → Int32) × (Nat → Int32)) (grc : Int32 × (Nat → Int32)) (gim : Int32 × Int32 × Int32 × (Nat → Int32) × (Nat → Int32) × (Nat → Int32) × (Nat → Int32) × (Nat → Int32) × (Nat → Int32) × (Nat → Int32) × (Nat → Int32) × (Nat → Int32)) : va_W := [(a0 0, .inr (11, [.int (gth), .int (gvm.1), .int (gvm.2.1), .int (gvm.2.2.1), .ref (a0 1), .ref (a0 2), .ref (a0 3), .ref (a0 4), .ref (a0 5), .ref (a0 6), .ref (a0 7), .ref (a0 8), .ref (a0 9), .ref (a0 10), .int (gtd), .int (gfl.1), .int (gfl.2), .ref (a0 11), .int (grd.1), .int (grd.2.1), .int (grd.2.2.1), .int (grd.2.2.2.1), .int (grd.2.2.2.2.1), .int (grd.2.2.2.2.2.1), .long (grd.2.2.2.2.2.2.1), .ref (a0 12), .int (gnv.1), .int (gnv.2.1), .int (gnv.2.2.1), .int (gnv.2.2.2.1), .int (gnv.2.2.2.2.1), .ref (a0 13), .ref (a0 14), .ref (a0 15), .ref (a0 16), .ref (a0 17), .ref (a0 18), .int (gac.1), .ref (a0 19), .ref (a0 20), .ref (a0 21), .ref (a0 22), .ref (a0 23), .ref (a0 24), .ref (a0 25), .ref (a0 26), .ref (a0 27), .int (grc.1), .ref (a0 28), .ref (a0 29), .ref (a0 30), .ref (a0 31), .int (gim.1), .int (gim.2.1), .int (gim.2.2.1), .ref (a0 32), .ref (a0 33), .ref (a0 34), .ref (a0 35), .ref (a0 36), .ref (a0 37), .ref (a0 38), .ref (a0 39), .ref (a0 40)])), (a0 1, .inl (cy 1, 5, .inl (gvm.2.2.2.1))), (a0 2, .inl (cy 1, 5, .inl (gvm.2.2.2.2.1))), (a0 3, .inl (cy 1, 5, .inl (gvm.2.2.2.2.2.1))), (a0 4, .inl (cy 1, 25, .inl (gvm.2.2.2.2.2.2.1))), (a0 5, .inl (cy 1, 10, .inl (gvm.2.2.2.2.2.2.2.1))), (a0 6, .inl (cy 1, 10, .inl (gvm.2.2.2.2.2.2.2.2.1))), (a0 7, .inl (cy 1, 10, .inl (gvm.2.2.2.2.2.2.2.2.2.1))), (a0 8, .inl (cy 1, 10, .inl (gvm.2.2.2.2.2.2.2.2.2.2.1))), (a0 9, .inl (cy 1, 50, .inl (gvm.2.2.2.2.2.2.2.2.2.2.2))), (a0 19, .inl (cy 1, 600, .inl (gac.2.1))), (a0 20, .inl (cy 1, 600, .inl (gac.2.2)))]
abbrev rm_X13_does : Room := { frames := 1, cells := 0, slots := 0, locals := 23 }
set_option maxHeartbeats 1000000 in
set_option maxRecDepth 100000 in
theorem c_X13_does (l : Launch) (dC : Nat → ClassId) (dI : Nat → Nat → Nat) (cy : Nat → ClassId) (a0 : Nat → Nat) (gth : Int32) (gvm : Int32 × Int32 × Int32 × (Nat → Int32) × (Nat → Int32) × (Nat → Int32) × (Nat → Int32) × (Nat → Int32) × (Nat → Int32) × (Nat → Int32) × (Nat → Int32) × (Nat → Int32)) (gtd : Int32) (gfl : Int32 × Int32) (grd : Int32 × Int32 × Int32 × Int32 × Int32 × Int32 × Int64 × (Nat → Int32)) (gnv : Int32 × Int32 × Int32 × Int32 × Int32 × (Nat → Int32) × (Nat → Int32) × (Nat → Int32) × (Nat → Int32) × (Nat → Int32) × (Nat → Int32)) (gac : Int32 × (Nat → Int32) × (Nat → Int32)) (grc : Int32 × (Nat → Int32)) (gim : Int32 × Int32 × Int32 × (Nat → Int32) × (Nat → Int32) × (Nat → Int32) × (Nat → Int32) × (Nat → Int32) × (Nat → Int32) × (Nat → Int32) × (Nat → Int32) × (Nat → Int32)) (x1 : Int32) (sz : Nat) (R0 : Int32 × (Int32 × Int32 × Int32 × (Nat → Int32) × (Nat → Int32) × (Nat → Int32) × (Nat → Int32) × (Nat → Int32) × (Nat → Int32) × (Nat → Int32) × (Nat → Int32) × (Nat → Int32))) (h : p_X13_does gvm gac x1 = some R0) : Met l yX13_does wsX13_does rm_X13_does (va_Pc [.ref (a0 0), .int x1] (prC dC dI cy (w_X13_does cy a0 gth gvm gtd gfl grd gnv gac grc gim) sz)) (va_Qi (fun (r : Int32) (u : (Int32 × Int32 × Int32 × (Nat → Int32) × (Nat → Int32) × (Nat → Int32) × (Nat → Int32) × (Nat → Int32) × (Nat → Int32) × (Nat → Int32) × (Nat → Int32) × (Nat → Int32))) => r = R0.1 ∧ u = R0.2) (fun (u : (Int32 × Int32 × Int32 × (Nat → Int32) × (Nat → Int32) × (Nat → Int32) × (Nat → Int32) × (Nat → Int32) × (Nat → Int32) × (Nat → Int32) × (Nat → Int32) × (Nat → Int32))) t => poC dC dI cy (w_X13_does cy a0 gth u gtd gfl grd gnv gac grc gim) t) (va_A (w_X13_does cy a0 gth gvm gtd gfl grd gnv gac grc gim) sz)) 0 0 (va_A (w_X13_does cy a0 gth gvm gtd gfl grd gnv gac grc gim) sz) := by
  refine Met.ofW (cc := cX13_does) (maxL := 8) (ret := (some .boolean)) (by decide) rfl ?_
  intro p e s m aa below meth c s₁ B hml hv
  obtain ⟨haa, hsz, hP, hK, hD0⟩ := hv
  have hx := B.exec
  have hb := B.bytes
  have hr := B.returns
  have hts := atoms_spec (ws := wsX13_does) B.pre
  have hown : s.vm.findClass RX13 = some m.cls := findClass_of_methodNamed B.named
  have hlocks := B.notSynchronized
  subst hsz
  have hD := hD0.self (sz := s.heap.size)
  obtain ⟨qq, hqq⟩ : ∃ qq, qq = (va_Qi (fun (r : Int32) (u : (Int32 × Int32 × Int32 × (Nat → Int32) × (Nat → Int32) × (Nat → Int32) × (Nat → Int32) × (Nat → Int32) × (Nat → Int32) × (Nat → Int32) × (Nat → Int32) × (Nat → Int32))) => r = R0.1 ∧ u = R0.2) (fun (u : (Int32 × Int32 × Int32 × (Nat → Int32) × (Nat → Int32) × (Nat → Int32) × (Nat → Int32) × (Nat → Int32) × (Nat → Int32) × (Nat → Int32) × (Nat → Int32) × (Nat → Int32))) t => poC dC dI cy (w_X13_does cy a0 gth u gtd gfl grd gnv gac grc gim) t) (va_A (w_X13_does cy a0 gth gvm gtd gfl grd gnv gac grc gim) s.heap.size)) := ⟨_, rfl⟩
  rw [← hqq]
  generalize hAe : va_A (w_X13_does cy a0 gth gvm gtd gfl grd gnv gac grc gim) s.heap.size = A at hD hqq ⊢
  have hA : ∀ q : Nat, s.heap.size ≤ q → A q := fun q h => by rw [← hAe]; exact Or.inr h
  have hS : va_S A s.heap s.heap [] := va_S.rf
  have hl := lv_entry ([.ref (a0 0), .int x1]) (n := 8) (Nat.le_of_ble_eq_true rfl)
  have hE : entryFrame m aa 8 = F0 m 0 ((lg_sl ([.ref (a0 0), .int x1]) ++ List.replicate (8 - (lg_sl ([.ref (a0 0), .int x1])).length) Slot.unset).toArray) [] := by rw [haa]; exact lg_entry_eq m _ 8
  refine W.eq hE ?_
  generalize (lg_sl ([.ref (a0 0), .int x1]) ++ List.replicate (8 - (lg_sl ([.ref (a0 0), .int x1])).length) Slot.unset).toArray = ls at hl ⊢
  have hl : lv_has ls 8 [(0, .ref (a0 0)), (1, .int x1)] := hl
  change W p l e rm_X13_does s m aa below meth c s.heap [] 0 0 (MQ below qq aa s 0 0 A) (F0 m 0 ls [])
  have hS0 := hS
  have lk0 := hts (.fieldLink RX13 31 "GoatDoorsModel" "many" "[I") (by decide +kernel)
  have lk1 := hts (.fieldLink RX13 34 "GoatDoorsModel" "figure" "[I") (by decide +kernel)
  have lk2 := hts (.fieldLink RX13 71 "GoatDoorsModel" "actFigure" "[I") (by decide +kernel)
  have lk3 := hts (.fieldLink RX13 245 "GoatDoorsModel" "owners" "I") (by decide +kernel)
  have lk4 := hts (.fieldLink RX13 251 "GoatDoorsModel" "base" "I") (by decide +kernel)
  have lk5 := hts (.fieldLink RX13 16 "GoatDoorsModel" "hides" "[I") (by decide +kernel)
  have lk6 := hts (.fieldLink RX13 68 "GoatDoorsModel" "act" "[I") (by decide +kernel)
  have lk7 := hts (.fieldLink RX13 7 "GoatDoorsModel" "goats" "[I") (by decide +kernel)
  have lk8 := hts (.fieldLink RX13 19 "GoatDoorsModel" "lent" "[I") (by decide +kernel)
  have lk9 := hts (.fieldLink RX13 13 "GoatDoorsModel" "can" "[I") (by decide +kernel)
  have lk10 := hts (.fieldLink RX13 22 "GoatDoorsModel" "has" "[I") (by decide +kernel)
  have lk11 := hts (.fieldLink RX13 25 "GoatDoorsModel" "by" "[I") (by decide +kernel)
  have lk12 := hts (.fieldLink RX13 28 "GoatDoorsModel" "to" "[I") (by decide +kernel)
  have in_X13 : ∀ w ∈ wsX130, w ∈ wsX13_does := by decide +kernel
  have c357 : ∀ (n : Nat), ∀ (gvm : Int32 × Int32 × Int32 × (Nat → Int32) × (Nat → Int32) × (Nat → Int32) × (Nat → Int32) × (Nat → Int32) × (Nat → Int32) × (Nat → Int32) × (Nat → Int32) × (Nat → Int32)) (x1 : Int32) (x6 : Int32) (x7 : Int32) (H : Heap) (locs : List Loc) (ls : Array Slot), p_X13_does_357 gac n gvm x1 x6 x7 = some R0 → va_P (dC, dI) vwCl (w_X13_does cy a0 gth gvm gtd gfl grd gnv gac grc gim) H → va_D A (w_X13_does cy a0 gth gvm gtd gfl grd gnv gac grc gim) → va_S A s.heap H locs → lv_has ls 8 [(0, .ref (a0 0)), (1, .int x1), (6, .int x6), (7, .int x7)] → W p l e rm_X13_does s m aa below meth c H locs 0 0 (MQ below qq aa s 0 0 A) (F0 m 357 ls []) := by
    intro  n
    induction n with
    | zero => intro gvm x1 x6 x7 H locs ls h; exact no_some h
    | succ n ih =>
      intro gvm x1 x6 x7 H locs ls h hP hD hS hl
      rw [p_X13_does_357.eq_2] at h
      refine lv_iload hx hb dX13_does_357 (lv_at hl 3 rfl) ?_
      refine lv_aload_n hx hb dX13_does_359 rfl (lv_at hl 0 rfl) ?_
      refine va_get (D := (dC, dI)) (ci := 11) (v := .ref (a0 8)) (C := RX13) (T := TX13) (N := 64) hx hb hts in_X13 hown hK hP 0 rfl rfl 11 (by decide) lk0 (fun _ h9 => h9) rfl dX13_does_360 ?_
      refine lv_iload hx hb dX13_does_363 (lv_at hl 2 rfl) ?_
      obtain ⟨hi1, h⟩ := ok_if h
      refine va_iald hx hb hK hP 8 1 rfl rfl (ix_in hi1) dX13_does_365 ?_
      refine lv_icmp_ge (tgt := 398) hx hb dX13_does_366 (by decide) (fun c2 => ?_) (fun c2 => ?_)
      · rw [if_pos c2] at h
        refine lv_iconst (v := (1 : Int32)) hx hb dX13_does_398 (by decide) ?_
        exact W.zret (v := (1 : Int32)) (ty := .boolean) hx hb hr rfl (fun t ht hW => by rw [hqq]; have hh := Option.some.inj h; exact ⟨⟨(1 : Int32), (gvm), rfl, ⟨fst_of hh, snd_of hh⟩, by rw [ht]; exact hP, va_K.moved hW.alike hK⟩, hS.F ht⟩) hS.2.2 dX13_does_399
      · rw [if_neg c2] at h
        refine lv_aload_n hx hb dX13_does_369 rfl (lv_at hl 0 rfl) ?_
        refine va_get (D := (dC, dI)) (ci := 11) (v := .ref (a0 9)) (C := RX13) (T := TX13) (N := 64) hx hb hts in_X13 hown hK hP 0 rfl rfl 12 (by decide) lk1 (fun _ h9 => h9) rfl dX13_does_370 ?_
        refine lv_iconst (v := (5 : Int32)) hx hb dX13_does_373 (by decide) ?_
        refine lv_iload hx hb dX13_does_374 (lv_at hl 2 rfl) ?_
        refine lv_imul hx hb dX13_does_376 ?_
        refine lv_iload hx hb dX13_does_377 (lv_at hl 3 rfl) ?_
        refine lv_iadd hx hb dX13_does_379 ?_
        refine lv_aload_n hx hb dX13_does_380 rfl (lv_at hl 0 rfl) ?_
        refine va_get (D := (dC, dI)) (ci := 11) (v := .ref (a0 20)) (C := RX13) (T := TX13) (N := 64) hx hb hts in_X13 hown hK hP 0 rfl rfl 39 (by decide) lk2 (fun _ h9 => h9) rfl dX13_does_381 ?_
        refine lv_iconst (v := (5 : Int32)) hx hb dX13_does_384 (by decide) ?_
        refine lv_iload_n hx hb dX13_does_385 rfl (lv_at hl 1 rfl) ?_
        refine lv_imul hx hb dX13_does_386 ?_
        refine lv_iload hx hb dX13_does_387 (lv_at hl 3 rfl) ?_
        refine lv_iadd hx hb dX13_does_389 ?_
        obtain ⟨hi3, h⟩ := ok_if h
        refine va_iald hx hb hK hP 11 1 rfl rfl (ix_in hi3) dX13_does_390 ?_
        obtain ⟨hi4, h⟩ := ok_if h
        refine va_iast hx hb hK hP hD hS 9 1 rfl rfl (ix_in hi4) dX13_does_391 (fun H locs hP hD hS => ?_)
        have hP : va_P (dC, dI) vwCl (w_X13_does cy a0 gth ((gvm.1, gvm.2.1, gvm.2.2.1, gvm.2.2.2.1, gvm.2.2.2.2.1, gvm.2.2.2.2.2.1, gvm.2.2.2.2.2.2.1, gvm.2.2.2.2.2.2.2.1, gvm.2.2.2.2.2.2.2.2.1, gvm.2.2.2.2.2.2.2.2.2.1, gvm.2.2.2.2.2.2.2.2.2.2.1, (upd gvm.2.2.2.2.2.2.2.2.2.2.2 (((5 : Int32) * x6) + x7).toNatClampNeg (gac.2.2 (((5 : Int32) * x1) + x7).toNatClampNeg)))) gtd gfl grd gnv gac grc gim) H := hP
        have hD : va_D A (w_X13_does cy a0 gth ((gvm.1, gvm.2.1, gvm.2.2.1, gvm.2.2.2.1, gvm.2.2.2.2.1, gvm.2.2.2.2.2.1, gvm.2.2.2.2.2.2.1, gvm.2.2.2.2.2.2.2.1, gvm.2.2.2.2.2.2.2.2.1, gvm.2.2.2.2.2.2.2.2.2.1, gvm.2.2.2.2.2.2.2.2.2.2.1, (upd gvm.2.2.2.2.2.2.2.2.2.2.2 (((5 : Int32) * x6) + x7).toNatClampNeg (gac.2.2 (((5 : Int32) * x1) + x7).toNatClampNeg)))) gtd gfl grd gnv gac grc gim) := hD
        refine lv_iinc (v := (x7 + (1 : Int32))) (lv' := [(7, .int (x7 + (1 : Int32))), (0, .ref (a0 0)), (1, .int x1), (6, .int x6)]) hx hb dX13_does_392 hl (k := 3) rfl rfl (by decide) rfl (fun ls hl => ?_)
        refine lv_goto (tgt := 357) hx hb dX13_does_395 (by decide) ?_
        exact ih (gvm.1, gvm.2.1, gvm.2.2.1, gvm.2.2.2.1, gvm.2.2.2.2.1, gvm.2.2.2.2.2.1, gvm.2.2.2.2.2.2.1, gvm.2.2.2.2.2.2.2.1, gvm.2.2.2.2.2.2.2.2.1, gvm.2.2.2.2.2.2.2.2.2.1, gvm.2.2.2.2.2.2.2.2.2.2.1, (upd gvm.2.2.2.2.2.2.2.2.2.2.2 (((5 : Int32) * x6) + x7).toNatClampNeg (gac.2.2 (((5 : Int32) * x1) + x7).toNatClampNeg))) x1 x6 (x7 + (1 : Int32)) H locs ls h hP hD hS (lv_sub hl [1, 2, 3, 0] rfl)
  have c249 : ∀ (n : Nat), ∀ (gvm : Int32 × Int32 × Int32 × (Nat → Int32) × (Nat → Int32) × (Nat → Int32) × (Nat → Int32) × (Nat → Int32) × (Nat → Int32) × (Nat → Int32) × (Nat → Int32) × (Nat → Int32)) (x7 : Int32) (H : Heap) (locs : List Loc) (ls : Array Slot), p_X13_does_249 gac n gvm x7 = some R0 → va_P (dC, dI) vwCl (w_X13_does cy a0 gth gvm gtd gfl grd gnv gac grc gim) H → va_D A (w_X13_does cy a0 gth gvm gtd gfl grd gnv gac grc gim) → va_S A s.heap H locs → lv_has ls 8 [(0, .ref (a0 0)), (7, .int x7)] → W p l e rm_X13_does s m aa below meth c H locs 0 0 (MQ below qq aa s 0 0 A) (F0 m 249 ls []) := by
    intro  n
    induction n with
    | zero => intro gvm x7 H locs ls h; exact no_some h
    | succ n ih =>
      intro gvm x7 H locs ls h hP hD hS hl
      rw [p_X13_does_249.eq_2] at h
      refine lv_iload hx hb dX13_does_249 (lv_at hl 1 rfl) ?_
      refine lv_aload_n hx hb dX13_does_251 rfl (lv_at hl 0 rfl) ?_
      refine va_get (D := (dC, dI)) (ci := 11) (v := .int gvm.1) (C := RX13) (T := TX13) (N := 64) hx hb hts in_X13 hown hK hP 0 rfl rfl 1 (by decide) lk3 (fun _ h9 => h9) rfl dX13_does_252 ?_
      refine lv_icmp_ge (tgt := 280) hx hb dX13_does_255 (by decide) (fun c1 => ?_) (fun c1 => ?_)
      · rw [if_pos c1] at h
        refine lv_aload_n hx hb dX13_does_280 rfl (lv_at hl 0 rfl) ?_
        obtain ⟨v2, hv3, h⟩ := ok_bind h
        refine cl_vv (w2 := fun (u : (Int32 × Int32 × Int32 × (Nat → Int32) × (Nat → Int32) × (Nat → Int32) × (Nat → Int32) × (Nat → Int32) × (Nat → Int32) × (Nat → Int32) × (Nat → Int32) × (Nat → Int32))) => w_X13_does cy a0 gth u gtd gfl grd gnv gac grc gim) (As := []) (rest := []) ⟨hx, hb, hml, hown, hts⟩ (c_X13_clears l dC dI cy a0 gth gvm gtd gfl grd gnv gac grc gim H.size v2 hv3) (cwV 0 hts gX13_does_X13_clears rfl rfl rfl (by decide +kernel) ⟨Nat.le_of_ble_eq_true rfl, Nat.le_of_ble_eq_true rfl⟩) (va_recv hK hP (ci := 11) (q0 := 0) rfl rfl) cl_blind (cl_pre hK hP hD [0, 1, 2, 3, 4, 5, 6, 7, 8, 9] (by decide) rfl) hP hD hS hA [0, 1, 2, 3, 4, 5, 6, 7, 8, 9] rfl rfl hl.1 rfl (lv_room (Nat.le_of_ble_eq_true rfl)) dX13_does_281 ⟨Nat.le_of_ble_eq_true rfl, Nat.le_of_ble_eq_true rfl⟩ ⟨rfl, rfl⟩ (fun _ => updM [0, 1, 2, 3, 4, 5, 6, 7, 8, 9] [10, 11] [(a0 19, .inl (cy 1, 600, .inl (gac.2.1))), (a0 20, .inl (cy 1, 600, .inl (gac.2.2)))] 12 rfl rfl rfl rfl rfl (by decide +kernel) (by decide +kernel) rfl) (fun u H locs hw hP hD hS => ?_)
        have hw := hw.symm
        subst hw
        have hP : va_P (dC, dI) vwCl (w_X13_does cy a0 gth v2 gtd gfl grd gnv gac grc gim) H := hP
        have hD : va_D A (w_X13_does cy a0 gth v2 gtd gfl grd gnv gac grc gim) := hD
        refine lv_iconst (v := (1 : Int32)) hx hb dX13_does_284 (by decide) ?_
        exact W.zret (v := (1 : Int32)) (ty := .boolean) hx hb hr rfl (fun t ht hW => by rw [hqq]; have hh := Option.some.inj h; exact ⟨⟨(1 : Int32), (v2), rfl, ⟨fst_of hh, snd_of hh⟩, by rw [ht]; exact hP, va_K.moved hW.alike hK⟩, hS.F ht⟩) hS.2.2 dX13_does_285
      · rw [if_neg c1] at h
        refine lv_aload_n hx hb dX13_does_258 rfl (lv_at hl 0 rfl) ?_
        refine lv_dup hx hb dX13_does_259 rfl ?_
        refine va_get (D := (dC, dI)) (ci := 11) (v := .int gvm.2.2.1) (C := RX13) (T := TX13) (N := 64) hx hb hts in_X13 hown hK hP 0 rfl rfl 3 (by decide) lk4 (fun _ h9 => h9) rfl dX13_does_260 ?_
        refine lv_aload_n hx hb dX13_does_263 rfl (lv_at hl 0 rfl) ?_
        refine va_get (D := (dC, dI)) (ci := 11) (v := .ref (a0 3)) (C := RX13) (T := TX13) (N := 64) hx hb hts in_X13 hown hK hP 0 rfl rfl 6 (by decide) lk5 (fun _ h9 => h9) rfl dX13_does_264 ?_
        refine lv_iload hx hb dX13_does_267 (lv_at hl 1 rfl) ?_
        obtain ⟨hi4, h⟩ := ok_if h
        refine va_iald hx hb hK hP 3 1 rfl rfl (ix_in hi4) dX13_does_269 ?_
        refine lv_isub hx hb dX13_does_270 ?_
        refine va_put (D := (dC, dI)) (ci := 11) (v := .int (gvm.2.2.1 - (gvm.2.2.2.2.2.1 x7.toNatClampNeg))) (ty := .int) (C := RX13) (T := TX13) (N := 64) hx hb hts in_X13 tyX13 tyX13_ok nmX13 hown hK hP hD hS 0 rfl rfl 3 (by decide) lk4 (fun _ h9 => h9) rfl (by decide +kernel) rfl rfl (Nat.le_of_ble_eq_true rfl) dX13_does_271 (fun H locs hP hD hS => ?_)
        have hP : va_P (dC, dI) vwCl (w_X13_does cy a0 gth ((gvm.1, gvm.2.1, (gvm.2.2.1 - (gvm.2.2.2.2.2.1 x7.toNatClampNeg)), gvm.2.2.2)) gtd gfl grd gnv gac grc gim) H := hP
        have hD : va_D A (w_X13_does cy a0 gth ((gvm.1, gvm.2.1, (gvm.2.2.1 - (gvm.2.2.2.2.2.1 x7.toNatClampNeg)), gvm.2.2.2)) gtd gfl grd gnv gac grc gim) := hD
        refine lv_iinc (v := (x7 + (1 : Int32))) (lv' := [(7, .int (x7 + (1 : Int32))), (0, .ref (a0 0))]) hx hb dX13_does_274 hl (k := 1) rfl rfl (by decide) rfl (fun ls hl => ?_)
        refine lv_goto (tgt := 249) hx hb dX13_does_277 (by decide) ?_
        exact ih (gvm.1, gvm.2.1, (gvm.2.2.1 - (gvm.2.2.2.2.2.1 x7.toNatClampNeg)), gvm.2.2.2) (x7 + (1 : Int32)) H locs ls h hP hD hS (lv_sub hl [1, 0] rfl)
  obtain ⟨H, hH⟩ : ∃ H : Heap, H = s.heap := ⟨_, rfl⟩
  obtain ⟨locs, hlocs⟩ : ∃ locs : List Loc, locs = [] := ⟨_, rfl⟩
  have hS : va_S A s.heap H locs := by rw [hH, hlocs]; exact hS
  rw [← hH] at hP
  suffices hg : W p l e rm_X13_does s m aa below meth c H locs 0 0 (MQ below qq aa s 0 0 A) (F0 m 0 ls []) by subst hH; subst hlocs; exact hg
  unfold p_X13_does at h
  refine lv_iconst (v := (5 : Int32)) hx hb dX13_does_0 (by decide) ?_
  refine lv_iload_n hx hb dX13_does_1 rfl (lv_at hl 1 rfl) ?_
  refine lv_imul hx hb dX13_does_2 ?_
  refine lv_istore_n (lv' := [(2, .int ((5 : Int32) * x1)), (0, .ref (a0 0)), (1, .int x1)]) hx hb dX13_does_3 rfl hl (by decide) rfl (fun ls hl => ?_)
  refine lv_aload_n hx hb dX13_does_4 rfl (lv_at hl 1 rfl) ?_
  refine va_get (D := (dC, dI)) (ci := 11) (v := .ref (a0 19)) (C := RX13) (T := TX13) (N := 64) hx hb hts in_X13 hown hK hP 0 rfl rfl 38 (by decide) lk6 (fun _ h9 => h9) rfl dX13_does_5 ?_
  refine lv_iload_n hx hb dX13_does_8 rfl (lv_at hl 0 rfl) ?_
  refine lv_iconst (v := (1 : Int32)) hx hb dX13_does_9 (by decide) ?_
  refine lv_iadd hx hb dX13_does_10 ?_
  obtain ⟨hi1, h⟩ := ok_if h
  refine va_iald hx hb hK hP 10 1 rfl rfl (ix_in hi1) dX13_does_11 ?_
  refine lv_istore_n (lv' := [(3, .int (gac.2.1 (((5 : Int32) * x1) + (1 : Int32)).toNatClampNeg)), (2, .int ((5 : Int32) * x1)), (0, .ref (a0 0)), (1, .int x1)]) hx hb dX13_does_12 rfl hl (by decide) rfl (fun ls hl => ?_)
  refine lv_aload_n hx hb dX13_does_13 rfl (lv_at hl 2 rfl) ?_
  refine va_get (D := (dC, dI)) (ci := 11) (v := .ref (a0 19)) (C := RX13) (T := TX13) (N := 64) hx hb hts in_X13 hown hK hP 0 rfl rfl 38 (by decide) lk6 (fun _ h9 => h9) rfl dX13_does_14 ?_
  refine lv_iload_n hx hb dX13_does_17 rfl (lv_at hl 1 rfl) ?_
  refine lv_iconst (v := (2 : Int32)) hx hb dX13_does_18 (by decide) ?_
  refine lv_iadd hx hb dX13_does_19 ?_
  obtain ⟨hi2, h⟩ := ok_if h
  refine va_iald hx hb hK hP 10 1 rfl rfl (ix_in hi2) dX13_does_20 ?_
  refine lv_istore (lv' := [(4, .int (gac.2.1 (((5 : Int32) * x1) + (2 : Int32)).toNatClampNeg)), (3, .int (gac.2.1 (((5 : Int32) * x1) + (1 : Int32)).toNatClampNeg)), (2, .int ((5 : Int32) * x1)), (0, .ref (a0 0)), (1, .int x1)]) hx hb dX13_does_21 hl (by decide) rfl (fun ls hl => ?_)
  refine lv_aload_n hx hb dX13_does_23 rfl (lv_at hl 3 rfl) ?_
  refine va_get (D := (dC, dI)) (ci := 11) (v := .ref (a0 19)) (C := RX13) (T := TX13) (N := 64) hx hb hts in_X13 hown hK hP 0 rfl rfl 38 (by decide) lk6 (fun _ h9 => h9) rfl dX13_does_24 ?_
  refine lv_iload_n hx hb dX13_does_27 rfl (lv_at hl 2 rfl) ?_
  refine lv_iconst (v := (3 : Int32)) hx hb dX13_does_28 (by decide) ?_
  refine lv_iadd hx hb dX13_does_29 ?_
  obtain ⟨hi3, h⟩ := ok_if h
  refine va_iald hx hb hK hP 10 1 rfl rfl (ix_in hi3) dX13_does_30 ?_
  refine lv_istore (lv' := [(5, .int (gac.2.1 (((5 : Int32) * x1) + (3 : Int32)).toNatClampNeg)), (4, .int (gac.2.1 (((5 : Int32) * x1) + (2 : Int32)).toNatClampNeg)), (3, .int (gac.2.1 (((5 : Int32) * x1) + (1 : Int32)).toNatClampNeg)), (2, .int ((5 : Int32) * x1)), (0, .ref (a0 0)), (1, .int x1)]) hx hb dX13_does_31 hl (by decide) rfl (fun ls hl => ?_)
  refine lv_aload_n hx hb dX13_does_33 rfl (lv_at hl 4 rfl) ?_
  obtain ⟨v4, hv5, h⟩ := ok_bind h
  refine cl_vi (w2 := fun (_ : Unit) => w_X13_does cy a0 gth gvm gtd gfl grd gnv gac grc gim) (As := []) (rest := []) ⟨hx, hb, hml, hown, hts⟩ (c_X13_freeDoor l dC dI cy a0 gth gvm gtd gfl grd gnv gac grc gim H.size v4 hv5) (cwV 0 hts gX13_does_X13_freeDoor rfl rfl rfl (by decide +kernel) ⟨Nat.le_of_ble_eq_true rfl, Nat.le_of_ble_eq_true rfl⟩) (va_recv hK hP (ci := 11) (q0 := 0) rfl rfl) cl_blind (cl_pre hK hP hD [0, 1, 2, 3, 4, 5, 6, 7, 8, 9] (by decide) rfl) hP hD hS hA [0, 1, 2, 3, 4, 5, 6, 7, 8, 9] rfl rfl hl.1 rfl (lv_room (Nat.le_of_ble_eq_true rfl)) dX13_does_34 ⟨Nat.le_of_ble_eq_true rfl, Nat.le_of_ble_eq_true rfl⟩ ⟨rfl, rfl⟩ (fun _ => updR [0, 1, 2, 3, 4, 5, 6, 7, 8, 9] rfl) (fun r u H locs hw hP hD hS => ?_)
  have hw := hw.symm
  subst hw
  have hP : va_P (dC, dI) vwCl (w_X13_does cy a0 gth gvm gtd gfl grd gnv gac grc gim) H := hP
  have hD : va_D A (w_X13_does cy a0 gth gvm gtd gfl grd gnv gac grc gim) := hD
  refine lv_istore (lv' := [(6, .int v4), (5, .int (gac.2.1 (((5 : Int32) * x1) + (3 : Int32)).toNatClampNeg)), (4, .int (gac.2.1 (((5 : Int32) * x1) + (2 : Int32)).toNatClampNeg)), (3, .int (gac.2.1 (((5 : Int32) * x1) + (1 : Int32)).toNatClampNeg)), (2, .int ((5 : Int32) * x1)), (0, .ref (a0 0)), (1, .int x1)]) hx hb dX13_does_37 hl (by decide) rfl (fun ls hl => ?_)
  refine lv_aload_n hx hb dX13_does_39 rfl (lv_at hl 5 rfl) ?_
  refine va_get (D := (dC, dI)) (ci := 11) (v := .ref (a0 19)) (C := RX13) (T := TX13) (N := 64) hx hb hts in_X13 hown hK hP 0 rfl rfl 38 (by decide) lk6 (fun _ h9 => h9) rfl dX13_does_40 ?_
  refine lv_iload_n hx hb dX13_does_43 rfl (lv_at hl 4 rfl) ?_
  obtain ⟨hi6, h⟩ := ok_if h
  refine va_iald hx hb hK hP 10 1 rfl rfl (ix_in hi6) dX13_does_44 ?_
  by_cases c7 : (gac.2.1 ((5 : Int32) * x1).toNatClampNeg) = (0 : Int32)
  · rw [if_pos c7] at h
    refine lv_tableIn (off := 43) (tgt := 88) hx hb dX13_does_45 (by rw [c7]; decide) (by rw [c7]; decide) (by rw [c7]; decide) (by decide) ?_
    refine lv_aload_n hx hb dX13_does_88 rfl (lv_at hl 5 rfl) ?_
    obtain ⟨v8, hv9, h⟩ := ok_bind h
    refine cl_vi (w2 := fun (_ : Unit) => w_X13_does cy a0 gth gvm gtd gfl grd gnv gac grc gim) (As := []) (rest := []) ⟨hx, hb, hml, hown, hts⟩ (c_X13_all l dC dI cy a0 gth gvm gtd gfl grd gnv gac grc gim H.size v8 hv9) (cwV 0 hts gX13_does_X13_all rfl rfl rfl (by decide +kernel) ⟨Nat.le_of_ble_eq_true rfl, Nat.le_of_ble_eq_true rfl⟩) (va_recv hK hP (ci := 11) (q0 := 0) rfl rfl) cl_blind (cl_pre hK hP hD [0, 1, 2, 3, 4, 5, 6, 7, 8, 9] (by decide) rfl) hP hD hS hA [0, 1, 2, 3, 4, 5, 6, 7, 8, 9] rfl rfl hl.1 rfl (lv_room (Nat.le_of_ble_eq_true rfl)) dX13_does_89 ⟨Nat.le_of_ble_eq_true rfl, Nat.le_of_ble_eq_true rfl⟩ ⟨rfl, rfl⟩ (fun _ => updR [0, 1, 2, 3, 4, 5, 6, 7, 8, 9] rfl) (fun r u H locs hw hP hD hS => ?_)
    have hw := hw.symm
    subst hw
    have hP : va_P (dC, dI) vwCl (w_X13_does cy a0 gth gvm gtd gfl grd gnv gac grc gim) H := hP
    have hD : va_D A (w_X13_does cy a0 gth gvm gtd gfl grd gnv gac grc gim) := hD
    refine lv_iload hx hb dX13_does_92 (lv_at hl 1 rfl) ?_
    refine lv_iadd hx hb dX13_does_94 ?_
    refine lv_bipush (v := (40 : Int32)) hx hb dX13_does_95 (by decide) ?_
    refine lv_icmp_le (tgt := 102) hx hb dX13_does_97 (by decide) (fun c10 => ?_) (fun c10 => ?_)
    · rw [if_pos c10] at h
      refine lv_aload_n hx hb dX13_does_102 rfl (lv_at hl 5 rfl) ?_
      refine va_get (D := (dC, dI)) (ci := 11) (v := .ref (a0 1)) (C := RX13) (T := TX13) (N := 64) hx hb hts in_X13 hown hK hP 0 rfl rfl 4 (by decide) lk7 (fun _ h9 => h9) rfl dX13_does_103 ?_
      refine lv_iload_n hx hb dX13_does_106 rfl (lv_at hl 3 rfl) ?_
      refine lv_dup2_11 hx hb dX13_does_107 rfl rfl ?_
      obtain ⟨hi11, h⟩ := ok_if h
      refine va_iald hx hb hK hP 1 1 rfl rfl (ix_in hi11) dX13_does_108 ?_
      refine lv_iload hx hb dX13_does_109 (lv_at hl 1 rfl) ?_
      refine lv_iadd hx hb dX13_does_111 ?_
      obtain ⟨hi12, h⟩ := ok_if h
      refine va_iast hx hb hK hP hD hS 1 1 rfl rfl (ix_in hi12) dX13_does_112 (fun H locs hP hD hS => ?_)
      have hP : va_P (dC, dI) vwCl (w_X13_does cy a0 gth ((gvm.1, gvm.2.1, gvm.2.2.1, (upd gvm.2.2.2.1 (gac.2.1 (((5 : Int32) * x1) + (1 : Int32)).toNatClampNeg).toNatClampNeg ((gvm.2.2.2.1 (gac.2.1 (((5 : Int32) * x1) + (1 : Int32)).toNatClampNeg).toNatClampNeg) + (gac.2.1 (((5 : Int32) * x1) + (3 : Int32)).toNatClampNeg))), gvm.2.2.2.2)) gtd gfl grd gnv gac grc gim) H := hP
      have hD : va_D A (w_X13_does cy a0 gth ((gvm.1, gvm.2.1, gvm.2.2.1, (upd gvm.2.2.2.1 (gac.2.1 (((5 : Int32) * x1) + (1 : Int32)).toNatClampNeg).toNatClampNeg ((gvm.2.2.2.1 (gac.2.1 (((5 : Int32) * x1) + (1 : Int32)).toNatClampNeg).toNatClampNeg) + (gac.2.1 (((5 : Int32) * x1) + (3 : Int32)).toNatClampNeg))), gvm.2.2.2.2)) gtd gfl grd gnv gac grc gim) := hD
      refine lv_iconst (v := (1 : Int32)) hx hb dX13_does_113 (by decide) ?_
      exact W.zret (v := (1 : Int32)) (ty := .boolean) hx hb hr rfl (fun t ht hW => by rw [hqq]; have hh := Option.some.inj h; exact ⟨⟨(1 : Int32), ((gvm.1, gvm.2.1, gvm.2.2.1, (upd gvm.2.2.2.1 (gac.2.1 (((5 : Int32) * x1) + (1 : Int32)).toNatClampNeg).toNatClampNeg ((gvm.2.2.2.1 (gac.2.1 (((5 : Int32) * x1) + (1 : Int32)).toNatClampNeg).toNatClampNeg) + (gac.2.1 (((5 : Int32) * x1) + (3 : Int32)).toNatClampNeg))), gvm.2.2.2.2)), rfl, ⟨fst_of hh, snd_of hh⟩, by rw [ht]; exact hP, va_K.moved hW.alike hK⟩, hS.F ht⟩) hS.2.2 dX13_does_114
    · rw [if_neg c10] at h
      refine lv_iconst (v := (0 : Int32)) hx hb dX13_does_100 (by decide) ?_
      exact W.zret (v := (0 : Int32)) (ty := .boolean) hx hb hr rfl (fun t ht hW => by rw [hqq]; have hh := Option.some.inj h; exact ⟨⟨(0 : Int32), (gvm), rfl, ⟨fst_of hh, snd_of hh⟩, by rw [ht]; exact hP, va_K.moved hW.alike hK⟩, hS.F ht⟩) hS.2.2 dX13_does_101
  rw [if_neg c7] at h
  by_cases c13 : (gac.2.1 ((5 : Int32) * x1).toNatClampNeg) = (1 : Int32)
  · rw [if_pos c13] at h
    refine lv_tableIn (off := 70) (tgt := 115) hx hb dX13_does_45 (by rw [c13]; decide) (by rw [c13]; decide) (by rw [c13]; decide) (by decide) ?_
    refine lv_aload_n hx hb dX13_does_115 rfl (lv_at hl 5 rfl) ?_
    refine va_get (D := (dC, dI)) (ci := 11) (v := .ref (a0 1)) (C := RX13) (T := TX13) (N := 64) hx hb hts in_X13 hown hK hP 0 rfl rfl 4 (by decide) lk7 (fun _ h9 => h9) rfl dX13_does_116 ?_
    refine lv_iload_n hx hb dX13_does_119 rfl (lv_at hl 3 rfl) ?_
    obtain ⟨hi14, h⟩ := ok_if h
    refine va_iald hx hb hK hP 1 1 rfl rfl (ix_in hi14) dX13_does_120 ?_
    refine lv_aload_n hx hb dX13_does_121 rfl (lv_at hl 5 rfl) ?_
    refine lv_iload_n hx hb dX13_does_122 rfl (lv_at hl 3 rfl) ?_
    obtain ⟨v15, hv16, h⟩ := ok_bind h
    refine cl_vi (w2 := fun (_ : Unit) => w_X13_does cy a0 gth gvm gtd gfl grd gnv gac grc gim) (As := [.int (gac.2.1 (((5 : Int32) * x1) + (1 : Int32)).toNatClampNeg)]) (rest := [.int (gvm.2.2.2.1 (gac.2.1 (((5 : Int32) * x1) + (1 : Int32)).toNatClampNeg).toNatClampNeg)]) ⟨hx, hb, hml, hown, hts⟩ (c_X13_lentBy l dC dI cy a0 gth gvm gtd gfl grd gnv gac grc gim (gac.2.1 (((5 : Int32) * x1) + (1 : Int32)).toNatClampNeg) H.size v15 hv16) (cwV 1 hts gX13_does_X13_lentBy rfl rfl rfl (by decide +kernel) ⟨Nat.le_of_ble_eq_true rfl, Nat.le_of_ble_eq_true rfl⟩) (va_recv hK hP (ci := 11) (q0 := 0) rfl rfl) cl_blind (cl_pre hK hP hD [0, 1, 2, 3, 4, 5, 6, 7, 8, 9] (by decide) rfl) hP hD hS hA [0, 1, 2, 3, 4, 5, 6, 7, 8, 9] rfl rfl hl.1 rfl (lv_room (Nat.le_of_ble_eq_true rfl)) dX13_does_123 ⟨Nat.le_of_ble_eq_true rfl, Nat.le_of_ble_eq_true rfl⟩ ⟨rfl, rfl⟩ (fun _ => updR [0, 1, 2, 3, 4, 5, 6, 7, 8, 9] rfl) (fun r u H locs hw hP hD hS => ?_)
    have hw := hw.symm
    subst hw
    have hP : va_P (dC, dI) vwCl (w_X13_does cy a0 gth gvm gtd gfl grd gnv gac grc gim) H := hP
    have hD : va_D A (w_X13_does cy a0 gth gvm gtd gfl grd gnv gac grc gim) := hD
    refine lv_isub hx hb dX13_does_126 ?_
    refine lv_aload_n hx hb dX13_does_127 rfl (lv_at hl 5 rfl) ?_
    refine va_get (D := (dC, dI)) (ci := 11) (v := .ref (a0 3)) (C := RX13) (T := TX13) (N := 64) hx hb hts in_X13 hown hK hP 0 rfl rfl 6 (by decide) lk5 (fun _ h9 => h9) rfl dX13_does_128 ?_
    refine lv_iload_n hx hb dX13_does_131 rfl (lv_at hl 3 rfl) ?_
    obtain ⟨hi17, h⟩ := ok_if h
    refine va_iald hx hb hK hP 3 1 rfl rfl (ix_in hi17) dX13_does_132 ?_
    refine lv_isub hx hb dX13_does_133 ?_
    refine lv_iload hx hb dX13_does_134 (lv_at hl 1 rfl) ?_
    refine lv_icmp_ge (tgt := 141) hx hb dX13_does_136 (by decide) (fun c18 => ?_) (fun c18 => ?_)
    · rw [if_pos c18] at h
      refine lv_aload_n hx hb dX13_does_141 rfl (lv_at hl 5 rfl) ?_
      refine va_get (D := (dC, dI)) (ci := 11) (v := .ref (a0 1)) (C := RX13) (T := TX13) (N := 64) hx hb hts in_X13 hown hK hP 0 rfl rfl 4 (by decide) lk7 (fun _ h9 => h9) rfl dX13_does_142 ?_
      refine lv_iload_n hx hb dX13_does_145 rfl (lv_at hl 3 rfl) ?_
      refine lv_dup2_11 hx hb dX13_does_146 rfl rfl ?_
      obtain ⟨hi19, h⟩ := ok_if h
      refine va_iald hx hb hK hP 1 1 rfl rfl (ix_in hi19) dX13_does_147 ?_
      refine lv_iload hx hb dX13_does_148 (lv_at hl 1 rfl) ?_
      refine lv_isub hx hb dX13_does_150 ?_
      obtain ⟨hi20, h⟩ := ok_if h
      refine va_iast hx hb hK hP hD hS 1 1 rfl rfl (ix_in hi20) dX13_does_151 (fun H locs hP hD hS => ?_)
      have hP : va_P (dC, dI) vwCl (w_X13_does cy a0 gth ((gvm.1, gvm.2.1, gvm.2.2.1, (upd gvm.2.2.2.1 (gac.2.1 (((5 : Int32) * x1) + (1 : Int32)).toNatClampNeg).toNatClampNeg ((gvm.2.2.2.1 (gac.2.1 (((5 : Int32) * x1) + (1 : Int32)).toNatClampNeg).toNatClampNeg) - (gac.2.1 (((5 : Int32) * x1) + (3 : Int32)).toNatClampNeg))), gvm.2.2.2.2)) gtd gfl grd gnv gac grc gim) H := hP
      have hD : va_D A (w_X13_does cy a0 gth ((gvm.1, gvm.2.1, gvm.2.2.1, (upd gvm.2.2.2.1 (gac.2.1 (((5 : Int32) * x1) + (1 : Int32)).toNatClampNeg).toNatClampNeg ((gvm.2.2.2.1 (gac.2.1 (((5 : Int32) * x1) + (1 : Int32)).toNatClampNeg).toNatClampNeg) - (gac.2.1 (((5 : Int32) * x1) + (3 : Int32)).toNatClampNeg))), gvm.2.2.2.2)) gtd gfl grd gnv gac grc gim) := hD
      refine lv_iconst (v := (1 : Int32)) hx hb dX13_does_152 (by decide) ?_
      exact W.zret (v := (1 : Int32)) (ty := .boolean) hx hb hr rfl (fun t ht hW => by rw [hqq]; have hh := Option.some.inj h; exact ⟨⟨(1 : Int32), ((gvm.1, gvm.2.1, gvm.2.2.1, (upd gvm.2.2.2.1 (gac.2.1 (((5 : Int32) * x1) + (1 : Int32)).toNatClampNeg).toNatClampNeg ((gvm.2.2.2.1 (gac.2.1 (((5 : Int32) * x1) + (1 : Int32)).toNatClampNeg).toNatClampNeg) - (gac.2.1 (((5 : Int32) * x1) + (3 : Int32)).toNatClampNeg))), gvm.2.2.2.2)), rfl, ⟨fst_of hh, snd_of hh⟩, by rw [ht]; exact hP, va_K.moved hW.alike hK⟩, hS.F ht⟩) hS.2.2 dX13_does_153
    · rw [if_neg c18] at h
      refine lv_iconst (v := (0 : Int32)) hx hb dX13_does_139 (by decide) ?_
      exact W.zret (v := (0 : Int32)) (ty := .boolean) hx hb hr rfl (fun t ht hW => by rw [hqq]; have hh := Option.some.inj h; exact ⟨⟨(0 : Int32), (gvm), rfl, ⟨fst_of hh, snd_of hh⟩, by rw [ht]; exact hP, va_K.moved hW.alike hK⟩, hS.F ht⟩) hS.2.2 dX13_does_140
  rw [if_neg c13] at h
  by_cases c21 : (gac.2.1 ((5 : Int32) * x1).toNatClampNeg) = (2 : Int32)
  · rw [if_pos c21] at h
    refine lv_tableIn (off := 109) (tgt := 154) hx hb dX13_does_45 (by rw [c21]; decide) (by rw [c21]; decide) (by rw [c21]; decide) (by decide) ?_
    refine lv_aload_n hx hb dX13_does_154 rfl (lv_at hl 5 rfl) ?_
    refine va_get (D := (dC, dI)) (ci := 11) (v := .ref (a0 1)) (C := RX13) (T := TX13) (N := 64) hx hb hts in_X13 hown hK hP 0 rfl rfl 4 (by decide) lk7 (fun _ h9 => h9) rfl dX13_does_155 ?_
    refine lv_iload_n hx hb dX13_does_158 rfl (lv_at hl 3 rfl) ?_
    obtain ⟨hi22, h⟩ := ok_if h
    refine va_iald hx hb hK hP 1 1 rfl rfl (ix_in hi22) dX13_does_159 ?_
    refine lv_aload_n hx hb dX13_does_160 rfl (lv_at hl 5 rfl) ?_
    refine lv_iload_n hx hb dX13_does_161 rfl (lv_at hl 3 rfl) ?_
    obtain ⟨v23, hv24, h⟩ := ok_bind h
    refine cl_vi (w2 := fun (_ : Unit) => w_X13_does cy a0 gth gvm gtd gfl grd gnv gac grc gim) (As := [.int (gac.2.1 (((5 : Int32) * x1) + (1 : Int32)).toNatClampNeg)]) (rest := [.int (gvm.2.2.2.1 (gac.2.1 (((5 : Int32) * x1) + (1 : Int32)).toNatClampNeg).toNatClampNeg)]) ⟨hx, hb, hml, hown, hts⟩ (c_X13_lentBy l dC dI cy a0 gth gvm gtd gfl grd gnv gac grc gim (gac.2.1 (((5 : Int32) * x1) + (1 : Int32)).toNatClampNeg) H.size v23 hv24) (cwV 1 hts gX13_does_X13_lentBy rfl rfl rfl (by decide +kernel) ⟨Nat.le_of_ble_eq_true rfl, Nat.le_of_ble_eq_true rfl⟩) (va_recv hK hP (ci := 11) (q0 := 0) rfl rfl) cl_blind (cl_pre hK hP hD [0, 1, 2, 3, 4, 5, 6, 7, 8, 9] (by decide) rfl) hP hD hS hA [0, 1, 2, 3, 4, 5, 6, 7, 8, 9] rfl rfl hl.1 rfl (lv_room (Nat.le_of_ble_eq_true rfl)) dX13_does_162 ⟨Nat.le_of_ble_eq_true rfl, Nat.le_of_ble_eq_true rfl⟩ ⟨rfl, rfl⟩ (fun _ => updR [0, 1, 2, 3, 4, 5, 6, 7, 8, 9] rfl) (fun r u H locs hw hP hD hS => ?_)
    have hw := hw.symm
    subst hw
    have hP : va_P (dC, dI) vwCl (w_X13_does cy a0 gth gvm gtd gfl grd gnv gac grc gim) H := hP
    have hD : va_D A (w_X13_does cy a0 gth gvm gtd gfl grd gnv gac grc gim) := hD
    refine lv_isub hx hb dX13_does_165 ?_
    refine lv_aload_n hx hb dX13_does_166 rfl (lv_at hl 5 rfl) ?_
    refine va_get (D := (dC, dI)) (ci := 11) (v := .ref (a0 3)) (C := RX13) (T := TX13) (N := 64) hx hb hts in_X13 hown hK hP 0 rfl rfl 6 (by decide) lk5 (fun _ h9 => h9) rfl dX13_does_167 ?_
    refine lv_iload_n hx hb dX13_does_170 rfl (lv_at hl 3 rfl) ?_
    obtain ⟨hi25, h⟩ := ok_if h
    refine va_iald hx hb hK hP 3 1 rfl rfl (ix_in hi25) dX13_does_171 ?_
    refine lv_isub hx hb dX13_does_172 ?_
    refine lv_iload hx hb dX13_does_173 (lv_at hl 1 rfl) ?_
    refine lv_icmp_ge (tgt := 180) hx hb dX13_does_175 (by decide) (fun c26 => ?_) (fun c26 => ?_)
    · rw [if_pos c26] at h
      refine lv_aload_n hx hb dX13_does_180 rfl (lv_at hl 5 rfl) ?_
      refine va_get (D := (dC, dI)) (ci := 11) (v := .ref (a0 4)) (C := RX13) (T := TX13) (N := 64) hx hb hts in_X13 hown hK hP 0 rfl rfl 7 (by decide) lk8 (fun _ h9 => h9) rfl dX13_does_181 ?_
      refine lv_iconst (v := (5 : Int32)) hx hb dX13_does_184 (by decide) ?_
      refine lv_iload_n hx hb dX13_does_185 rfl (lv_at hl 3 rfl) ?_
      refine lv_imul hx hb dX13_does_186 ?_
      refine lv_iload hx hb dX13_does_187 (lv_at hl 2 rfl) ?_
      refine lv_iadd hx hb dX13_does_189 ?_
      refine lv_dup2_11 hx hb dX13_does_190 rfl rfl ?_
      obtain ⟨hi27, h⟩ := ok_if h
      refine va_iald hx hb hK hP 4 1 rfl rfl (ix_in hi27) dX13_does_191 ?_
      refine lv_iload hx hb dX13_does_192 (lv_at hl 1 rfl) ?_
      refine lv_iadd hx hb dX13_does_194 ?_
      obtain ⟨hi28, h⟩ := ok_if h
      refine va_iast hx hb hK hP hD hS 4 1 rfl rfl (ix_in hi28) dX13_does_195 (fun H locs hP hD hS => ?_)
      have hP : va_P (dC, dI) vwCl (w_X13_does cy a0 gth ((gvm.1, gvm.2.1, gvm.2.2.1, gvm.2.2.2.1, gvm.2.2.2.2.1, gvm.2.2.2.2.2.1, (upd gvm.2.2.2.2.2.2.1 (((5 : Int32) * (gac.2.1 (((5 : Int32) * x1) + (1 : Int32)).toNatClampNeg)) + (gac.2.1 (((5 : Int32) * x1) + (2 : Int32)).toNatClampNeg)).toNatClampNeg ((gvm.2.2.2.2.2.2.1 (((5 : Int32) * (gac.2.1 (((5 : Int32) * x1) + (1 : Int32)).toNatClampNeg)) + (gac.2.1 (((5 : Int32) * x1) + (2 : Int32)).toNatClampNeg)).toNatClampNeg) + (gac.2.1 (((5 : Int32) * x1) + (3 : Int32)).toNatClampNeg))), gvm.2.2.2.2.2.2.2)) gtd gfl grd gnv gac grc gim) H := hP
      have hD : va_D A (w_X13_does cy a0 gth ((gvm.1, gvm.2.1, gvm.2.2.1, gvm.2.2.2.1, gvm.2.2.2.2.1, gvm.2.2.2.2.2.1, (upd gvm.2.2.2.2.2.2.1 (((5 : Int32) * (gac.2.1 (((5 : Int32) * x1) + (1 : Int32)).toNatClampNeg)) + (gac.2.1 (((5 : Int32) * x1) + (2 : Int32)).toNatClampNeg)).toNatClampNeg ((gvm.2.2.2.2.2.2.1 (((5 : Int32) * (gac.2.1 (((5 : Int32) * x1) + (1 : Int32)).toNatClampNeg)) + (gac.2.1 (((5 : Int32) * x1) + (2 : Int32)).toNatClampNeg)).toNatClampNeg) + (gac.2.1 (((5 : Int32) * x1) + (3 : Int32)).toNatClampNeg))), gvm.2.2.2.2.2.2.2)) gtd gfl grd gnv gac grc gim) := hD
      refine lv_iconst (v := (1 : Int32)) hx hb dX13_does_196 (by decide) ?_
      exact W.zret (v := (1 : Int32)) (ty := .boolean) hx hb hr rfl (fun t ht hW => by rw [hqq]; have hh := Option.some.inj h; exact ⟨⟨(1 : Int32), ((gvm.1, gvm.2.1, gvm.2.2.1, gvm.2.2.2.1, gvm.2.2.2.2.1, gvm.2.2.2.2.2.1, (upd gvm.2.2.2.2.2.2.1 (((5 : Int32) * (gac.2.1 (((5 : Int32) * x1) + (1 : Int32)).toNatClampNeg)) + (gac.2.1 (((5 : Int32) * x1) + (2 : Int32)).toNatClampNeg)).toNatClampNeg ((gvm.2.2.2.2.2.2.1 (((5 : Int32) * (gac.2.1 (((5 : Int32) * x1) + (1 : Int32)).toNatClampNeg)) + (gac.2.1 (((5 : Int32) * x1) + (2 : Int32)).toNatClampNeg)).toNatClampNeg) + (gac.2.1 (((5 : Int32) * x1) + (3 : Int32)).toNatClampNeg))), gvm.2.2.2.2.2.2.2)), rfl, ⟨fst_of hh, snd_of hh⟩, by rw [ht]; exact hP, va_K.moved hW.alike hK⟩, hS.F ht⟩) hS.2.2 dX13_does_197
    · rw [if_neg c26] at h
      refine lv_iconst (v := (0 : Int32)) hx hb dX13_does_178 (by decide) ?_
      exact W.zret (v := (0 : Int32)) (ty := .boolean) hx hb hr rfl (fun t ht hW => by rw [hqq]; have hh := Option.some.inj h; exact ⟨⟨(0 : Int32), (gvm), rfl, ⟨fst_of hh, snd_of hh⟩, by rw [ht]; exact hP, va_K.moved hW.alike hK⟩, hS.F ht⟩) hS.2.2 dX13_does_179
  rw [if_neg c21] at h
  by_cases c29 : (gac.2.1 ((5 : Int32) * x1).toNatClampNeg) = (3 : Int32)
  · rw [if_pos c29] at h
    refine lv_tableIn (off := 153) (tgt := 198) hx hb dX13_does_45 (by rw [c29]; decide) (by rw [c29]; decide) (by rw [c29]; decide) (by decide) ?_
    refine lv_iload hx hb dX13_does_198 (lv_at hl 1 rfl) ?_
    refine lv_aload_n hx hb dX13_does_200 rfl (lv_at hl 5 rfl) ?_
    refine va_get (D := (dC, dI)) (ci := 11) (v := .ref (a0 2)) (C := RX13) (T := TX13) (N := 64) hx hb hts in_X13 hown hK hP 0 rfl rfl 5 (by decide) lk9 (fun _ h9 => h9) rfl dX13_does_201 ?_
    refine lv_iload_n hx hb dX13_does_204 rfl (lv_at hl 3 rfl) ?_
    obtain ⟨hi30, h⟩ := ok_if h
    refine va_iald hx hb hK hP 2 1 rfl rfl (ix_in hi30) dX13_does_205 ?_
    refine lv_icmp_gt (tgt := 226) hx hb dX13_does_206 (by decide) (fun c31 => ?_) (fun c31 => ?_)
    · rw [if_pos c31] at h
      refine lv_iconst (v := (0 : Int32)) hx hb dX13_does_226 (by decide) ?_
      exact W.zret (v := (0 : Int32)) (ty := .boolean) hx hb hr rfl (fun t ht hW => by rw [hqq]; have hh := Option.some.inj h; exact ⟨⟨(0 : Int32), (gvm), rfl, ⟨fst_of hh, snd_of hh⟩, by rw [ht]; exact hP, va_K.moved hW.alike hK⟩, hS.F ht⟩) hS.2.2 dX13_does_227
    · rw [if_neg c31] at h
      refine lv_iload hx hb dX13_does_209 (lv_at hl 1 rfl) ?_
      refine lv_aload_n hx hb dX13_does_211 rfl (lv_at hl 5 rfl) ?_
      refine va_get (D := (dC, dI)) (ci := 11) (v := .ref (a0 1)) (C := RX13) (T := TX13) (N := 64) hx hb hts in_X13 hown hK hP 0 rfl rfl 4 (by decide) lk7 (fun _ h9 => h9) rfl dX13_does_212 ?_
      refine lv_iload_n hx hb dX13_does_215 rfl (lv_at hl 3 rfl) ?_
      obtain ⟨hi32, h⟩ := ok_if h
      refine va_iald hx hb hK hP 1 1 rfl rfl (ix_in hi32) dX13_does_216 ?_
      refine lv_aload_n hx hb dX13_does_217 rfl (lv_at hl 5 rfl) ?_
      refine lv_iload_n hx hb dX13_does_218 rfl (lv_at hl 3 rfl) ?_
      obtain ⟨v33, hv34, h⟩ := ok_bind h
      refine cl_vi (w2 := fun (_ : Unit) => w_X13_does cy a0 gth gvm gtd gfl grd gnv gac grc gim) (As := [.int (gac.2.1 (((5 : Int32) * x1) + (1 : Int32)).toNatClampNeg)]) (rest := [.int (gvm.2.2.2.1 (gac.2.1 (((5 : Int32) * x1) + (1 : Int32)).toNatClampNeg).toNatClampNeg), .int (gac.2.1 (((5 : Int32) * x1) + (3 : Int32)).toNatClampNeg)]) ⟨hx, hb, hml, hown, hts⟩ (c_X13_lentBy l dC dI cy a0 gth gvm gtd gfl grd gnv gac grc gim (gac.2.1 (((5 : Int32) * x1) + (1 : Int32)).toNatClampNeg) H.size v33 hv34) (cwV 1 hts gX13_does_X13_lentBy rfl rfl rfl (by decide +kernel) ⟨Nat.le_of_ble_eq_true rfl, Nat.le_of_ble_eq_true rfl⟩) (va_recv hK hP (ci := 11) (q0 := 0) rfl rfl) cl_blind (cl_pre hK hP hD [0, 1, 2, 3, 4, 5, 6, 7, 8, 9] (by decide) rfl) hP hD hS hA [0, 1, 2, 3, 4, 5, 6, 7, 8, 9] rfl rfl hl.1 rfl (lv_room (Nat.le_of_ble_eq_true rfl)) dX13_does_219 ⟨Nat.le_of_ble_eq_true rfl, Nat.le_of_ble_eq_true rfl⟩ ⟨rfl, rfl⟩ (fun _ => updR [0, 1, 2, 3, 4, 5, 6, 7, 8, 9] rfl) (fun r u H locs hw hP hD hS => ?_)
      have hw := hw.symm
      subst hw
      have hP : va_P (dC, dI) vwCl (w_X13_does cy a0 gth gvm gtd gfl grd gnv gac grc gim) H := hP
      have hD : va_D A (w_X13_does cy a0 gth gvm gtd gfl grd gnv gac grc gim) := hD
      refine lv_isub hx hb dX13_does_222 ?_
      refine lv_icmp_le (tgt := 228) hx hb dX13_does_223 (by decide) (fun c35 => ?_) (fun c35 => ?_)
      · rw [if_pos c35] at h
        refine lv_aload_n hx hb dX13_does_228 rfl (lv_at hl 5 rfl) ?_
        refine va_get (D := (dC, dI)) (ci := 11) (v := .ref (a0 3)) (C := RX13) (T := TX13) (N := 64) hx hb hts in_X13 hown hK hP 0 rfl rfl 6 (by decide) lk5 (fun _ h9 => h9) rfl dX13_does_229 ?_
        refine lv_iload_n hx hb dX13_does_232 rfl (lv_at hl 3 rfl) ?_
        refine lv_iload hx hb dX13_does_233 (lv_at hl 1 rfl) ?_
        obtain ⟨hi36, h⟩ := ok_if h
        refine va_iast hx hb hK hP hD hS 3 1 rfl rfl (ix_in hi36) dX13_does_235 (fun H locs hP hD hS => ?_)
        have hP : va_P (dC, dI) vwCl (w_X13_does cy a0 gth ((gvm.1, gvm.2.1, gvm.2.2.1, gvm.2.2.2.1, gvm.2.2.2.2.1, (upd gvm.2.2.2.2.2.1 (gac.2.1 (((5 : Int32) * x1) + (1 : Int32)).toNatClampNeg).toNatClampNeg (gac.2.1 (((5 : Int32) * x1) + (3 : Int32)).toNatClampNeg)), gvm.2.2.2.2.2.2)) gtd gfl grd gnv gac grc gim) H := hP
        have hD : va_D A (w_X13_does cy a0 gth ((gvm.1, gvm.2.1, gvm.2.2.1, gvm.2.2.2.1, gvm.2.2.2.2.1, (upd gvm.2.2.2.2.2.1 (gac.2.1 (((5 : Int32) * x1) + (1 : Int32)).toNatClampNeg).toNatClampNeg (gac.2.1 (((5 : Int32) * x1) + (3 : Int32)).toNatClampNeg)), gvm.2.2.2.2.2.2)) gtd gfl grd gnv gac grc gim) := hD
        refine lv_iconst (v := (1 : Int32)) hx hb dX13_does_236 (by decide) ?_
        exact W.zret (v := (1 : Int32)) (ty := .boolean) hx hb hr rfl (fun t ht hW => by rw [hqq]; have hh := Option.some.inj h; exact ⟨⟨(1 : Int32), ((gvm.1, gvm.2.1, gvm.2.2.1, gvm.2.2.2.1, gvm.2.2.2.2.1, (upd gvm.2.2.2.2.2.1 (gac.2.1 (((5 : Int32) * x1) + (1 : Int32)).toNatClampNeg).toNatClampNeg (gac.2.1 (((5 : Int32) * x1) + (3 : Int32)).toNatClampNeg)), gvm.2.2.2.2.2.2)), rfl, ⟨fst_of hh, snd_of hh⟩, by rw [ht]; exact hP, va_K.moved hW.alike hK⟩, hS.F ht⟩) hS.2.2 dX13_does_237
      · rw [if_neg c35] at h
        refine lv_iconst (v := (0 : Int32)) hx hb dX13_does_226 (by decide) ?_
        exact W.zret (v := (0 : Int32)) (ty := .boolean) hx hb hr rfl (fun t ht hW => by rw [hqq]; have hh := Option.some.inj h; exact ⟨⟨(0 : Int32), (gvm), rfl, ⟨fst_of hh, snd_of hh⟩, by rw [ht]; exact hP, va_K.moved hW.alike hK⟩, hS.F ht⟩) hS.2.2 dX13_does_227
  rw [if_neg c29] at h
  by_cases c37 : (gac.2.1 ((5 : Int32) * x1).toNatClampNeg) = (4 : Int32)
  · rw [if_pos c37] at h
    refine lv_tableIn (off := 193) (tgt := 238) hx hb dX13_does_45 (by rw [c37]; decide) (by rw [c37]; decide) (by rw [c37]; decide) (by decide) ?_
    refine lv_aload_n hx hb dX13_does_238 rfl (lv_at hl 5 rfl) ?_
    refine lv_aload_n hx hb dX13_does_239 rfl (lv_at hl 5 rfl) ?_
    obtain ⟨v38, hv39, h⟩ := ok_bind h
    refine cl_vi (w2 := fun (_ : Unit) => w_X13_does cy a0 gth gvm gtd gfl grd gnv gac grc gim) (As := []) (rest := [.ref (a0 0)]) ⟨hx, hb, hml, hown, hts⟩ (c_X13_all l dC dI cy a0 gth gvm gtd gfl grd gnv gac grc gim H.size v38 hv39) (cwV 0 hts gX13_does_X13_all rfl rfl rfl (by decide +kernel) ⟨Nat.le_of_ble_eq_true rfl, Nat.le_of_ble_eq_true rfl⟩) (va_recv hK hP (ci := 11) (q0 := 0) rfl rfl) cl_blind (cl_pre hK hP hD [0, 1, 2, 3, 4, 5, 6, 7, 8, 9] (by decide) rfl) hP hD hS hA [0, 1, 2, 3, 4, 5, 6, 7, 8, 9] rfl rfl hl.1 rfl (lv_room (Nat.le_of_ble_eq_true rfl)) dX13_does_240 ⟨Nat.le_of_ble_eq_true rfl, Nat.le_of_ble_eq_true rfl⟩ ⟨rfl, rfl⟩ (fun _ => updR [0, 1, 2, 3, 4, 5, 6, 7, 8, 9] rfl) (fun r u H locs hw hP hD hS => ?_)
    have hw := hw.symm
    subst hw
    have hP : va_P (dC, dI) vwCl (w_X13_does cy a0 gth gvm gtd gfl grd gnv gac grc gim) H := hP
    have hD : va_D A (w_X13_does cy a0 gth gvm gtd gfl grd gnv gac grc gim) := hD
    refine va_put (D := (dC, dI)) (ci := 11) (v := .int v38) (ty := .int) (C := RX13) (T := TX13) (N := 64) hx hb hts in_X13 tyX13 tyX13_ok nmX13 hown hK hP hD hS 0 rfl rfl 3 (by decide) lk4 (fun _ h9 => h9) rfl (by decide +kernel) rfl rfl (Nat.le_of_ble_eq_true rfl) dX13_does_243 (fun H locs hP hD hS => ?_)
    have hP : va_P (dC, dI) vwCl (w_X13_does cy a0 gth ((gvm.1, gvm.2.1, v38, gvm.2.2.2)) gtd gfl grd gnv gac grc gim) H := hP
    have hD : va_D A (w_X13_does cy a0 gth ((gvm.1, gvm.2.1, v38, gvm.2.2.2)) gtd gfl grd gnv gac grc gim) := hD
    refine lv_iconst (v := (0 : Int32)) hx hb dX13_does_246 (by decide) ?_
    refine lv_istore (lv' := [(7, .int (0 : Int32)), (6, .int v4), (5, .int (gac.2.1 (((5 : Int32) * x1) + (3 : Int32)).toNatClampNeg)), (4, .int (gac.2.1 (((5 : Int32) * x1) + (2 : Int32)).toNatClampNeg)), (3, .int (gac.2.1 (((5 : Int32) * x1) + (1 : Int32)).toNatClampNeg)), (2, .int ((5 : Int32) * x1)), (0, .ref (a0 0)), (1, .int x1)]) hx hb dX13_does_247 hl (by decide) rfl (fun ls hl => ?_)
    exact c249 fu (gvm.1, gvm.2.1, v38, gvm.2.2.2) (0 : Int32) H locs ls h hP hD hS (lv_sub hl [6, 0] rfl)
  rw [if_neg c37] at h
  by_cases c40 : (gac.2.1 ((5 : Int32) * x1).toNatClampNeg) = (5 : Int32)
  · rw [if_pos c40] at h
    refine lv_tableIn (off := 241) (tgt := 286) hx hb dX13_does_45 (by rw [c40]; decide) (by rw [c40]; decide) (by rw [c40]; decide) (by decide) ?_
    refine lv_aload_n hx hb dX13_does_286 rfl (lv_at hl 5 rfl) ?_
    refine va_get (D := (dC, dI)) (ci := 11) (v := .ref (a0 5)) (C := RX13) (T := TX13) (N := 64) hx hb hts in_X13 hown hK hP 0 rfl rfl 8 (by decide) lk10 (fun _ h9 => h9) rfl dX13_does_287 ?_
    refine lv_iload_n hx hb dX13_does_290 rfl (lv_at hl 3 rfl) ?_
    obtain ⟨hi41, h⟩ := ok_if h
    refine va_iald hx hb hK hP 5 1 rfl rfl (ix_in hi41) dX13_does_291 ?_
    refine lv_if_ne (tgt := 297) hx hb dX13_does_292 (by decide) (fun c42 => ?_) (fun c42 => ?_)
    · rw [if_neg c42] at h
      refine lv_aload_n hx hb dX13_does_297 rfl (lv_at hl 5 rfl) ?_
      refine va_get (D := (dC, dI)) (ci := 11) (v := .ref (a0 5)) (C := RX13) (T := TX13) (N := 64) hx hb hts in_X13 hown hK hP 0 rfl rfl 8 (by decide) lk10 (fun _ h9 => h9) rfl dX13_does_298 ?_
      refine lv_iload_n hx hb dX13_does_301 rfl (lv_at hl 3 rfl) ?_
      refine lv_iconst (v := (0 : Int32)) hx hb dX13_does_302 (by decide) ?_
      obtain ⟨hi43, h⟩ := ok_if h
      refine va_iast hx hb hK hP hD hS 5 1 rfl rfl (ix_in hi43) dX13_does_303 (fun H locs hP hD hS => ?_)
      have hP : va_P (dC, dI) vwCl (w_X13_does cy a0 gth ((gvm.1, gvm.2.1, gvm.2.2.1, gvm.2.2.2.1, gvm.2.2.2.2.1, gvm.2.2.2.2.2.1, gvm.2.2.2.2.2.2.1, (upd gvm.2.2.2.2.2.2.2.1 (gac.2.1 (((5 : Int32) * x1) + (1 : Int32)).toNatClampNeg).toNatClampNeg (0 : Int32)), gvm.2.2.2.2.2.2.2.2)) gtd gfl grd gnv gac grc gim) H := hP
      have hD : va_D A (w_X13_does cy a0 gth ((gvm.1, gvm.2.1, gvm.2.2.1, gvm.2.2.2.1, gvm.2.2.2.2.1, gvm.2.2.2.2.2.1, gvm.2.2.2.2.2.2.1, (upd gvm.2.2.2.2.2.2.2.1 (gac.2.1 (((5 : Int32) * x1) + (1 : Int32)).toNatClampNeg).toNatClampNeg (0 : Int32)), gvm.2.2.2.2.2.2.2.2)) gtd gfl grd gnv gac grc gim) := hD
      refine lv_iconst (v := (1 : Int32)) hx hb dX13_does_304 (by decide) ?_
      exact W.zret (v := (1 : Int32)) (ty := .boolean) hx hb hr rfl (fun t ht hW => by rw [hqq]; have hh := Option.some.inj h; exact ⟨⟨(1 : Int32), ((gvm.1, gvm.2.1, gvm.2.2.1, gvm.2.2.2.1, gvm.2.2.2.2.1, gvm.2.2.2.2.2.1, gvm.2.2.2.2.2.2.1, (upd gvm.2.2.2.2.2.2.2.1 (gac.2.1 (((5 : Int32) * x1) + (1 : Int32)).toNatClampNeg).toNatClampNeg (0 : Int32)), gvm.2.2.2.2.2.2.2.2)), rfl, ⟨fst_of hh, snd_of hh⟩, by rw [ht]; exact hP, va_K.moved hW.alike hK⟩, hS.F ht⟩) hS.2.2 dX13_does_305
    · rw [if_pos c42] at h
      refine lv_iconst (v := (0 : Int32)) hx hb dX13_does_295 (by decide) ?_
      exact W.zret (v := (0 : Int32)) (ty := .boolean) hx hb hr rfl (fun t ht hW => by rw [hqq]; have hh := Option.some.inj h; exact ⟨⟨(0 : Int32), (gvm), rfl, ⟨fst_of hh, snd_of hh⟩, by rw [ht]; exact hP, va_K.moved hW.alike hK⟩, hS.F ht⟩) hS.2.2 dX13_does_296
  rw [if_neg c40] at h
  by_cases c44 : (gac.2.1 ((5 : Int32) * x1).toNatClampNeg) = (6 : Int32)
  · rw [if_pos c44] at h
    refine lv_tableIn (off := 261) (tgt := 306) hx hb dX13_does_45 (by rw [c44]; decide) (by rw [c44]; decide) (by rw [c44]; decide) (by decide) ?_
    refine lv_iload hx hb dX13_does_306 (lv_at hl 0 rfl) ?_
    refine lv_iconst (v := (-1 : Int32)) hx hb dX13_does_308 (by decide) ?_
    refine lv_icmp_ne (tgt := 314) hx hb dX13_does_309 (by decide) (fun c45 => ?_) (fun c45 => ?_)
    · rw [if_neg c45] at h
      refine lv_aload_n hx hb dX13_does_314 rfl (lv_at hl 5 rfl) ?_
      refine va_get (D := (dC, dI)) (ci := 11) (v := .ref (a0 5)) (C := RX13) (T := TX13) (N := 64) hx hb hts in_X13 hown hK hP 0 rfl rfl 8 (by decide) lk10 (fun _ h9 => h9) rfl dX13_does_315 ?_
      refine lv_iload hx hb dX13_does_318 (lv_at hl 0 rfl) ?_
      refine lv_iconst (v := (1 : Int32)) hx hb dX13_does_320 (by decide) ?_
      obtain ⟨hi46, h⟩ := ok_if h
      refine va_iast hx hb hK hP hD hS 5 1 rfl rfl (ix_in hi46) dX13_does_321 (fun H locs hP hD hS => ?_)
      have hP : va_P (dC, dI) vwCl (w_X13_does cy a0 gth ((gvm.1, gvm.2.1, gvm.2.2.1, gvm.2.2.2.1, gvm.2.2.2.2.1, gvm.2.2.2.2.2.1, gvm.2.2.2.2.2.2.1, (upd gvm.2.2.2.2.2.2.2.1 v4.toNatClampNeg (1 : Int32)), gvm.2.2.2.2.2.2.2.2)) gtd gfl grd gnv gac grc gim) H := hP
      have hD : va_D A (w_X13_does cy a0 gth ((gvm.1, gvm.2.1, gvm.2.2.1, gvm.2.2.2.1, gvm.2.2.2.2.1, gvm.2.2.2.2.2.1, gvm.2.2.2.2.2.2.1, (upd gvm.2.2.2.2.2.2.2.1 v4.toNatClampNeg (1 : Int32)), gvm.2.2.2.2.2.2.2.2)) gtd gfl grd gnv gac grc gim) := hD
      refine lv_aload_n hx hb dX13_does_322 rfl (lv_at hl 5 rfl) ?_
      refine va_get (D := (dC, dI)) (ci := 11) (v := .ref (a0 6)) (C := RX13) (T := TX13) (N := 64) hx hb hts in_X13 hown hK hP 0 rfl rfl 9 (by decide) lk11 (fun _ h9 => h9) rfl dX13_does_323 ?_
      refine lv_iload hx hb dX13_does_326 (lv_at hl 0 rfl) ?_
      refine lv_iload_n hx hb dX13_does_328 rfl (lv_at hl 3 rfl) ?_
      obtain ⟨hi47, h⟩ := ok_if h
      refine va_iast hx hb hK hP hD hS 6 1 rfl rfl (ix_in hi47) dX13_does_329 (fun H locs hP hD hS => ?_)
      have hP : va_P (dC, dI) vwCl (w_X13_does cy a0 gth ((gvm.1, gvm.2.1, gvm.2.2.1, gvm.2.2.2.1, gvm.2.2.2.2.1, gvm.2.2.2.2.2.1, gvm.2.2.2.2.2.2.1, (upd gvm.2.2.2.2.2.2.2.1 v4.toNatClampNeg (1 : Int32)), (upd gvm.2.2.2.2.2.2.2.2.1 v4.toNatClampNeg (gac.2.1 (((5 : Int32) * x1) + (1 : Int32)).toNatClampNeg)), gvm.2.2.2.2.2.2.2.2.2)) gtd gfl grd gnv gac grc gim) H := hP
      have hD : va_D A (w_X13_does cy a0 gth ((gvm.1, gvm.2.1, gvm.2.2.1, gvm.2.2.2.1, gvm.2.2.2.2.1, gvm.2.2.2.2.2.1, gvm.2.2.2.2.2.2.1, (upd gvm.2.2.2.2.2.2.2.1 v4.toNatClampNeg (1 : Int32)), (upd gvm.2.2.2.2.2.2.2.2.1 v4.toNatClampNeg (gac.2.1 (((5 : Int32) * x1) + (1 : Int32)).toNatClampNeg)), gvm.2.2.2.2.2.2.2.2.2)) gtd gfl grd gnv gac grc gim) := hD
      refine lv_aload_n hx hb dX13_does_330 rfl (lv_at hl 5 rfl) ?_
      refine va_get (D := (dC, dI)) (ci := 11) (v := .ref (a0 7)) (C := RX13) (T := TX13) (N := 64) hx hb hts in_X13 hown hK hP 0 rfl rfl 10 (by decide) lk12 (fun _ h9 => h9) rfl dX13_does_331 ?_
      refine lv_iload hx hb dX13_does_334 (lv_at hl 0 rfl) ?_
      refine lv_iload hx hb dX13_does_336 (lv_at hl 2 rfl) ?_
      obtain ⟨hi48, h⟩ := ok_if h
      refine va_iast hx hb hK hP hD hS 7 1 rfl rfl (ix_in hi48) dX13_does_338 (fun H locs hP hD hS => ?_)
      have hP : va_P (dC, dI) vwCl (w_X13_does cy a0 gth ((gvm.1, gvm.2.1, gvm.2.2.1, gvm.2.2.2.1, gvm.2.2.2.2.1, gvm.2.2.2.2.2.1, gvm.2.2.2.2.2.2.1, (upd gvm.2.2.2.2.2.2.2.1 v4.toNatClampNeg (1 : Int32)), (upd gvm.2.2.2.2.2.2.2.2.1 v4.toNatClampNeg (gac.2.1 (((5 : Int32) * x1) + (1 : Int32)).toNatClampNeg)), (upd gvm.2.2.2.2.2.2.2.2.2.1 v4.toNatClampNeg (gac.2.1 (((5 : Int32) * x1) + (2 : Int32)).toNatClampNeg)), gvm.2.2.2.2.2.2.2.2.2.2)) gtd gfl grd gnv gac grc gim) H := hP
      have hD : va_D A (w_X13_does cy a0 gth ((gvm.1, gvm.2.1, gvm.2.2.1, gvm.2.2.2.1, gvm.2.2.2.2.1, gvm.2.2.2.2.2.1, gvm.2.2.2.2.2.2.1, (upd gvm.2.2.2.2.2.2.2.1 v4.toNatClampNeg (1 : Int32)), (upd gvm.2.2.2.2.2.2.2.2.1 v4.toNatClampNeg (gac.2.1 (((5 : Int32) * x1) + (1 : Int32)).toNatClampNeg)), (upd gvm.2.2.2.2.2.2.2.2.2.1 v4.toNatClampNeg (gac.2.1 (((5 : Int32) * x1) + (2 : Int32)).toNatClampNeg)), gvm.2.2.2.2.2.2.2.2.2.2)) gtd gfl grd gnv gac grc gim) := hD
      refine lv_aload_n hx hb dX13_does_339 rfl (lv_at hl 5 rfl) ?_
      refine va_get (D := (dC, dI)) (ci := 11) (v := .ref (a0 8)) (C := RX13) (T := TX13) (N := 64) hx hb hts in_X13 hown hK hP 0 rfl rfl 11 (by decide) lk0 (fun _ h9 => h9) rfl dX13_does_340 ?_
      refine lv_iload hx hb dX13_does_343 (lv_at hl 0 rfl) ?_
      refine lv_aload_n hx hb dX13_does_345 rfl (lv_at hl 5 rfl) ?_
      refine va_get (D := (dC, dI)) (ci := 11) (v := .ref (a0 19)) (C := RX13) (T := TX13) (N := 64) hx hb hts in_X13 hown hK hP 0 rfl rfl 38 (by decide) lk6 (fun _ h9 => h9) rfl dX13_does_346 ?_
      refine lv_iload_n hx hb dX13_does_349 rfl (lv_at hl 4 rfl) ?_
      refine lv_iconst (v := (4 : Int32)) hx hb dX13_does_350 (by decide) ?_
      refine lv_iadd hx hb dX13_does_351 ?_
      obtain ⟨hi49, h⟩ := ok_if h
      refine va_iald hx hb hK hP 10 1 rfl rfl (ix_in hi49) dX13_does_352 ?_
      obtain ⟨hi50, h⟩ := ok_if h
      refine va_iast hx hb hK hP hD hS 8 1 rfl rfl (ix_in hi50) dX13_does_353 (fun H locs hP hD hS => ?_)
      have hP : va_P (dC, dI) vwCl (w_X13_does cy a0 gth ((gvm.1, gvm.2.1, gvm.2.2.1, gvm.2.2.2.1, gvm.2.2.2.2.1, gvm.2.2.2.2.2.1, gvm.2.2.2.2.2.2.1, (upd gvm.2.2.2.2.2.2.2.1 v4.toNatClampNeg (1 : Int32)), (upd gvm.2.2.2.2.2.2.2.2.1 v4.toNatClampNeg (gac.2.1 (((5 : Int32) * x1) + (1 : Int32)).toNatClampNeg)), (upd gvm.2.2.2.2.2.2.2.2.2.1 v4.toNatClampNeg (gac.2.1 (((5 : Int32) * x1) + (2 : Int32)).toNatClampNeg)), (upd gvm.2.2.2.2.2.2.2.2.2.2.1 v4.toNatClampNeg (gac.2.1 (((5 : Int32) * x1) + (4 : Int32)).toNatClampNeg)), gvm.2.2.2.2.2.2.2.2.2.2.2)) gtd gfl grd gnv gac grc gim) H := hP
      have hD : va_D A (w_X13_does cy a0 gth ((gvm.1, gvm.2.1, gvm.2.2.1, gvm.2.2.2.1, gvm.2.2.2.2.1, gvm.2.2.2.2.2.1, gvm.2.2.2.2.2.2.1, (upd gvm.2.2.2.2.2.2.2.1 v4.toNatClampNeg (1 : Int32)), (upd gvm.2.2.2.2.2.2.2.2.1 v4.toNatClampNeg (gac.2.1 (((5 : Int32) * x1) + (1 : Int32)).toNatClampNeg)), (upd gvm.2.2.2.2.2.2.2.2.2.1 v4.toNatClampNeg (gac.2.1 (((5 : Int32) * x1) + (2 : Int32)).toNatClampNeg)), (upd gvm.2.2.2.2.2.2.2.2.2.2.1 v4.toNatClampNeg (gac.2.1 (((5 : Int32) * x1) + (4 : Int32)).toNatClampNeg)), gvm.2.2.2.2.2.2.2.2.2.2.2)) gtd gfl grd gnv gac grc gim) := hD
      refine lv_iconst (v := (0 : Int32)) hx hb dX13_does_354 (by decide) ?_
      refine lv_istore (lv' := [(7, .int (0 : Int32)), (6, .int v4), (5, .int (gac.2.1 (((5 : Int32) * x1) + (3 : Int32)).toNatClampNeg)), (4, .int (gac.2.1 (((5 : Int32) * x1) + (2 : Int32)).toNatClampNeg)), (3, .int (gac.2.1 (((5 : Int32) * x1) + (1 : Int32)).toNatClampNeg)), (2, .int ((5 : Int32) * x1)), (0, .ref (a0 0)), (1, .int x1)]) hx hb dX13_does_355 hl (by decide) rfl (fun ls hl => ?_)
      exact c357 fu (gvm.1, gvm.2.1, gvm.2.2.1, gvm.2.2.2.1, gvm.2.2.2.2.1, gvm.2.2.2.2.2.1, gvm.2.2.2.2.2.2.1, (upd gvm.2.2.2.2.2.2.2.1 v4.toNatClampNeg (1 : Int32)), (upd gvm.2.2.2.2.2.2.2.2.1 v4.toNatClampNeg (gac.2.1 (((5 : Int32) * x1) + (1 : Int32)).toNatClampNeg)), (upd gvm.2.2.2.2.2.2.2.2.2.1 v4.toNatClampNeg (gac.2.1 (((5 : Int32) * x1) + (2 : Int32)).toNatClampNeg)), (upd gvm.2.2.2.2.2.2.2.2.2.2.1 v4.toNatClampNeg (gac.2.1 (((5 : Int32) * x1) + (4 : Int32)).toNatClampNeg)), gvm.2.2.2.2.2.2.2.2.2.2.2) x1 v4 (0 : Int32) H locs ls h hP hD hS (lv_sub hl [6, 7, 1, 0] rfl)
    · rw [if_pos c45] at h
      refine lv_iconst (v := (0 : Int32)) hx hb dX13_does_312 (by decide) ?_
      exact W.zret (v := (0 : Int32)) (ty := .boolean) hx hb hr rfl (fun t ht hW => by rw [hqq]; have hh := Option.some.inj h; exact ⟨⟨(0 : Int32), (gvm), rfl, ⟨fst_of hh, snd_of hh⟩, by rw [ht]; exact hP, va_K.moved hW.alike hK⟩, hS.F ht⟩) hS.2.2 dX13_does_313
  rw [if_neg c44] at h
  refine lv_tableOut (tgt := 400) hx hb dX13_does_45 (tab_out (fun k h1 h2 e => by rcases (show k = 0 ∨ k = 1 ∨ k = 2 ∨ k = 3 ∨ k = 4 ∨ k = 5 ∨ k = 6 by omega) with rfl | rfl | rfl | rfl | rfl | rfl | rfl <;> first | exact c7 (Int32.toInt_inj.mp (e.trans (by decide))) | exact c13 (Int32.toInt_inj.mp (e.trans (by decide))) | exact c21 (Int32.toInt_inj.mp (e.trans (by decide))) | exact c29 (Int32.toInt_inj.mp (e.trans (by decide))) | exact c37 (Int32.toInt_inj.mp (e.trans (by decide))) | exact c40 (Int32.toInt_inj.mp (e.trans (by decide))) | exact c44 (Int32.toInt_inj.mp (e.trans (by decide))))) (by decide) ?_
  refine lv_aload_n hx hb dX13_does_400 rfl (lv_at hl 5 rfl) ?_
  refine lv_iload_n hx hb dX13_does_401 rfl (lv_at hl 3 rfl) ?_
  refine lv_iload hx hb dX13_does_402 (lv_at hl 2 rfl) ?_
  obtain ⟨v51, hv52, h⟩ := ok_bind h
  refine cl_vi (w2 := fun (_ : Unit) => w_X13_does cy a0 gth gvm gtd gfl grd gnv gac grc gim) (As := [.int (gac.2.1 (((5 : Int32) * x1) + (1 : Int32)).toNatClampNeg), .int (gac.2.1 (((5 : Int32) * x1) + (2 : Int32)).toNatClampNeg)]) (rest := []) ⟨hx, hb, hml, hown, hts⟩ (c_X13_isSwap l dC dI cy a0 gth gvm gtd gfl grd gnv gac grc gim (gac.2.1 (((5 : Int32) * x1) + (1 : Int32)).toNatClampNeg) (gac.2.1 (((5 : Int32) * x1) + (2 : Int32)).toNatClampNeg) H.size v51 hv52) (cwV 2 hts gX13_does_X13_isSwap rfl rfl rfl (by decide +kernel) ⟨Nat.le_of_ble_eq_true rfl, Nat.le_of_ble_eq_true rfl⟩) (va_recv hK hP (ci := 11) (q0 := 0) rfl rfl) cl_blind (cl_pre hK hP hD [0, 1, 2, 3, 4, 5, 6, 7, 8, 9] (by decide) rfl) hP hD hS hA [0, 1, 2, 3, 4, 5, 6, 7, 8, 9] rfl rfl hl.1 rfl (lv_room (Nat.le_of_ble_eq_true rfl)) dX13_does_404 ⟨Nat.le_of_ble_eq_true rfl, Nat.le_of_ble_eq_true rfl⟩ ⟨rfl, rfl⟩ (fun _ => updR [0, 1, 2, 3, 4, 5, 6, 7, 8, 9] rfl) (fun r u H locs hw hP hD hS => ?_)
  have hw := hw.symm
  subst hw
  have hP : va_P (dC, dI) vwCl (w_X13_does cy a0 gth gvm gtd gfl grd gnv gac grc gim) H := hP
  have hD : va_D A (w_X13_does cy a0 gth gvm gtd gfl grd gnv gac grc gim) := hD
  refine lv_if_ne (tgt := 412) hx hb dX13_does_407 (by decide) (fun c53 => ?_) (fun c53 => ?_)
  · rw [if_neg c53] at h
    refine lv_aload_n hx hb dX13_does_412 rfl (lv_at hl 5 rfl) ?_
    refine va_get (D := (dC, dI)) (ci := 11) (v := .ref (a0 7)) (C := RX13) (T := TX13) (N := 64) hx hb hts in_X13 hown hK hP 0 rfl rfl 10 (by decide) lk12 (fun _ h9 => h9) rfl dX13_does_413 ?_
    refine lv_iload_n hx hb dX13_does_416 rfl (lv_at hl 3 rfl) ?_
    obtain ⟨hi54, h⟩ := ok_if h
    refine va_iald hx hb hK hP 7 1 rfl rfl (ix_in hi54) dX13_does_417 ?_
    refine lv_istore (lv' := [(7, .int (gvm.2.2.2.2.2.2.2.2.2.1 (gac.2.1 (((5 : Int32) * x1) + (1 : Int32)).toNatClampNeg).toNatClampNeg)), (6, .int v4), (5, .int (gac.2.1 (((5 : Int32) * x1) + (3 : Int32)).toNatClampNeg)), (4, .int (gac.2.1 (((5 : Int32) * x1) + (2 : Int32)).toNatClampNeg)), (3, .int (gac.2.1 (((5 : Int32) * x1) + (1 : Int32)).toNatClampNeg)), (2, .int ((5 : Int32) * x1)), (0, .ref (a0 0)), (1, .int x1)]) hx hb dX13_does_418 hl (by decide) rfl (fun ls hl => ?_)
    refine lv_aload_n hx hb dX13_does_420 rfl (lv_at hl 6 rfl) ?_
    refine va_get (D := (dC, dI)) (ci := 11) (v := .ref (a0 7)) (C := RX13) (T := TX13) (N := 64) hx hb hts in_X13 hown hK hP 0 rfl rfl 10 (by decide) lk12 (fun _ h9 => h9) rfl dX13_does_421 ?_
    refine lv_iload_n hx hb dX13_does_424 rfl (lv_at hl 4 rfl) ?_
    refine lv_aload_n hx hb dX13_does_425 rfl (lv_at hl 6 rfl) ?_
    refine va_get (D := (dC, dI)) (ci := 11) (v := .ref (a0 7)) (C := RX13) (T := TX13) (N := 64) hx hb hts in_X13 hown hK hP 0 rfl rfl 10 (by decide) lk12 (fun _ h9 => h9) rfl dX13_does_426 ?_
    refine lv_iload hx hb dX13_does_429 (lv_at hl 3 rfl) ?_
    obtain ⟨hi55, h⟩ := ok_if h
    refine va_iald hx hb hK hP 7 1 rfl rfl (ix_in hi55) dX13_does_431 ?_
    obtain ⟨hi56, h⟩ := ok_if h
    refine va_iast hx hb hK hP hD hS 7 1 rfl rfl (ix_in hi56) dX13_does_432 (fun H locs hP hD hS => ?_)
    have hP : va_P (dC, dI) vwCl (w_X13_does cy a0 gth ((gvm.1, gvm.2.1, gvm.2.2.1, gvm.2.2.2.1, gvm.2.2.2.2.1, gvm.2.2.2.2.2.1, gvm.2.2.2.2.2.2.1, gvm.2.2.2.2.2.2.2.1, gvm.2.2.2.2.2.2.2.2.1, (upd gvm.2.2.2.2.2.2.2.2.2.1 (gac.2.1 (((5 : Int32) * x1) + (1 : Int32)).toNatClampNeg).toNatClampNeg (gvm.2.2.2.2.2.2.2.2.2.1 (gac.2.1 (((5 : Int32) * x1) + (2 : Int32)).toNatClampNeg).toNatClampNeg)), gvm.2.2.2.2.2.2.2.2.2.2)) gtd gfl grd gnv gac grc gim) H := hP
    have hD : va_D A (w_X13_does cy a0 gth ((gvm.1, gvm.2.1, gvm.2.2.1, gvm.2.2.2.1, gvm.2.2.2.2.1, gvm.2.2.2.2.2.1, gvm.2.2.2.2.2.2.1, gvm.2.2.2.2.2.2.2.1, gvm.2.2.2.2.2.2.2.2.1, (upd gvm.2.2.2.2.2.2.2.2.2.1 (gac.2.1 (((5 : Int32) * x1) + (1 : Int32)).toNatClampNeg).toNatClampNeg (gvm.2.2.2.2.2.2.2.2.2.1 (gac.2.1 (((5 : Int32) * x1) + (2 : Int32)).toNatClampNeg).toNatClampNeg)), gvm.2.2.2.2.2.2.2.2.2.2)) gtd gfl grd gnv gac grc gim) := hD
    refine lv_aload_n hx hb dX13_does_433 rfl (lv_at hl 6 rfl) ?_
    refine va_get (D := (dC, dI)) (ci := 11) (v := .ref (a0 7)) (C := RX13) (T := TX13) (N := 64) hx hb hts in_X13 hown hK hP 0 rfl rfl 10 (by decide) lk12 (fun _ h9 => h9) rfl dX13_does_434 ?_
    refine lv_iload hx hb dX13_does_437 (lv_at hl 3 rfl) ?_
    refine lv_iload hx hb dX13_does_439 (lv_at hl 0 rfl) ?_
    obtain ⟨hi57, h⟩ := ok_if h
    refine va_iast hx hb hK hP hD hS 7 1 rfl rfl (ix_in hi57) dX13_does_441 (fun H locs hP hD hS => ?_)
    have hP : va_P (dC, dI) vwCl (w_X13_does cy a0 gth ((gvm.1, gvm.2.1, gvm.2.2.1, gvm.2.2.2.1, gvm.2.2.2.2.1, gvm.2.2.2.2.2.1, gvm.2.2.2.2.2.2.1, gvm.2.2.2.2.2.2.2.1, gvm.2.2.2.2.2.2.2.2.1, (upd (upd gvm.2.2.2.2.2.2.2.2.2.1 (gac.2.1 (((5 : Int32) * x1) + (1 : Int32)).toNatClampNeg).toNatClampNeg (gvm.2.2.2.2.2.2.2.2.2.1 (gac.2.1 (((5 : Int32) * x1) + (2 : Int32)).toNatClampNeg).toNatClampNeg)) (gac.2.1 (((5 : Int32) * x1) + (2 : Int32)).toNatClampNeg).toNatClampNeg (gvm.2.2.2.2.2.2.2.2.2.1 (gac.2.1 (((5 : Int32) * x1) + (1 : Int32)).toNatClampNeg).toNatClampNeg)), gvm.2.2.2.2.2.2.2.2.2.2)) gtd gfl grd gnv gac grc gim) H := hP
    have hD : va_D A (w_X13_does cy a0 gth ((gvm.1, gvm.2.1, gvm.2.2.1, gvm.2.2.2.1, gvm.2.2.2.2.1, gvm.2.2.2.2.2.1, gvm.2.2.2.2.2.2.1, gvm.2.2.2.2.2.2.2.1, gvm.2.2.2.2.2.2.2.2.1, (upd (upd gvm.2.2.2.2.2.2.2.2.2.1 (gac.2.1 (((5 : Int32) * x1) + (1 : Int32)).toNatClampNeg).toNatClampNeg (gvm.2.2.2.2.2.2.2.2.2.1 (gac.2.1 (((5 : Int32) * x1) + (2 : Int32)).toNatClampNeg).toNatClampNeg)) (gac.2.1 (((5 : Int32) * x1) + (2 : Int32)).toNatClampNeg).toNatClampNeg (gvm.2.2.2.2.2.2.2.2.2.1 (gac.2.1 (((5 : Int32) * x1) + (1 : Int32)).toNatClampNeg).toNatClampNeg)), gvm.2.2.2.2.2.2.2.2.2.2)) gtd gfl grd gnv gac grc gim) := hD
    refine lv_iconst (v := (1 : Int32)) hx hb dX13_does_442 (by decide) ?_
    exact W.zret (v := (1 : Int32)) (ty := .boolean) hx hb hr rfl (fun t ht hW => by rw [hqq]; have hh := Option.some.inj h; exact ⟨⟨(1 : Int32), ((gvm.1, gvm.2.1, gvm.2.2.1, gvm.2.2.2.1, gvm.2.2.2.2.1, gvm.2.2.2.2.2.1, gvm.2.2.2.2.2.2.1, gvm.2.2.2.2.2.2.2.1, gvm.2.2.2.2.2.2.2.2.1, (upd (upd gvm.2.2.2.2.2.2.2.2.2.1 (gac.2.1 (((5 : Int32) * x1) + (1 : Int32)).toNatClampNeg).toNatClampNeg (gvm.2.2.2.2.2.2.2.2.2.1 (gac.2.1 (((5 : Int32) * x1) + (2 : Int32)).toNatClampNeg).toNatClampNeg)) (gac.2.1 (((5 : Int32) * x1) + (2 : Int32)).toNatClampNeg).toNatClampNeg (gvm.2.2.2.2.2.2.2.2.2.1 (gac.2.1 (((5 : Int32) * x1) + (1 : Int32)).toNatClampNeg).toNatClampNeg)), gvm.2.2.2.2.2.2.2.2.2.2)), rfl, ⟨fst_of hh, snd_of hh⟩, by rw [ht]; exact hP, va_K.moved hW.alike hK⟩, hS.F ht⟩) hS.2.2 dX13_does_443
  · rw [if_pos c53] at h
    refine lv_iconst (v := (0 : Int32)) hx hb dX13_does_410 (by decide) ?_
    exact W.zret (v := (0 : Int32)) (ty := .boolean) hx hb hr rfl (fun t ht hW => by rw [hqq]; have hh := Option.some.inj h; exact ⟨⟨(0 : Int32), (gvm), rfl, ⟨fst_of hh, snd_of hh⟩, by rw [ht]; exact hP, va_K.moved hW.alike hK⟩, hS.F ht⟩) hS.2.2 dX13_does_411

abbrev w_X13_days (cy : Nat → ClassId) (a0 : Nat → Nat) (gth : Int32) (gvm : Int32 × Int32 × Int32 × (Nat → Int32) × (Nat → Int32) × (Nat → Int32) × (Nat → Int32) × (Nat → Int32) × (Nat → Int32) × (Nat → Int32) × (Nat → Int32) × (Nat → Int32)) (gtt : (Nat → Int32)) (gtd : Int32) (gfl : Int32 × Int32) (grf : (Nat → Int32)) (grd : Int32 × Int32 × Int32 × Int32 × Int32 × Int32 × Int64 × (Nat → Int32)) (gnv : Int32 × Int32 × Int32 × Int32 × Int32 × (Nat → Int32) × (Nat → Int32) × (Nat → Int32) × (Nat → Int32) × (Nat → Int32) × (Nat → Int32)) (gac : Int32 × (Nat → Int32) × (Nat → Int32)) (grc : Int32 × (Nat → Int32)) (gim : Int32 × Int32 × Int32 × (Nat → Int32) × (Nat → Int32) × (Nat → Int32) × (Nat → Int32) × (Nat → Int32) × (Nat → Int32) × (Nat → Int32) × (Nat → Int32) × (Nat → Int32)) : va_W := [(a0 0, .inr (11, [.int (gth), .int (gvm.1), .int (gvm.2.1), .int (gvm.2.2.1), .ref (a0 1), .ref (a0 2), .ref (a0 3), .ref (a0 4), .ref (a0 5), .ref (a0 6), .ref (a0 7), .ref (a0 8), .ref (a0 9), .ref (a0 10), .int (gtd), .int (gfl.1), .int (gfl.2), .ref (a0 11), .int (grd.1), .int (grd.2.1), .int (grd.2.2.1), .int (grd.2.2.2.1), .int (grd.2.2.2.2.1), .int (grd.2.2.2.2.2.1), .long (grd.2.2.2.2.2.2.1), .ref (a0 12), .int (gnv.1), .int (gnv.2.1), .int (gnv.2.2.1), .int (gnv.2.2.2.1), .int (gnv.2.2.2.2.1), .ref (a0 13), .ref (a0 14), .ref (a0 15), .ref (a0 16), .ref (a0 17), .ref (a0 18), .int (gac.1), .ref (a0 19), .ref (a0 20), .ref (a0 21), .ref (a0 22), .ref (a0 23), .ref (a0 24), .ref (a0 25), .ref (a0 26), .ref (a0 27), .int (grc.1), .ref (a0 28), .ref (a0 29), .ref (a0 30), .ref (a0 31), .int (gim.1), .int (gim.2.1), .int (gim.2.2.1), .ref (a0 32), .ref (a0 33), .ref (a0 34), .ref (a0 35), .ref (a0 36), .ref (a0 37), .ref (a0 38), .ref (a0 39), .ref (a0 40)])), (a0 1, .inl (cy 1, 5, .inl (gvm.2.2.2.1))), (a0 2, .inl (cy 1, 5, .inl (gvm.2.2.2.2.1))), (a0 3, .inl (cy 1, 5, .inl (gvm.2.2.2.2.2.1))), (a0 4, .inl (cy 1, 25, .inl (gvm.2.2.2.2.2.2.1))), (a0 5, .inl (cy 1, 10, .inl (gvm.2.2.2.2.2.2.2.1))), (a0 6, .inl (cy 1, 10, .inl (gvm.2.2.2.2.2.2.2.2.1))), (a0 7, .inl (cy 1, 10, .inl (gvm.2.2.2.2.2.2.2.2.2.1))), (a0 8, .inl (cy 1, 10, .inl (gvm.2.2.2.2.2.2.2.2.2.2.1))), (a0 9, .inl (cy 1, 50, .inl (gvm.2.2.2.2.2.2.2.2.2.2.2))), (a0 10, .inl (cy 1, 600, .inl (gtt))), (a0 11, .inl (cy 1, 3, .inl (grf))), (a0 12, .inl (cy 1, 5, .inl (grd.2.2.2.2.2.2.2))), (a0 19, .inl (cy 1, 600, .inl (gac.2.1))), (a0 20, .inl (cy 1, 600, .inl (gac.2.2)))]
abbrev rm_X13_days : Room := { frames := 4, cells := 0, slots := 0, locals := 92 }
set_option maxHeartbeats 1000000 in
set_option maxRecDepth 100000 in
theorem c_X13_days (l : Launch) (dC : Nat → ClassId) (dI : Nat → Nat → Nat) (cy : Nat → ClassId) (a0 : Nat → Nat) (gth : Int32) (gvm : Int32 × Int32 × Int32 × (Nat → Int32) × (Nat → Int32) × (Nat → Int32) × (Nat → Int32) × (Nat → Int32) × (Nat → Int32) × (Nat → Int32) × (Nat → Int32) × (Nat → Int32)) (gtt : (Nat → Int32)) (gtd : Int32) (gfl : Int32 × Int32) (grf : (Nat → Int32)) (grd : Int32 × Int32 × Int32 × Int32 × Int32 × Int32 × Int64 × (Nat → Int32)) (gnv : Int32 × Int32 × Int32 × Int32 × Int32 × (Nat → Int32) × (Nat → Int32) × (Nat → Int32) × (Nat → Int32) × (Nat → Int32) × (Nat → Int32)) (gac : Int32 × (Nat → Int32) × (Nat → Int32)) (grc : Int32 × (Nat → Int32)) (gim : Int32 × Int32 × Int32 × (Nat → Int32) × (Nat → Int32) × (Nat → Int32) × (Nat → Int32) × (Nat → Int32) × (Nat → Int32) × (Nat → Int32) × (Nat → Int32) × (Nat → Int32)) (x1 : Int32) (sz : Nat) (R0 : Int32 × (Int32) × (Int32 × Int32 × Int32 × (Nat → Int32) × (Nat → Int32) × (Nat → Int32) × (Nat → Int32) × (Nat → Int32) × (Nat → Int32) × (Nat → Int32) × (Nat → Int32) × (Nat → Int32)) × (Int32) × (Int32 × Int32) × ((Nat → Int32)) × (Int32 × Int32 × Int32 × Int32 × Int32 × Int32 × Int64 × (Nat → Int32)) × (Int32 × (Nat → Int32) × (Nat → Int32))) (h : p_X13_days gth gvm gtt gtd gfl grf grd gac x1 = some R0) : Met l yX13_days wsX13_days rm_X13_days (va_Pc [.ref (a0 0), .int x1] (prC dC dI cy (w_X13_days cy a0 gth gvm gtt gtd gfl grf grd gnv gac grc gim) sz)) (va_Qi (fun (r : Int32) (u : (Int32) × (Int32 × Int32 × Int32 × (Nat → Int32) × (Nat → Int32) × (Nat → Int32) × (Nat → Int32) × (Nat → Int32) × (Nat → Int32) × (Nat → Int32) × (Nat → Int32) × (Nat → Int32)) × (Int32) × (Int32 × Int32) × ((Nat → Int32)) × (Int32 × Int32 × Int32 × Int32 × Int32 × Int32 × Int64 × (Nat → Int32)) × (Int32 × (Nat → Int32) × (Nat → Int32))) => r = R0.1 ∧ u = R0.2) (fun (u : (Int32) × (Int32 × Int32 × Int32 × (Nat → Int32) × (Nat → Int32) × (Nat → Int32) × (Nat → Int32) × (Nat → Int32) × (Nat → Int32) × (Nat → Int32) × (Nat → Int32) × (Nat → Int32)) × (Int32) × (Int32 × Int32) × ((Nat → Int32)) × (Int32 × Int32 × Int32 × Int32 × Int32 × Int32 × Int64 × (Nat → Int32)) × (Int32 × (Nat → Int32) × (Nat → Int32))) t => poC dC dI cy (w_X13_days cy a0 u.1 u.2.1 gtt u.2.2.1 u.2.2.2.1 u.2.2.2.2.1 u.2.2.2.2.2.1 gnv u.2.2.2.2.2.2 grc gim) t) (va_A (w_X13_days cy a0 gth gvm gtt gtd gfl grf grd gnv gac grc gim) sz)) 0 0 (va_A (w_X13_days cy a0 gth gvm gtt gtd gfl grf grd gnv gac grc gim) sz) := by
  refine Met.ofW (cc := cX13_days) (maxL := 3) (ret := (some .int)) (by decide) rfl ?_
  intro p e s m aa below meth c s₁ B hml hv
  obtain ⟨haa, hsz, hP, hK, hD0⟩ := hv
  have hx := B.exec
  have hb := B.bytes
  have hr := B.returns
  have hts := atoms_spec (ws := wsX13_days) B.pre
  have hown : s.vm.findClass RX13 = some m.cls := findClass_of_methodNamed B.named
  have hlocks := B.notSynchronized
  subst hsz
  have hD := hD0.self (sz := s.heap.size)
  obtain ⟨qq, hqq⟩ : ∃ qq, qq = (va_Qi (fun (r : Int32) (u : (Int32) × (Int32 × Int32 × Int32 × (Nat → Int32) × (Nat → Int32) × (Nat → Int32) × (Nat → Int32) × (Nat → Int32) × (Nat → Int32) × (Nat → Int32) × (Nat → Int32) × (Nat → Int32)) × (Int32) × (Int32 × Int32) × ((Nat → Int32)) × (Int32 × Int32 × Int32 × Int32 × Int32 × Int32 × Int64 × (Nat → Int32)) × (Int32 × (Nat → Int32) × (Nat → Int32))) => r = R0.1 ∧ u = R0.2) (fun (u : (Int32) × (Int32 × Int32 × Int32 × (Nat → Int32) × (Nat → Int32) × (Nat → Int32) × (Nat → Int32) × (Nat → Int32) × (Nat → Int32) × (Nat → Int32) × (Nat → Int32) × (Nat → Int32)) × (Int32) × (Int32 × Int32) × ((Nat → Int32)) × (Int32 × Int32 × Int32 × Int32 × Int32 × Int32 × Int64 × (Nat → Int32)) × (Int32 × (Nat → Int32) × (Nat → Int32))) t => poC dC dI cy (w_X13_days cy a0 u.1 u.2.1 gtt u.2.2.1 u.2.2.2.1 u.2.2.2.2.1 u.2.2.2.2.2.1 gnv u.2.2.2.2.2.2 grc gim) t) (va_A (w_X13_days cy a0 gth gvm gtt gtd gfl grf grd gnv gac grc gim) s.heap.size)) := ⟨_, rfl⟩
  rw [← hqq]
  generalize hAe : va_A (w_X13_days cy a0 gth gvm gtt gtd gfl grf grd gnv gac grc gim) s.heap.size = A at hD hqq ⊢
  have hA : ∀ q : Nat, s.heap.size ≤ q → A q := fun q h => by rw [← hAe]; exact Or.inr h
  have hS : va_S A s.heap s.heap [] := va_S.rf
  have hl := lv_entry ([.ref (a0 0), .int x1]) (n := 3) (Nat.le_of_ble_eq_true rfl)
  have hE : entryFrame m aa 3 = F0 m 0 ((lg_sl ([.ref (a0 0), .int x1]) ++ List.replicate (3 - (lg_sl ([.ref (a0 0), .int x1])).length) Slot.unset).toArray) [] := by rw [haa]; exact lg_entry_eq m _ 3
  refine W.eq hE ?_
  generalize (lg_sl ([.ref (a0 0), .int x1]) ++ List.replicate (3 - (lg_sl ([.ref (a0 0), .int x1])).length) Slot.unset).toArray = ls at hl ⊢
  have hl : lv_has ls 3 [(0, .ref (a0 0)), (1, .int x1)] := hl
  change W p l e rm_X13_days s m aa below meth c s.heap [] 0 0 (MQ below qq aa s 0 0 A) (F0 m 0 ls [])
  have hS0 := hS
  have lk0 := hts (.fieldLink RX13 267 "GoatDoorsModel" "acts" "I") (by decide +kernel)
  have lk1 := hts (.fieldLink RX13 44 "GoatDoorsModel" "refused" "[I") (by decide +kernel)
  have lk2 := hts (.fieldLink RX13 188 "GoatDoorsModel" "faultKind" "I") (by decide +kernel)
  have lk3 := hts (.fieldLink RX13 165 "GoatDoorsModel" "sort" "I") (by decide +kernel)
  have lk4 := hts (.fieldLink RX13 135 "GoatDoorsModel" "thrown" "I") (by decide +kernel)
  have lk5 := hts (.fieldLink RX13 138 "GoatDoorsModel" "taped" "I") (by decide +kernel)
  have in_X13 : ∀ w ∈ wsX130, w ∈ wsX13_days := by decide +kernel
  have c89 : ∀ (n : Nat), ∀ (gth : Int32) (gvm : Int32 × Int32 × Int32 × (Nat → Int32) × (Nat → Int32) × (Nat → Int32) × (Nat → Int32) × (Nat → Int32) × (Nat → Int32) × (Nat → Int32) × (Nat → Int32) × (Nat → Int32)) (gtd : Int32) (gfl : Int32 × Int32) (grf : (Nat → Int32)) (grd : Int32 × Int32 × Int32 × Int32 × Int32 × Int32 × Int64 × (Nat → Int32)) (gac : Int32 × (Nat → Int32) × (Nat → Int32)) (x2 : Int32) (H : Heap) (locs : List Loc) (ls : Array Slot), p_X13_days_89 gtt n gth gvm gtd gfl grf grd gac x2 = some R0 → va_P (dC, dI) vwCl (w_X13_days cy a0 gth gvm gtt gtd gfl grf grd gnv gac grc gim) H → va_D A (w_X13_days cy a0 gth gvm gtt gtd gfl grf grd gnv gac grc gim) → va_S A s.heap H locs → lv_has ls 3 [(0, .ref (a0 0)), (2, .int x2)] → W p l e rm_X13_days s m aa below meth c H locs 0 0 (MQ below qq aa s 0 0 A) (F0 m 89 ls []) := by
    intro  n
    induction n with
    | zero => intro gth gvm gtd gfl grf grd gac x2 H locs ls h; exact no_some h
    | succ n ih =>
      intro gth gvm gtd gfl grf grd gac x2 H locs ls h hP hD hS hl
      rw [p_X13_days_89.eq_2] at h
      refine lv_iload_n hx hb dX13_days_89 rfl (lv_at hl 1 rfl) ?_
      refine lv_aload_n hx hb dX13_days_90 rfl (lv_at hl 0 rfl) ?_
      refine va_get (D := (dC, dI)) (ci := 11) (v := .int gac.1) (C := RX13) (T := TX13) (N := 64) hx hb hts in_X13 hown hK hP 0 rfl rfl 37 (by decide) lk0 (fun _ h9 => h9) rfl dX13_days_91 ?_
      refine lv_icmp_ge (tgt := 126) hx hb dX13_days_94 (by decide) (fun c1 => ?_) (fun c1 => ?_)
      · rw [if_pos c1] at h
        refine lv_aload_n hx hb dX13_days_126 rfl (lv_at hl 0 rfl) ?_
        refine va_get (D := (dC, dI)) (ci := 11) (v := .int gac.1) (C := RX13) (T := TX13) (N := 64) hx hb hts in_X13 hown hK hP 0 rfl rfl 37 (by decide) lk0 (fun _ h9 => h9) rfl dX13_days_127 ?_
        exact W.iret (v := gac.1) hx hb hr (fun t ht hW => by rw [hqq]; have hh := Option.some.inj h; exact ⟨⟨gac.1, ((gth, gvm, gtd, gfl, grf, grd, gac)), rfl, ⟨fst_of hh, snd_of hh⟩, by rw [ht]; exact hP, va_K.moved hW.alike hK⟩, hS.F ht⟩) hS.2.2 dX13_days_130
      · rw [if_neg c1] at h
        refine lv_aload_n hx hb dX13_days_97 rfl (lv_at hl 0 rfl) ?_
        refine lv_iload_n hx hb dX13_days_98 rfl (lv_at hl 1 rfl) ?_
        obtain ⟨v2, hv3, h⟩ := ok_bind h
        refine cl_vi (w2 := fun (u : (Int32 × Int32 × Int32 × (Nat → Int32) × (Nat → Int32) × (Nat → Int32) × (Nat → Int32) × (Nat → Int32) × (Nat → Int32) × (Nat → Int32) × (Nat → Int32) × (Nat → Int32))) => w_X13_days cy a0 gth u gtt gtd gfl grf grd gnv gac grc gim) (As := [.int x2]) (rest := []) ⟨hx, hb, hml, hown, hts⟩ (c_X13_does l dC dI cy a0 gth gvm gtd gfl grd gnv gac grc gim x2 H.size v2 hv3) (cwV 1 hts gX13_days_X13_does rfl rfl rfl (by decide +kernel) ⟨Nat.le_of_ble_eq_true rfl, Nat.le_of_ble_eq_true rfl⟩) (va_recv hK hP (ci := 11) (q0 := 0) rfl rfl) cl_blind (cl_pre hK hP hD [0, 1, 2, 3, 4, 5, 6, 7, 8, 9, 13, 14] (by decide) rfl) hP hD hS hA [0, 1, 2, 3, 4, 5, 6, 7, 8, 9, 13, 14] rfl rfl hl.1 rfl (lv_room (Nat.le_of_ble_eq_true rfl)) dX13_days_99 ⟨Nat.le_of_ble_eq_true rfl, Nat.le_of_ble_eq_true rfl⟩ ⟨rfl, rfl⟩ (fun _ => updM [0, 1, 2, 3, 4, 5, 6, 7, 8, 9, 13, 14] [10, 11, 12] [(a0 10, .inl (cy 1, 600, .inl (gtt))), (a0 11, .inl (cy 1, 3, .inl (grf))), (a0 12, .inl (cy 1, 5, .inl (grd.2.2.2.2.2.2.2)))] 15 rfl rfl rfl rfl rfl (by decide +kernel) (by decide +kernel) rfl) (fun r u H locs hw hP hD hS => ?_)
        obtain ⟨rfl, rfl⟩ := hw
        have hP : va_P (dC, dI) vwCl (w_X13_days cy a0 gth v2.2 gtt gtd gfl grf grd gnv gac grc gim) H := hP
        have hD : va_D A (w_X13_days cy a0 gth v2.2 gtt gtd gfl grf grd gnv gac grc gim) := hD
        refine lv_if_eq (tgt := 108) hx hb dX13_days_102 (by decide) (fun c4 => ?_) (fun c4 => ?_)
        · rw [if_pos c4] at h
          refine lv_aload_n hx hb dX13_days_108 rfl (lv_at hl 0 rfl) ?_
          refine va_get (D := (dC, dI)) (ci := 11) (v := .ref (a0 11)) (C := RX13) (T := TX13) (N := 64) hx hb hts in_X13 hown hK hP 0 rfl rfl 17 (by decide) lk1 (fun _ h9 => h9) rfl dX13_days_109 ?_
          refine lv_iconst (v := (1 : Int32)) hx hb dX13_days_112 (by decide) ?_
          refine lv_dup2_11 hx hb dX13_days_113 rfl rfl ?_
          obtain ⟨hi5, h⟩ := ok_if h
          refine va_iald hx hb hK hP 11 1 rfl rfl (ix_in hi5) dX13_days_114 ?_
          refine lv_iconst (v := (1 : Int32)) hx hb dX13_days_115 (by decide) ?_
          refine lv_iadd hx hb dX13_days_116 ?_
          obtain ⟨hi6, h⟩ := ok_if h
          refine va_iast hx hb hK hP hD hS 11 1 rfl rfl (ix_in hi6) dX13_days_117 (fun H locs hP hD hS => ?_)
          have hP : va_P (dC, dI) vwCl (w_X13_days cy a0 gth v2.2 gtt gtd gfl ((upd grf (1 : Int32).toNatClampNeg ((grf (1 : Int32).toNatClampNeg) + (1 : Int32)))) grd gnv gac grc gim) H := hP
          have hD : va_D A (w_X13_days cy a0 gth v2.2 gtt gtd gfl ((upd grf (1 : Int32).toNatClampNeg ((grf (1 : Int32).toNatClampNeg) + (1 : Int32)))) grd gnv gac grc gim) := hD
          refine lv_iload_n hx hb dX13_days_118 rfl (lv_at hl 1 rfl) ?_
          exact W.iret (v := x2) hx hb hr (fun t ht hW => by rw [hqq]; have hh := Option.some.inj h; exact ⟨⟨x2, ((gth, v2.2, gtd, gfl, (upd grf (1 : Int32).toNatClampNeg ((grf (1 : Int32).toNatClampNeg) + (1 : Int32))), grd, gac)), rfl, ⟨fst_of hh, snd_of hh⟩, by rw [ht]; exact hP, va_K.moved hW.alike hK⟩, hS.F ht⟩) hS.2.2 dX13_days_119
        · rw [if_neg c4] at h
          refine lv_goto (tgt := 120) hx hb dX13_days_105 (by decide) ?_
          refine lv_iinc (v := (x2 + (1 : Int32))) (lv' := [(2, .int (x2 + (1 : Int32))), (0, .ref (a0 0))]) hx hb dX13_days_120 hl (k := 1) rfl rfl (by decide) rfl (fun ls hl => ?_)
          refine lv_goto (tgt := 89) hx hb dX13_days_123 (by decide) ?_
          exact ih gth v2.2 gtd gfl grf grd gac (x2 + (1 : Int32)) H locs ls h hP hD hS (lv_sub hl [1, 0] rfl)
  have c63 : ∀ (_u : Unit), ∀ (gth : Int32) (gvm : Int32 × Int32 × Int32 × (Nat → Int32) × (Nat → Int32) × (Nat → Int32) × (Nat → Int32) × (Nat → Int32) × (Nat → Int32) × (Nat → Int32) × (Nat → Int32) × (Nat → Int32)) (gtd : Int32) (gfl : Int32 × Int32) (grf : (Nat → Int32)) (grd : Int32 × Int32 × Int32 × Int32 × Int32 × Int32 × Int64 × (Nat → Int32)) (gac : Int32 × (Nat → Int32) × (Nat → Int32)) (H : Heap) (locs : List Loc) (ls : Array Slot), p_X13_days_63 gtt gth gvm gtd gfl grf grd gac = some R0 → va_P (dC, dI) vwCl (w_X13_days cy a0 gth gvm gtt gtd gfl grf grd gnv gac grc gim) H → va_D A (w_X13_days cy a0 gth gvm gtt gtd gfl grf grd gnv gac grc gim) → va_S A s.heap H locs → lv_has ls 3 [(0, .ref (a0 0))] → W p l e rm_X13_days s m aa below meth c H locs 0 0 (MQ below qq aa s 0 0 A) (F0 m 63 ls []) := by
    intro _ gth gvm gtd gfl grf grd gac H locs ls h hP hD hS hl
    unfold p_X13_days_63 at h
    refine lv_aload_n hx hb dX13_days_63 rfl (lv_at hl 0 rfl) ?_
    obtain ⟨v1, hv2, h⟩ := ok_bind h
    refine cl_vi (w2 := fun (_ : Unit) => w_X13_days cy a0 gth gvm gtt gtd gfl grf grd gnv gac grc gim) (As := []) (rest := []) ⟨hx, hb, hml, hown, hts⟩ (c_X13_isGood l dC dI cy a0 gth gvm gtd gfl grd gnv gac grc gim H.size v1 hv2) (cwV 0 hts gX13_days_X13_isGood rfl rfl rfl (by decide +kernel) ⟨Nat.le_of_ble_eq_true rfl, Nat.le_of_ble_eq_true rfl⟩) (va_recv hK hP (ci := 11) (q0 := 0) rfl rfl) cl_blind (cl_pre hK hP hD [0] (by decide) rfl) hP hD hS hA [0] rfl rfl hl.1 rfl (lv_room (Nat.le_of_ble_eq_true rfl)) dX13_days_64 ⟨Nat.le_of_ble_eq_true rfl, Nat.le_of_ble_eq_true rfl⟩ ⟨rfl, rfl⟩ (fun _ => updR [0] rfl) (fun r u H locs hw hP hD hS => ?_)
    have hw := hw.symm
    subst hw
    have hP : va_P (dC, dI) vwCl (w_X13_days cy a0 gth gvm gtt gtd gfl grf grd gnv gac grc gim) H := hP
    have hD : va_D A (w_X13_days cy a0 gth gvm gtt gtd gfl grf grd gnv gac grc gim) := hD
    refine lv_if_ne (tgt := 87) hx hb dX13_days_67 (by decide) (fun c3 => ?_) (fun c3 => ?_)
    · rw [if_neg c3] at h
      refine lv_iconst (v := (0 : Int32)) hx hb dX13_days_87 (by decide) ?_
      refine lv_istore_n (lv' := [(2, .int (0 : Int32)), (0, .ref (a0 0))]) hx hb dX13_days_88 rfl hl (by decide) rfl (fun ls hl => ?_)
      exact c89 fu gth gvm gtd gfl grf grd gac (0 : Int32) H locs ls h hP hD hS (lv_sub hl [1, 0] rfl)
    · rw [if_pos c3] at h
      refine lv_aload_n hx hb dX13_days_70 rfl (lv_at hl 0 rfl) ?_
      refine va_get (D := (dC, dI)) (ci := 11) (v := .ref (a0 11)) (C := RX13) (T := TX13) (N := 64) hx hb hts in_X13 hown hK hP 0 rfl rfl 17 (by decide) lk1 (fun _ h9 => h9) rfl dX13_days_71 ?_
      refine lv_iconst (v := (0 : Int32)) hx hb dX13_days_74 (by decide) ?_
      refine lv_dup2_11 hx hb dX13_days_75 rfl rfl ?_
      obtain ⟨hi4, h⟩ := ok_if h
      refine va_iald hx hb hK hP 11 1 rfl rfl (ix_in hi4) dX13_days_76 ?_
      refine lv_iconst (v := (1 : Int32)) hx hb dX13_days_77 (by decide) ?_
      refine lv_iadd hx hb dX13_days_78 ?_
      obtain ⟨hi5, h⟩ := ok_if h
      refine va_iast hx hb hK hP hD hS 11 1 rfl rfl (ix_in hi5) dX13_days_79 (fun H locs hP hD hS => ?_)
      have hP : va_P (dC, dI) vwCl (w_X13_days cy a0 gth gvm gtt gtd gfl ((upd grf (0 : Int32).toNatClampNeg ((grf (0 : Int32).toNatClampNeg) + (1 : Int32)))) grd gnv gac grc gim) H := hP
      have hD : va_D A (w_X13_days cy a0 gth gvm gtt gtd gfl ((upd grf (0 : Int32).toNatClampNeg ((grf (0 : Int32).toNatClampNeg) + (1 : Int32)))) grd gnv gac grc gim) := hD
      refine lv_iconst (v := (-1 : Int32)) hx hb dX13_days_80 (by decide) ?_
      refine lv_aload_n hx hb dX13_days_81 rfl (lv_at hl 0 rfl) ?_
      refine va_get (D := (dC, dI)) (ci := 11) (v := .int gfl.1) (C := RX13) (T := TX13) (N := 64) hx hb hts in_X13 hown hK hP 0 rfl rfl 15 (by decide) lk2 (fun _ h9 => h9) rfl dX13_days_82 ?_
      refine lv_isub hx hb dX13_days_85 ?_
      exact W.iret (v := ((-1 : Int32) - gfl.1)) hx hb hr (fun t ht hW => by rw [hqq]; have hh := Option.some.inj h; exact ⟨⟨((-1 : Int32) - gfl.1), ((gth, gvm, gtd, gfl, (upd grf (0 : Int32).toNatClampNeg ((grf (0 : Int32).toNatClampNeg) + (1 : Int32))), grd, gac)), rfl, ⟨fst_of hh, snd_of hh⟩, by rw [ht]; exact hP, va_K.moved hW.alike hK⟩, hS.F ht⟩) hS.2.2 dX13_days_86
  have c42 : ∀ (n : Nat), ∀ (gth : Int32) (gvm : Int32 × Int32 × Int32 × (Nat → Int32) × (Nat → Int32) × (Nat → Int32) × (Nat → Int32) × (Nat → Int32) × (Nat → Int32) × (Nat → Int32) × (Nat → Int32) × (Nat → Int32)) (gtd : Int32) (gfl : Int32 × Int32) (grf : (Nat → Int32)) (grd : Int32 × Int32 × Int32 × Int32 × Int32 × Int32 × Int64 × (Nat → Int32)) (gac : Int32 × (Nat → Int32) × (Nat → Int32)) (H : Heap) (locs : List Loc) (ls : Array Slot), p_X13_days_42 gtt n gth gvm gtd gfl grf grd gac = some R0 → va_P (dC, dI) vwCl (w_X13_days cy a0 gth gvm gtt gtd gfl grf grd gnv gac grc gim) H → va_D A (w_X13_days cy a0 gth gvm gtt gtd gfl grf grd gnv gac grc gim) → va_S A s.heap H locs → lv_has ls 3 [(0, .ref (a0 0))] → W p l e rm_X13_days s m aa below meth c H locs 0 0 (MQ below qq aa s 0 0 A) (F0 m 42 ls []) := by
    intro  n
    induction n with
    | zero => intro gth gvm gtd gfl grf grd gac H locs ls h; exact no_some h
    | succ n ih =>
      intro gth gvm gtd gfl grf grd gac H locs ls h hP hD hS hl
      rw [p_X13_days_42.eq_2] at h
      refine lv_aload_n hx hb dX13_days_42 rfl (lv_at hl 0 rfl) ?_
      obtain ⟨v1, hv2, h⟩ := ok_bind h
      refine cl_vi (w2 := fun (_ : Unit) => w_X13_days cy a0 gth gvm gtt gtd gfl grf grd gnv gac grc gim) (As := []) (rest := []) ⟨hx, hb, hml, hown, hts⟩ (c_X13_isGood l dC dI cy a0 gth gvm gtd gfl grd gnv gac grc gim H.size v1 hv2) (cwV 0 hts gX13_days_X13_isGood rfl rfl rfl (by decide +kernel) ⟨Nat.le_of_ble_eq_true rfl, Nat.le_of_ble_eq_true rfl⟩) (va_recv hK hP (ci := 11) (q0 := 0) rfl rfl) cl_blind (cl_pre hK hP hD [0] (by decide) rfl) hP hD hS hA [0] rfl rfl hl.1 rfl (lv_room (Nat.le_of_ble_eq_true rfl)) dX13_days_43 ⟨Nat.le_of_ble_eq_true rfl, Nat.le_of_ble_eq_true rfl⟩ ⟨rfl, rfl⟩ (fun _ => updR [0] rfl) (fun r u H locs hw hP hD hS => ?_)
      have hw := hw.symm
      subst hw
      have hP : va_P (dC, dI) vwCl (w_X13_days cy a0 gth gvm gtt gtd gfl grf grd gnv gac grc gim) H := hP
      have hD : va_D A (w_X13_days cy a0 gth gvm gtt gtd gfl grf grd gnv gac grc gim) := hD
      refine lv_if_eq (tgt := 63) hx hb dX13_days_46 (by decide) (fun c3 => ?_) (fun c3 => ?_)
      · rw [if_pos c3] at h
        exact c63 () gth gvm gtd gfl grf grd gac H locs ls h hP hD hS (lv_sub hl [0] rfl)
      · rw [if_neg c3] at h
        refine lv_aload_n hx hb dX13_days_49 rfl (lv_at hl 0 rfl) ?_
        refine va_get (D := (dC, dI)) (ci := 11) (v := .int grd.2.2.1) (C := RX13) (T := TX13) (N := 64) hx hb hts in_X13 hown hK hP 0 rfl rfl 20 (by decide) lk3 (fun _ h9 => h9) rfl dX13_days_50 ?_
        refine lv_if_eq (tgt := 63) hx hb dX13_days_53 (by decide) (fun c4 => ?_) (fun c4 => ?_)
        · rw [if_pos c4] at h
          exact c63 () gth gvm gtd gfl grf grd gac H locs ls h hP hD hS (lv_sub hl [0] rfl)
        · rw [if_neg c4] at h
          refine lv_aload_n hx hb dX13_days_56 rfl (lv_at hl 0 rfl) ?_
          obtain ⟨v5, hv6, h⟩ := ok_bind h
          refine cl_vv (w2 := fun (u : (Int32 × Int32) × (Int32 × Int32 × Int32 × Int32 × Int32 × Int32 × Int64 × (Nat → Int32)) × (Int32 × (Nat → Int32) × (Nat → Int32))) => w_X13_days cy a0 gth gvm gtt gtd u.1 grf u.2.1 gnv u.2.2 grc gim) (As := []) (rest := []) ⟨hx, hb, hml, hown, hts⟩ (c_X13_readsDay l dC dI cy a0 gth gvm gtt gtd gfl grd gnv gac grc gim H.size v5 hv6) (cwV 0 hts gX13_days_X13_readsDay rfl rfl rfl (by decide +kernel) ⟨Nat.le_of_ble_eq_true rfl, Nat.le_of_ble_eq_true rfl⟩) (va_recv hK hP (ci := 11) (q0 := 0) rfl rfl) cl_blind (cl_pre hK hP hD [0, 1, 2, 3, 4, 5, 6, 7, 8, 9, 10, 12, 13, 14] (by decide) rfl) hP hD hS hA [0, 1, 2, 3, 4, 5, 6, 7, 8, 9, 10, 12, 13, 14] rfl rfl hl.1 rfl (lv_room (Nat.le_of_ble_eq_true rfl)) dX13_days_57 ⟨Nat.le_of_ble_eq_true rfl, Nat.le_of_ble_eq_true rfl⟩ ⟨rfl, rfl⟩ (fun _ => updM [0, 1, 2, 3, 4, 5, 6, 7, 8, 9, 10, 12, 13, 14] [11] [(a0 11, .inl (cy 1, 3, .inl (grf)))] 15 rfl rfl rfl rfl rfl (by decide +kernel) (by decide +kernel) rfl) (fun u H locs hw hP hD hS => ?_)
          have hw := hw.symm
          subst hw
          have hP : va_P (dC, dI) vwCl (w_X13_days cy a0 gth gvm gtt gtd v5.1 grf v5.2.1 gnv v5.2.2 grc gim) H := hP
          have hD : va_D A (w_X13_days cy a0 gth gvm gtt gtd v5.1 grf v5.2.1 gnv v5.2.2 grc gim) := hD
          refine lv_goto (tgt := 42) hx hb dX13_days_60 (by decide) ?_
          exact ih gth gvm gtd v5.1 grf v5.2.1 v5.2.2 H locs ls h hP hD hS (lv_sub hl [0] rfl)
  have c23 : ∀ (_u : Unit), ∀ (gth : Int32) (gvm : Int32 × Int32 × Int32 × (Nat → Int32) × (Nat → Int32) × (Nat → Int32) × (Nat → Int32) × (Nat → Int32) × (Nat → Int32) × (Nat → Int32) × (Nat → Int32) × (Nat → Int32)) (gtd : Int32) (gfl : Int32 × Int32) (grf : (Nat → Int32)) (grd : Int32 × Int32 × Int32 × Int32 × Int32 × Int32 × Int64 × (Nat → Int32)) (gac : Int32 × (Nat → Int32) × (Nat → Int32)) (x1 : Int32) (t1 : Int32) (H : Heap) (locs : List Loc) (ls : Array Slot), p_X13_days_23 gtt gth gvm gtd gfl grf grd gac x1 t1 = some R0 → va_P (dC, dI) vwCl (w_X13_days cy a0 gth gvm gtt gtd gfl grf grd gnv gac grc gim) H → va_D A (w_X13_days cy a0 gth gvm gtt gtd gfl grf grd gnv gac grc gim) → va_S A s.heap H locs → lv_has ls 3 [(0, .ref (a0 0)), (1, .int x1)] → W p l e rm_X13_days s m aa below meth c H locs 0 0 (MQ below qq aa s 0 0 A) (F0 m 23 ls [.int t1, .ref (a0 0)]) := by
    intro _ gth gvm gtd gfl grf grd gac x1 t1 H locs ls h hP hD hS hl
    unfold p_X13_days_23 at h
    refine lv_iconst (v := (1 : Int32)) hx hb dX13_days_23 (by decide) ?_
    obtain ⟨v1, hv2, h⟩ := ok_bind h
    refine cl_vi (w2 := fun (u : (Int32)) => w_X13_days cy a0 u gvm gtt gtd gfl grf grd gnv gac grc gim) (As := [.int t1, .int (1 : Int32)]) (rest := []) ⟨hx, hb, hml, hown, hts⟩ (c_X13_right l dC dI cy a0 gth gvm gtd gfl grd gnv gac grc gim t1 (1 : Int32) H.size v1 hv2) (cwV 2 hts gX13_days_X13_right rfl rfl rfl (by decide +kernel) ⟨Nat.le_of_ble_eq_true rfl, Nat.le_of_ble_eq_true rfl⟩) (va_recv hK hP (ci := 11) (q0 := 0) rfl rfl) cl_blind (cl_pre hK hP hD [0] (by decide) rfl) hP hD hS hA [0] rfl rfl hl.1 rfl (lv_room (Nat.le_of_ble_eq_true rfl)) dX13_days_24 ⟨Nat.le_of_ble_eq_true rfl, Nat.le_of_ble_eq_true rfl⟩ ⟨rfl, rfl⟩ (fun _ => updM [0] [1, 2, 3, 4, 5, 6, 7, 8, 9, 10, 11, 12, 13, 14] [(a0 1, .inl (cy 1, 5, .inl (gvm.2.2.2.1))), (a0 2, .inl (cy 1, 5, .inl (gvm.2.2.2.2.1))), (a0 3, .inl (cy 1, 5, .inl (gvm.2.2.2.2.2.1))), (a0 4, .inl (cy 1, 25, .inl (gvm.2.2.2.2.2.2.1))), (a0 5, .inl (cy 1, 10, .inl (gvm.2.2.2.2.2.2.2.1))), (a0 6, .inl (cy 1, 10, .inl (gvm.2.2.2.2.2.2.2.2.1))), (a0 7, .inl (cy 1, 10, .inl (gvm.2.2.2.2.2.2.2.2.2.1))), (a0 8, .inl (cy 1, 10, .inl (gvm.2.2.2.2.2.2.2.2.2.2.1))), (a0 9, .inl (cy 1, 50, .inl (gvm.2.2.2.2.2.2.2.2.2.2.2))), (a0 10, .inl (cy 1, 600, .inl (gtt))), (a0 11, .inl (cy 1, 3, .inl (grf))), (a0 12, .inl (cy 1, 5, .inl (grd.2.2.2.2.2.2.2))), (a0 19, .inl (cy 1, 600, .inl (gac.2.1))), (a0 20, .inl (cy 1, 600, .inl (gac.2.2)))] 15 rfl rfl rfl rfl rfl (by decide +kernel) (by decide +kernel) rfl) (fun r u H locs hw hP hD hS => ?_)
    obtain ⟨rfl, rfl⟩ := hw
    have hP : va_P (dC, dI) vwCl (w_X13_days cy a0 v1.2 gvm gtt gtd gfl grf grd gnv gac grc gim) H := hP
    have hD : va_D A (w_X13_days cy a0 v1.2 gvm gtt gtd gfl grf grd gnv gac grc gim) := hD
    refine lv_if_ne (tgt := 32) hx hb dX13_days_27 (by decide) (fun c3 => ?_) (fun c3 => ?_)
    · rw [if_neg c3] at h
      refine lv_aload_n hx hb dX13_days_32 rfl (lv_at hl 0 rfl) ?_
      refine lv_iconst (v := (0 : Int32)) hx hb dX13_days_33 (by decide) ?_
      refine va_put (D := (dC, dI)) (ci := 11) (v := .int (0 : Int32)) (ty := .int) (C := RX13) (T := TX13) (N := 64) hx hb hts in_X13 tyX13 tyX13_ok nmX13 hown hK hP hD hS 0 rfl rfl 37 (by decide) lk0 (fun _ h9 => h9) rfl (by decide +kernel) rfl rfl (Nat.le_of_ble_eq_true rfl) dX13_days_34 (fun H locs hP hD hS => ?_)
      have hP : va_P (dC, dI) vwCl (w_X13_days cy a0 v1.2 gvm gtt gtd gfl grf grd gnv (((0 : Int32), gac.2)) grc gim) H := hP
      have hD : va_D A (w_X13_days cy a0 v1.2 gvm gtt gtd gfl grf grd gnv (((0 : Int32), gac.2)) grc gim) := hD
      refine lv_aload_n hx hb dX13_days_37 rfl (lv_at hl 0 rfl) ?_
      refine lv_iload_n hx hb dX13_days_38 rfl (lv_at hl 1 rfl) ?_
      obtain ⟨v4, hv5, h⟩ := ok_bind h
      refine cl_vv (w2 := fun (u : (Int32) × (Int32 × Int32) × (Int32 × Int32 × Int32 × Int32 × Int32 × Int32 × Int64 × (Nat → Int32))) => w_X13_days cy a0 v1.2 gvm gtt u.1 u.2.1 grf u.2.2 gnv (((0 : Int32), gac.2)) grc gim) (As := [.int x1]) (rest := []) ⟨hx, hb, hml, hown, hts⟩ (c_X13_opens l dC dI cy a0 v1.2 gvm gtt gtd gfl grd gnv ((0 : Int32), gac.2) grc gim x1 H.size v4 hv5) (cwV 1 hts gX13_days_X13_opens rfl rfl rfl (by decide +kernel) ⟨Nat.le_of_ble_eq_true rfl, Nat.le_of_ble_eq_true rfl⟩) (va_recv hK hP (ci := 11) (q0 := 0) rfl rfl) cl_blind (cl_pre hK hP hD [0, 10, 12] (by decide) rfl) hP hD hS hA [0, 10, 12] rfl rfl hl.1 rfl (lv_room (Nat.le_of_ble_eq_true rfl)) dX13_days_39 ⟨Nat.le_of_ble_eq_true rfl, Nat.le_of_ble_eq_true rfl⟩ ⟨rfl, rfl⟩ (fun _ => updM [0, 10, 12] [1, 2, 3, 4, 5, 6, 7, 8, 9, 11, 13, 14] [(a0 1, .inl (cy 1, 5, .inl (gvm.2.2.2.1))), (a0 2, .inl (cy 1, 5, .inl (gvm.2.2.2.2.1))), (a0 3, .inl (cy 1, 5, .inl (gvm.2.2.2.2.2.1))), (a0 4, .inl (cy 1, 25, .inl (gvm.2.2.2.2.2.2.1))), (a0 5, .inl (cy 1, 10, .inl (gvm.2.2.2.2.2.2.2.1))), (a0 6, .inl (cy 1, 10, .inl (gvm.2.2.2.2.2.2.2.2.1))), (a0 7, .inl (cy 1, 10, .inl (gvm.2.2.2.2.2.2.2.2.2.1))), (a0 8, .inl (cy 1, 10, .inl (gvm.2.2.2.2.2.2.2.2.2.2.1))), (a0 9, .inl (cy 1, 50, .inl (gvm.2.2.2.2.2.2.2.2.2.2.2))), (a0 11, .inl (cy 1, 3, .inl (grf))), (a0 19, .inl (cy 1, 600, .inl (gac.2.1))), (a0 20, .inl (cy 1, 600, .inl (gac.2.2)))] 15 rfl rfl rfl rfl rfl (by decide +kernel) (by decide +kernel) rfl) (fun u H locs hw hP hD hS => ?_)
      have hw := hw.symm
      subst hw
      have hP : va_P (dC, dI) vwCl (w_X13_days cy a0 v1.2 gvm gtt v4.1 v4.2.1 grf v4.2.2 gnv (((0 : Int32), gac.2)) grc gim) H := hP
      have hD : va_D A (w_X13_days cy a0 v1.2 gvm gtt v4.1 v4.2.1 grf v4.2.2 gnv (((0 : Int32), gac.2)) grc gim) := hD
      exact c42 fu v1.2 gvm v4.1 v4.2.1 grf v4.2.2 ((0 : Int32), gac.2) H locs ls h hP hD hS (lv_sub hl [0] rfl)
    · rw [if_pos c3] at h
      refine lv_iconst (v := (0 : Int32)) hx hb dX13_days_30 (by decide) ?_
      exact W.iret (v := (0 : Int32)) hx hb hr (fun t ht hW => by rw [hqq]; have hh := Option.some.inj h; exact ⟨⟨(0 : Int32), ((v1.2, gvm, gtd, gfl, grf, grd, gac)), rfl, ⟨fst_of hh, snd_of hh⟩, by rw [ht]; exact hP, va_K.moved hW.alike hK⟩, hS.F ht⟩) hS.2.2 dX13_days_31
  have c22 : ∀ (_u : Unit), ∀ (gth : Int32) (gvm : Int32 × Int32 × Int32 × (Nat → Int32) × (Nat → Int32) × (Nat → Int32) × (Nat → Int32) × (Nat → Int32) × (Nat → Int32) × (Nat → Int32) × (Nat → Int32) × (Nat → Int32)) (gtd : Int32) (gfl : Int32 × Int32) (grf : (Nat → Int32)) (grd : Int32 × Int32 × Int32 × Int32 × Int32 × Int32 × Int64 × (Nat → Int32)) (gac : Int32 × (Nat → Int32) × (Nat → Int32)) (x1 : Int32) (H : Heap) (locs : List Loc) (ls : Array Slot), p_X13_days_22 gtt gth gvm gtd gfl grf grd gac x1 = some R0 → va_P (dC, dI) vwCl (w_X13_days cy a0 gth gvm gtt gtd gfl grf grd gnv gac grc gim) H → va_D A (w_X13_days cy a0 gth gvm gtt gtd gfl grf grd gnv gac grc gim) → va_S A s.heap H locs → lv_has ls 3 [(0, .ref (a0 0)), (1, .int x1)] → W p l e rm_X13_days s m aa below meth c H locs 0 0 (MQ below qq aa s 0 0 A) (F0 m 22 ls [.ref (a0 0)]) := by
    intro _ gth gvm gtd gfl grf grd gac x1 H locs ls h hP hD hS hl
    unfold p_X13_days_22 at h
    refine lv_iconst (v := (0 : Int32)) hx hb dX13_days_22 (by decide) ?_
    exact c23 () gth gvm gtd gfl grf grd gac x1 (0 : Int32) H locs ls h hP hD hS (lv_sub hl [0, 1] rfl)
  obtain ⟨H, hH⟩ : ∃ H : Heap, H = s.heap := ⟨_, rfl⟩
  obtain ⟨locs, hlocs⟩ : ∃ locs : List Loc, locs = [] := ⟨_, rfl⟩
  have hS : va_S A s.heap H locs := by rw [hH, hlocs]; exact hS
  rw [← hH] at hP
  suffices hg : W p l e rm_X13_days s m aa below meth c H locs 0 0 (MQ below qq aa s 0 0 A) (F0 m 0 ls []) by subst hH; subst hlocs; exact hg
  unfold p_X13_days at h
  refine lv_aload_n hx hb dX13_days_0 rfl (lv_at hl 0 rfl) ?_
  refine lv_iconst (v := (0 : Int32)) hx hb dX13_days_1 (by decide) ?_
  refine va_put (D := (dC, dI)) (ci := 11) (v := .int (0 : Int32)) (ty := .int) (C := RX13) (T := TX13) (N := 64) hx hb hts in_X13 tyX13 tyX13_ok nmX13 hown hK hP hD hS 0 rfl rfl 0 (by decide) lk4 (fun _ h9 => h9) rfl (by decide +kernel) rfl rfl (Nat.le_of_ble_eq_true rfl) dX13_days_2 (fun H locs hP hD hS => ?_)
  have hP : va_P (dC, dI) vwCl (w_X13_days cy a0 ((0 : Int32)) gvm gtt gtd gfl grf grd gnv gac grc gim) H := hP
  have hD : va_D A (w_X13_days cy a0 ((0 : Int32)) gvm gtt gtd gfl grf grd gnv gac grc gim) := hD
  refine lv_aload_n hx hb dX13_days_5 rfl (lv_at hl 0 rfl) ?_
  refine lv_iload_n hx hb dX13_days_6 rfl (lv_at hl 1 rfl) ?_
  refine lv_if_lt (tgt := 22) hx hb dX13_days_7 (by decide) (fun c1 => ?_) (fun c1 => ?_)
  · rw [if_pos c1] at h
    exact c22 () (0 : Int32) gvm gtd gfl grf grd gac x1 H locs ls h hP hD hS (lv_sub hl [0, 1] rfl)
  · rw [if_neg c1] at h
    refine lv_iload_n hx hb dX13_days_10 rfl (lv_at hl 1 rfl) ?_
    refine lv_aload_n hx hb dX13_days_11 rfl (lv_at hl 0 rfl) ?_
    refine va_get (D := (dC, dI)) (ci := 11) (v := .int gtd) (C := RX13) (T := TX13) (N := 64) hx hb hts in_X13 hown hK hP 0 rfl rfl 14 (by decide) lk5 (fun _ h9 => h9) rfl dX13_days_12 ?_
    refine lv_icmp_gt (tgt := 22) hx hb dX13_days_15 (by decide) (fun c2 => ?_) (fun c2 => ?_)
    · rw [if_pos c2] at h
      exact c22 () (0 : Int32) gvm gtd gfl grf grd gac x1 H locs ls h hP hD hS (lv_sub hl [0, 1] rfl)
    · rw [if_neg c2] at h
      refine lv_iconst (v := (1 : Int32)) hx hb dX13_days_18 (by decide) ?_
      refine lv_goto (tgt := 23) hx hb dX13_days_19 (by decide) ?_
      exact c23 () (0 : Int32) gvm gtd gfl grf grd gac x1 (1 : Int32) H locs ls h hP hD hS (lv_sub hl [0, 1] rfl)

abbrev w_X13_isOwner (cy : Nat → ClassId) (a0 : Nat → Nat) (gth : Int32) (gvm : Int32 × Int32 × Int32 × (Nat → Int32) × (Nat → Int32) × (Nat → Int32) × (Nat → Int32) × (Nat → Int32) × (Nat → Int32) × (Nat → Int32) × (Nat → Int32) × (Nat → Int32)) (gtd : Int32) (gfl : Int32 × Int32) (grd : Int32 × Int32 × Int32 × Int32 × Int32 × Int32 × Int64 × (Nat → Int32)) (gnv : Int32 × Int32 × Int32 × Int32 × Int32 × (Nat → Int32) × (Nat → Int32) × (Nat → Int32) × (Nat → Int32) × (Nat → Int32) × (Nat → Int32)) (gac : Int32 × (Nat → Int32) × (Nat → Int32)) (grc : Int32 × (Nat → Int32)) (gim : Int32 × Int32 × Int32 × (Nat → Int32) × (Nat → Int32) × (Nat → Int32) × (Nat → Int32) × (Nat → Int32) × (Nat → Int32) × (Nat → Int32) × (Nat → Int32) × (Nat → Int32)) : va_W := [(a0 0, .inr (11, [.int (gth), .int (gvm.1), .int (gvm.2.1), .int (gvm.2.2.1), .ref (a0 1), .ref (a0 2), .ref (a0 3), .ref (a0 4), .ref (a0 5), .ref (a0 6), .ref (a0 7), .ref (a0 8), .ref (a0 9), .ref (a0 10), .int (gtd), .int (gfl.1), .int (gfl.2), .ref (a0 11), .int (grd.1), .int (grd.2.1), .int (grd.2.2.1), .int (grd.2.2.2.1), .int (grd.2.2.2.2.1), .int (grd.2.2.2.2.2.1), .long (grd.2.2.2.2.2.2.1), .ref (a0 12), .int (gnv.1), .int (gnv.2.1), .int (gnv.2.2.1), .int (gnv.2.2.2.1), .int (gnv.2.2.2.2.1), .ref (a0 13), .ref (a0 14), .ref (a0 15), .ref (a0 16), .ref (a0 17), .ref (a0 18), .int (gac.1), .ref (a0 19), .ref (a0 20), .ref (a0 21), .ref (a0 22), .ref (a0 23), .ref (a0 24), .ref (a0 25), .ref (a0 26), .ref (a0 27), .int (grc.1), .ref (a0 28), .ref (a0 29), .ref (a0 30), .ref (a0 31), .int (gim.1), .int (gim.2.1), .int (gim.2.2.1), .ref (a0 32), .ref (a0 33), .ref (a0 34), .ref (a0 35), .ref (a0 36), .ref (a0 37), .ref (a0 38), .ref (a0 39), .ref (a0 40)])), (a0 1, .inl (cy 1, 5, .inl (gvm.2.2.2.1))), (a0 2, .inl (cy 1, 5, .inl (gvm.2.2.2.2.1))), (a0 3, .inl (cy 1, 5, .inl (gvm.2.2.2.2.2.1))), (a0 4, .inl (cy 1, 25, .inl (gvm.2.2.2.2.2.2.1))), (a0 5, .inl (cy 1, 10, .inl (gvm.2.2.2.2.2.2.2.1))), (a0 6, .inl (cy 1, 10, .inl (gvm.2.2.2.2.2.2.2.2.1))), (a0 7, .inl (cy 1, 10, .inl (gvm.2.2.2.2.2.2.2.2.2.1))), (a0 8, .inl (cy 1, 10, .inl (gvm.2.2.2.2.2.2.2.2.2.2.1))), (a0 9, .inl (cy 1, 50, .inl (gvm.2.2.2.2.2.2.2.2.2.2.2)))]
abbrev rm_X13_isOwner : Room := { frames := 1, cells := 0, slots := 0, locals := 22 }
set_option maxHeartbeats 1000000 in
set_option maxRecDepth 100000 in
theorem c_X13_isOwner (l : Launch) (dC : Nat → ClassId) (dI : Nat → Nat → Nat) (cy : Nat → ClassId) (a0 : Nat → Nat) (gth : Int32) (gvm : Int32 × Int32 × Int32 × (Nat → Int32) × (Nat → Int32) × (Nat → Int32) × (Nat → Int32) × (Nat → Int32) × (Nat → Int32) × (Nat → Int32) × (Nat → Int32) × (Nat → Int32)) (gtd : Int32) (gfl : Int32 × Int32) (grd : Int32 × Int32 × Int32 × Int32 × Int32 × Int32 × Int64 × (Nat → Int32)) (gnv : Int32 × Int32 × Int32 × Int32 × Int32 × (Nat → Int32) × (Nat → Int32) × (Nat → Int32) × (Nat → Int32) × (Nat → Int32) × (Nat → Int32)) (gac : Int32 × (Nat → Int32) × (Nat → Int32)) (grc : Int32 × (Nat → Int32)) (gim : Int32 × Int32 × Int32 × (Nat → Int32) × (Nat → Int32) × (Nat → Int32) × (Nat → Int32) × (Nat → Int32) × (Nat → Int32) × (Nat → Int32) × (Nat → Int32) × (Nat → Int32)) (x1 : Int32) (sz : Nat) (R0 : Int32 × (Int32)) (h : p_X13_isOwner gth gvm x1 = some R0) : Met l yX13_isOwner wsX13_isOwner rm_X13_isOwner (va_Pc [.ref (a0 0), .int x1] (prC dC dI cy (w_X13_isOwner cy a0 gth gvm gtd gfl grd gnv gac grc gim) sz)) (va_Qi (fun (r : Int32) (u : (Int32)) => r = R0.1 ∧ u = R0.2) (fun (u : (Int32)) t => poC dC dI cy (w_X13_isOwner cy a0 u gvm gtd gfl grd gnv gac grc gim) t) (va_A (w_X13_isOwner cy a0 gth gvm gtd gfl grd gnv gac grc gim) sz)) 0 0 (va_A (w_X13_isOwner cy a0 gth gvm gtd gfl grd gnv gac grc gim) sz) := by
  refine Met.ofW (cc := cX13_isOwner) (maxL := 2) (ret := (some .boolean)) (by decide) rfl ?_
  intro p e s m aa below meth c s₁ B hml hv
  obtain ⟨haa, hsz, hP, hK, hD0⟩ := hv
  have hx := B.exec
  have hb := B.bytes
  have hr := B.returns
  have hts := atoms_spec (ws := wsX13_isOwner) B.pre
  have hown : s.vm.findClass RX13 = some m.cls := findClass_of_methodNamed B.named
  have hlocks := B.notSynchronized
  subst hsz
  have hD := hD0.self (sz := s.heap.size)
  obtain ⟨qq, hqq⟩ : ∃ qq, qq = (va_Qi (fun (r : Int32) (u : (Int32)) => r = R0.1 ∧ u = R0.2) (fun (u : (Int32)) t => poC dC dI cy (w_X13_isOwner cy a0 u gvm gtd gfl grd gnv gac grc gim) t) (va_A (w_X13_isOwner cy a0 gth gvm gtd gfl grd gnv gac grc gim) s.heap.size)) := ⟨_, rfl⟩
  rw [← hqq]
  generalize hAe : va_A (w_X13_isOwner cy a0 gth gvm gtd gfl grd gnv gac grc gim) s.heap.size = A at hD hqq ⊢
  have hA : ∀ q : Nat, s.heap.size ≤ q → A q := fun q h => by rw [← hAe]; exact Or.inr h
  have hS : va_S A s.heap s.heap [] := va_S.rf
  have hl := lv_entry ([.ref (a0 0), .int x1]) (n := 2) (Nat.le_of_ble_eq_true rfl)
  have hE : entryFrame m aa 2 = F0 m 0 ((lg_sl ([.ref (a0 0), .int x1]) ++ List.replicate (2 - (lg_sl ([.ref (a0 0), .int x1])).length) Slot.unset).toArray) [] := by rw [haa]; exact lg_entry_eq m _ 2
  refine W.eq hE ?_
  generalize (lg_sl ([.ref (a0 0), .int x1]) ++ List.replicate (2 - (lg_sl ([.ref (a0 0), .int x1])).length) Slot.unset).toArray = ls at hl ⊢
  have hl : lv_has ls 2 [(0, .ref (a0 0)), (1, .int x1)] := hl
  change W p l e rm_X13_isOwner s m aa below meth c s.heap [] 0 0 (MQ below qq aa s 0 0 A) (F0 m 0 ls [])
  have hS0 := hS
  have lk0 := hts (.fieldLink RX13 245 "GoatDoorsModel" "owners" "I") (by decide +kernel)
  have in_X13 : ∀ w ∈ wsX130, w ∈ wsX13_isOwner := by decide +kernel
  have c18 : ∀ (_u : Unit), ∀ (gth : Int32) (t1 : Int32) (H : Heap) (locs : List Loc) (ls : Array Slot), p_X13_isOwner_18 gvm gth t1 = some R0 → va_P (dC, dI) vwCl (w_X13_isOwner cy a0 gth gvm gtd gfl grd gnv gac grc gim) H → va_D A (w_X13_isOwner cy a0 gth gvm gtd gfl grd gnv gac grc gim) → va_S A s.heap H locs → lv_has ls 2 [] → W p l e rm_X13_isOwner s m aa below meth c H locs 0 0 (MQ below qq aa s 0 0 A) (F0 m 18 ls [.int t1, .ref (a0 0)]) := by
    intro _ gth t1 H locs ls h hP hD hS hl
    unfold p_X13_isOwner_18 at h
    refine lv_iconst (v := (1 : Int32)) hx hb dX13_isOwner_18 (by decide) ?_
    obtain ⟨v1, hv2, h⟩ := ok_bind h
    refine cl_vi (w2 := fun (u : (Int32)) => w_X13_isOwner cy a0 u gvm gtd gfl grd gnv gac grc gim) (As := [.int t1, .int (1 : Int32)]) (rest := []) ⟨hx, hb, hml, hown, hts⟩ (c_X13_right l dC dI cy a0 gth gvm gtd gfl grd gnv gac grc gim t1 (1 : Int32) H.size v1 hv2) (cwV 2 hts gX13_isOwner_X13_right rfl rfl rfl (by decide +kernel) ⟨Nat.le_of_ble_eq_true rfl, Nat.le_of_ble_eq_true rfl⟩) (va_recv hK hP (ci := 11) (q0 := 0) rfl rfl) cl_blind (cl_pre hK hP hD [0] (by decide) rfl) hP hD hS hA [0] rfl rfl hl.1 rfl (lv_room (Nat.le_of_ble_eq_true rfl)) dX13_isOwner_19 ⟨Nat.le_of_ble_eq_true rfl, Nat.le_of_ble_eq_true rfl⟩ ⟨rfl, rfl⟩ (fun _ => updM [0] [1, 2, 3, 4, 5, 6, 7, 8, 9] [(a0 1, .inl (cy 1, 5, .inl (gvm.2.2.2.1))), (a0 2, .inl (cy 1, 5, .inl (gvm.2.2.2.2.1))), (a0 3, .inl (cy 1, 5, .inl (gvm.2.2.2.2.2.1))), (a0 4, .inl (cy 1, 25, .inl (gvm.2.2.2.2.2.2.1))), (a0 5, .inl (cy 1, 10, .inl (gvm.2.2.2.2.2.2.2.1))), (a0 6, .inl (cy 1, 10, .inl (gvm.2.2.2.2.2.2.2.2.1))), (a0 7, .inl (cy 1, 10, .inl (gvm.2.2.2.2.2.2.2.2.2.1))), (a0 8, .inl (cy 1, 10, .inl (gvm.2.2.2.2.2.2.2.2.2.2.1))), (a0 9, .inl (cy 1, 50, .inl (gvm.2.2.2.2.2.2.2.2.2.2.2)))] 10 rfl rfl rfl rfl rfl (by decide +kernel) (by decide +kernel) rfl) (fun r u H locs hw hP hD hS => ?_)
    obtain ⟨rfl, rfl⟩ := hw
    have hP : va_P (dC, dI) vwCl (w_X13_isOwner cy a0 v1.2 gvm gtd gfl grd gnv gac grc gim) H := hP
    have hD : va_D A (w_X13_isOwner cy a0 v1.2 gvm gtd gfl grd gnv gac grc gim) := hD
    obtain ⟨hz3, h⟩ := ok_if h
    exact W.zret (v := v1.1) (ty := .boolean) hx hb hr (isZ_nar hz3) (fun t ht hW => by rw [hqq]; have hh := Option.some.inj h; exact ⟨⟨v1.1, (v1.2), rfl, ⟨fst_of hh, snd_of hh⟩, by rw [ht]; exact hP, va_K.moved hW.alike hK⟩, hS.F ht⟩) hS.2.2 dX13_isOwner_22
  have c17 : ∀ (_u : Unit), ∀ (gth : Int32) (H : Heap) (locs : List Loc) (ls : Array Slot), p_X13_isOwner_17 gvm gth = some R0 → va_P (dC, dI) vwCl (w_X13_isOwner cy a0 gth gvm gtd gfl grd gnv gac grc gim) H → va_D A (w_X13_isOwner cy a0 gth gvm gtd gfl grd gnv gac grc gim) → va_S A s.heap H locs → lv_has ls 2 [] → W p l e rm_X13_isOwner s m aa below meth c H locs 0 0 (MQ below qq aa s 0 0 A) (F0 m 17 ls [.ref (a0 0)]) := by
    intro _ gth H locs ls h hP hD hS hl
    unfold p_X13_isOwner_17 at h
    refine lv_iconst (v := (0 : Int32)) hx hb dX13_isOwner_17 (by decide) ?_
    exact c18 () gth (0 : Int32) H locs ls h hP hD hS (lv_sub hl [] rfl)
  obtain ⟨H, hH⟩ : ∃ H : Heap, H = s.heap := ⟨_, rfl⟩
  obtain ⟨locs, hlocs⟩ : ∃ locs : List Loc, locs = [] := ⟨_, rfl⟩
  have hS : va_S A s.heap H locs := by rw [hH, hlocs]; exact hS
  rw [← hH] at hP
  suffices hg : W p l e rm_X13_isOwner s m aa below meth c H locs 0 0 (MQ below qq aa s 0 0 A) (F0 m 0 ls []) by subst hH; subst hlocs; exact hg
  unfold p_X13_isOwner at h
  refine lv_aload_n hx hb dX13_isOwner_0 rfl (lv_at hl 0 rfl) ?_
  refine lv_iload_n hx hb dX13_isOwner_1 rfl (lv_at hl 1 rfl) ?_
  refine lv_if_lt (tgt := 17) hx hb dX13_isOwner_2 (by decide) (fun c1 => ?_) (fun c1 => ?_)
  · rw [if_pos c1] at h
    exact c17 () gth H locs ls h hP hD hS (lv_sub hl [] rfl)
  · rw [if_neg c1] at h
    refine lv_iload_n hx hb dX13_isOwner_5 rfl (lv_at hl 1 rfl) ?_
    refine lv_aload_n hx hb dX13_isOwner_6 rfl (lv_at hl 0 rfl) ?_
    refine va_get (D := (dC, dI)) (ci := 11) (v := .int gvm.1) (C := RX13) (T := TX13) (N := 64) hx hb hts in_X13 hown hK hP 0 rfl rfl 1 (by decide) lk0 (fun _ h9 => h9) rfl dX13_isOwner_7 ?_
    refine lv_icmp_ge (tgt := 17) hx hb dX13_isOwner_10 (by decide) (fun c2 => ?_) (fun c2 => ?_)
    · rw [if_pos c2] at h
      exact c17 () gth H locs ls h hP hD hS (lv_sub hl [] rfl)
    · rw [if_neg c2] at h
      refine lv_iconst (v := (1 : Int32)) hx hb dX13_isOwner_13 (by decide) ?_
      refine lv_goto (tgt := 18) hx hb dX13_isOwner_14 (by decide) ?_
      exact c18 () gth (1 : Int32) H locs ls h hP hD hS (lv_sub hl [] rfl)

abbrev w_X13_isDoor (cy : Nat → ClassId) (a0 : Nat → Nat) (gth : Int32) (gvm : Int32 × Int32 × Int32 × (Nat → Int32) × (Nat → Int32) × (Nat → Int32) × (Nat → Int32) × (Nat → Int32) × (Nat → Int32) × (Nat → Int32) × (Nat → Int32) × (Nat → Int32)) (gtd : Int32) (gfl : Int32 × Int32) (grd : Int32 × Int32 × Int32 × Int32 × Int32 × Int32 × Int64 × (Nat → Int32)) (gnv : Int32 × Int32 × Int32 × Int32 × Int32 × (Nat → Int32) × (Nat → Int32) × (Nat → Int32) × (Nat → Int32) × (Nat → Int32) × (Nat → Int32)) (gac : Int32 × (Nat → Int32) × (Nat → Int32)) (grc : Int32 × (Nat → Int32)) (gim : Int32 × Int32 × Int32 × (Nat → Int32) × (Nat → Int32) × (Nat → Int32) × (Nat → Int32) × (Nat → Int32) × (Nat → Int32) × (Nat → Int32) × (Nat → Int32) × (Nat → Int32)) : va_W := [(a0 0, .inr (11, [.int (gth), .int (gvm.1), .int (gvm.2.1), .int (gvm.2.2.1), .ref (a0 1), .ref (a0 2), .ref (a0 3), .ref (a0 4), .ref (a0 5), .ref (a0 6), .ref (a0 7), .ref (a0 8), .ref (a0 9), .ref (a0 10), .int (gtd), .int (gfl.1), .int (gfl.2), .ref (a0 11), .int (grd.1), .int (grd.2.1), .int (grd.2.2.1), .int (grd.2.2.2.1), .int (grd.2.2.2.2.1), .int (grd.2.2.2.2.2.1), .long (grd.2.2.2.2.2.2.1), .ref (a0 12), .int (gnv.1), .int (gnv.2.1), .int (gnv.2.2.1), .int (gnv.2.2.2.1), .int (gnv.2.2.2.2.1), .ref (a0 13), .ref (a0 14), .ref (a0 15), .ref (a0 16), .ref (a0 17), .ref (a0 18), .int (gac.1), .ref (a0 19), .ref (a0 20), .ref (a0 21), .ref (a0 22), .ref (a0 23), .ref (a0 24), .ref (a0 25), .ref (a0 26), .ref (a0 27), .int (grc.1), .ref (a0 28), .ref (a0 29), .ref (a0 30), .ref (a0 31), .int (gim.1), .int (gim.2.1), .int (gim.2.2.1), .ref (a0 32), .ref (a0 33), .ref (a0 34), .ref (a0 35), .ref (a0 36), .ref (a0 37), .ref (a0 38), .ref (a0 39), .ref (a0 40)])), (a0 1, .inl (cy 1, 5, .inl (gvm.2.2.2.1))), (a0 2, .inl (cy 1, 5, .inl (gvm.2.2.2.2.1))), (a0 3, .inl (cy 1, 5, .inl (gvm.2.2.2.2.2.1))), (a0 4, .inl (cy 1, 25, .inl (gvm.2.2.2.2.2.2.1))), (a0 5, .inl (cy 1, 10, .inl (gvm.2.2.2.2.2.2.2.1))), (a0 6, .inl (cy 1, 10, .inl (gvm.2.2.2.2.2.2.2.2.1))), (a0 7, .inl (cy 1, 10, .inl (gvm.2.2.2.2.2.2.2.2.2.1))), (a0 8, .inl (cy 1, 10, .inl (gvm.2.2.2.2.2.2.2.2.2.2.1))), (a0 9, .inl (cy 1, 50, .inl (gvm.2.2.2.2.2.2.2.2.2.2.2)))]
abbrev rm_X13_isDoor : Room := { frames := 1, cells := 0, slots := 0, locals := 22 }
set_option maxHeartbeats 1000000 in
set_option maxRecDepth 100000 in
theorem c_X13_isDoor (l : Launch) (dC : Nat → ClassId) (dI : Nat → Nat → Nat) (cy : Nat → ClassId) (a0 : Nat → Nat) (gth : Int32) (gvm : Int32 × Int32 × Int32 × (Nat → Int32) × (Nat → Int32) × (Nat → Int32) × (Nat → Int32) × (Nat → Int32) × (Nat → Int32) × (Nat → Int32) × (Nat → Int32) × (Nat → Int32)) (gtd : Int32) (gfl : Int32 × Int32) (grd : Int32 × Int32 × Int32 × Int32 × Int32 × Int32 × Int64 × (Nat → Int32)) (gnv : Int32 × Int32 × Int32 × Int32 × Int32 × (Nat → Int32) × (Nat → Int32) × (Nat → Int32) × (Nat → Int32) × (Nat → Int32) × (Nat → Int32)) (gac : Int32 × (Nat → Int32) × (Nat → Int32)) (grc : Int32 × (Nat → Int32)) (gim : Int32 × Int32 × Int32 × (Nat → Int32) × (Nat → Int32) × (Nat → Int32) × (Nat → Int32) × (Nat → Int32) × (Nat → Int32) × (Nat → Int32) × (Nat → Int32) × (Nat → Int32)) (x1 : Int32) (sz : Nat) (R0 : Int32 × (Int32)) (h : p_X13_isDoor gth gvm x1 = some R0) : Met l yX13_isDoor wsX13_isDoor rm_X13_isDoor (va_Pc [.ref (a0 0), .int x1] (prC dC dI cy (w_X13_isDoor cy a0 gth gvm gtd gfl grd gnv gac grc gim) sz)) (va_Qi (fun (r : Int32) (u : (Int32)) => r = R0.1 ∧ u = R0.2) (fun (u : (Int32)) t => poC dC dI cy (w_X13_isDoor cy a0 u gvm gtd gfl grd gnv gac grc gim) t) (va_A (w_X13_isDoor cy a0 gth gvm gtd gfl grd gnv gac grc gim) sz)) 0 0 (va_A (w_X13_isDoor cy a0 gth gvm gtd gfl grd gnv gac grc gim) sz) := by
  refine Met.ofW (cc := cX13_isDoor) (maxL := 2) (ret := (some .boolean)) (by decide) rfl ?_
  intro p e s m aa below meth c s₁ B hml hv
  obtain ⟨haa, hsz, hP, hK, hD0⟩ := hv
  have hx := B.exec
  have hb := B.bytes
  have hr := B.returns
  have hts := atoms_spec (ws := wsX13_isDoor) B.pre
  have hown : s.vm.findClass RX13 = some m.cls := findClass_of_methodNamed B.named
  have hlocks := B.notSynchronized
  subst hsz
  have hD := hD0.self (sz := s.heap.size)
  obtain ⟨qq, hqq⟩ : ∃ qq, qq = (va_Qi (fun (r : Int32) (u : (Int32)) => r = R0.1 ∧ u = R0.2) (fun (u : (Int32)) t => poC dC dI cy (w_X13_isDoor cy a0 u gvm gtd gfl grd gnv gac grc gim) t) (va_A (w_X13_isDoor cy a0 gth gvm gtd gfl grd gnv gac grc gim) s.heap.size)) := ⟨_, rfl⟩
  rw [← hqq]
  generalize hAe : va_A (w_X13_isDoor cy a0 gth gvm gtd gfl grd gnv gac grc gim) s.heap.size = A at hD hqq ⊢
  have hA : ∀ q : Nat, s.heap.size ≤ q → A q := fun q h => by rw [← hAe]; exact Or.inr h
  have hS : va_S A s.heap s.heap [] := va_S.rf
  have hl := lv_entry ([.ref (a0 0), .int x1]) (n := 2) (Nat.le_of_ble_eq_true rfl)
  have hE : entryFrame m aa 2 = F0 m 0 ((lg_sl ([.ref (a0 0), .int x1]) ++ List.replicate (2 - (lg_sl ([.ref (a0 0), .int x1])).length) Slot.unset).toArray) [] := by rw [haa]; exact lg_entry_eq m _ 2
  refine W.eq hE ?_
  generalize (lg_sl ([.ref (a0 0), .int x1]) ++ List.replicate (2 - (lg_sl ([.ref (a0 0), .int x1])).length) Slot.unset).toArray = ls at hl ⊢
  have hl : lv_has ls 2 [(0, .ref (a0 0)), (1, .int x1)] := hl
  change W p l e rm_X13_isDoor s m aa below meth c s.heap [] 0 0 (MQ below qq aa s 0 0 A) (F0 m 0 ls [])
  have hS0 := hS
  have lk0 := hts (.fieldLink RX13 22 "GoatDoorsModel" "has" "[I") (by decide +kernel)
  have in_X13 : ∀ w ∈ wsX130, w ∈ wsX13_isDoor := by decide +kernel
  have c26 : ∀ (_u : Unit), ∀ (gth : Int32) (t1 : Int32) (H : Heap) (locs : List Loc) (ls : Array Slot), p_X13_isDoor_26 gvm gth t1 = some R0 → va_P (dC, dI) vwCl (w_X13_isDoor cy a0 gth gvm gtd gfl grd gnv gac grc gim) H → va_D A (w_X13_isDoor cy a0 gth gvm gtd gfl grd gnv gac grc gim) → va_S A s.heap H locs → lv_has ls 2 [] → W p l e rm_X13_isDoor s m aa below meth c H locs 0 0 (MQ below qq aa s 0 0 A) (F0 m 26 ls [.int t1, .ref (a0 0)]) := by
    intro _ gth t1 H locs ls h hP hD hS hl
    unfold p_X13_isDoor_26 at h
    refine lv_iconst (v := (1 : Int32)) hx hb dX13_isDoor_26 (by decide) ?_
    obtain ⟨v1, hv2, h⟩ := ok_bind h
    refine cl_vi (w2 := fun (u : (Int32)) => w_X13_isDoor cy a0 u gvm gtd gfl grd gnv gac grc gim) (As := [.int t1, .int (1 : Int32)]) (rest := []) ⟨hx, hb, hml, hown, hts⟩ (c_X13_right l dC dI cy a0 gth gvm gtd gfl grd gnv gac grc gim t1 (1 : Int32) H.size v1 hv2) (cwV 2 hts gX13_isDoor_X13_right rfl rfl rfl (by decide +kernel) ⟨Nat.le_of_ble_eq_true rfl, Nat.le_of_ble_eq_true rfl⟩) (va_recv hK hP (ci := 11) (q0 := 0) rfl rfl) cl_blind (cl_pre hK hP hD [0] (by decide) rfl) hP hD hS hA [0] rfl rfl hl.1 rfl (lv_room (Nat.le_of_ble_eq_true rfl)) dX13_isDoor_27 ⟨Nat.le_of_ble_eq_true rfl, Nat.le_of_ble_eq_true rfl⟩ ⟨rfl, rfl⟩ (fun _ => updM [0] [1, 2, 3, 4, 5, 6, 7, 8, 9] [(a0 1, .inl (cy 1, 5, .inl (gvm.2.2.2.1))), (a0 2, .inl (cy 1, 5, .inl (gvm.2.2.2.2.1))), (a0 3, .inl (cy 1, 5, .inl (gvm.2.2.2.2.2.1))), (a0 4, .inl (cy 1, 25, .inl (gvm.2.2.2.2.2.2.1))), (a0 5, .inl (cy 1, 10, .inl (gvm.2.2.2.2.2.2.2.1))), (a0 6, .inl (cy 1, 10, .inl (gvm.2.2.2.2.2.2.2.2.1))), (a0 7, .inl (cy 1, 10, .inl (gvm.2.2.2.2.2.2.2.2.2.1))), (a0 8, .inl (cy 1, 10, .inl (gvm.2.2.2.2.2.2.2.2.2.2.1))), (a0 9, .inl (cy 1, 50, .inl (gvm.2.2.2.2.2.2.2.2.2.2.2)))] 10 rfl rfl rfl rfl rfl (by decide +kernel) (by decide +kernel) rfl) (fun r u H locs hw hP hD hS => ?_)
    obtain ⟨rfl, rfl⟩ := hw
    have hP : va_P (dC, dI) vwCl (w_X13_isDoor cy a0 v1.2 gvm gtd gfl grd gnv gac grc gim) H := hP
    have hD : va_D A (w_X13_isDoor cy a0 v1.2 gvm gtd gfl grd gnv gac grc gim) := hD
    obtain ⟨hz3, h⟩ := ok_if h
    exact W.zret (v := v1.1) (ty := .boolean) hx hb hr (isZ_nar hz3) (fun t ht hW => by rw [hqq]; have hh := Option.some.inj h; exact ⟨⟨v1.1, (v1.2), rfl, ⟨fst_of hh, snd_of hh⟩, by rw [ht]; exact hP, va_K.moved hW.alike hK⟩, hS.F ht⟩) hS.2.2 dX13_isDoor_30
  have c25 : ∀ (_u : Unit), ∀ (gth : Int32) (H : Heap) (locs : List Loc) (ls : Array Slot), p_X13_isDoor_25 gvm gth = some R0 → va_P (dC, dI) vwCl (w_X13_isDoor cy a0 gth gvm gtd gfl grd gnv gac grc gim) H → va_D A (w_X13_isDoor cy a0 gth gvm gtd gfl grd gnv gac grc gim) → va_S A s.heap H locs → lv_has ls 2 [] → W p l e rm_X13_isDoor s m aa below meth c H locs 0 0 (MQ below qq aa s 0 0 A) (F0 m 25 ls [.ref (a0 0)]) := by
    intro _ gth H locs ls h hP hD hS hl
    unfold p_X13_isDoor_25 at h
    refine lv_iconst (v := (0 : Int32)) hx hb dX13_isDoor_25 (by decide) ?_
    exact c26 () gth (0 : Int32) H locs ls h hP hD hS (lv_sub hl [] rfl)
  obtain ⟨H, hH⟩ : ∃ H : Heap, H = s.heap := ⟨_, rfl⟩
  obtain ⟨locs, hlocs⟩ : ∃ locs : List Loc, locs = [] := ⟨_, rfl⟩
  have hS : va_S A s.heap H locs := by rw [hH, hlocs]; exact hS
  rw [← hH] at hP
  suffices hg : W p l e rm_X13_isDoor s m aa below meth c H locs 0 0 (MQ below qq aa s 0 0 A) (F0 m 0 ls []) by subst hH; subst hlocs; exact hg
  unfold p_X13_isDoor at h
  refine lv_aload_n hx hb dX13_isDoor_0 rfl (lv_at hl 0 rfl) ?_
  refine lv_iload_n hx hb dX13_isDoor_1 rfl (lv_at hl 1 rfl) ?_
  refine lv_if_lt (tgt := 25) hx hb dX13_isDoor_2 (by decide) (fun c1 => ?_) (fun c1 => ?_)
  · rw [if_pos c1] at h
    exact c25 () gth H locs ls h hP hD hS (lv_sub hl [] rfl)
  · rw [if_neg c1] at h
    refine lv_iload_n hx hb dX13_isDoor_5 rfl (lv_at hl 1 rfl) ?_
    refine lv_bipush (v := (10 : Int32)) hx hb dX13_isDoor_6 (by decide) ?_
    refine lv_icmp_ge (tgt := 25) hx hb dX13_isDoor_8 (by decide) (fun c2 => ?_) (fun c2 => ?_)
    · rw [if_pos c2] at h
      exact c25 () gth H locs ls h hP hD hS (lv_sub hl [] rfl)
    · rw [if_neg c2] at h
      refine lv_aload_n hx hb dX13_isDoor_11 rfl (lv_at hl 0 rfl) ?_
      refine va_get (D := (dC, dI)) (ci := 11) (v := .ref (a0 5)) (C := RX13) (T := TX13) (N := 64) hx hb hts in_X13 hown hK hP 0 rfl rfl 8 (by decide) lk0 (fun _ h9 => h9) rfl dX13_isDoor_12 ?_
      refine lv_iload_n hx hb dX13_isDoor_15 rfl (lv_at hl 1 rfl) ?_
      obtain ⟨hi3, h⟩ := ok_if h
      refine va_iald hx hb hK hP 5 1 rfl rfl (ix_in hi3) dX13_isDoor_16 ?_
      refine lv_iconst (v := (1 : Int32)) hx hb dX13_isDoor_17 (by decide) ?_
      refine lv_icmp_ne (tgt := 25) hx hb dX13_isDoor_18 (by decide) (fun c4 => ?_) (fun c4 => ?_)
      · rw [if_neg c4] at h
        exact c25 () gth H locs ls h hP hD hS (lv_sub hl [] rfl)
      · rw [if_pos c4] at h
        refine lv_iconst (v := (1 : Int32)) hx hb dX13_isDoor_21 (by decide) ?_
        refine lv_goto (tgt := 26) hx hb dX13_isDoor_22 (by decide) ?_
        exact c26 () gth (1 : Int32) H locs ls h hP hD hS (lv_sub hl [] rfl)

abbrev w_X13_isBase (cy : Nat → ClassId) (a0 : Nat → Nat) (gth : Int32) (gvm : Int32 × Int32 × Int32 × (Nat → Int32) × (Nat → Int32) × (Nat → Int32) × (Nat → Int32) × (Nat → Int32) × (Nat → Int32) × (Nat → Int32) × (Nat → Int32) × (Nat → Int32)) (gtd : Int32) (gfl : Int32 × Int32) (grd : Int32 × Int32 × Int32 × Int32 × Int32 × Int32 × Int64 × (Nat → Int32)) (gnv : Int32 × Int32 × Int32 × Int32 × Int32 × (Nat → Int32) × (Nat → Int32) × (Nat → Int32) × (Nat → Int32) × (Nat → Int32) × (Nat → Int32)) (gac : Int32 × (Nat → Int32) × (Nat → Int32)) (grc : Int32 × (Nat → Int32)) (gim : Int32 × Int32 × Int32 × (Nat → Int32) × (Nat → Int32) × (Nat → Int32) × (Nat → Int32) × (Nat → Int32) × (Nat → Int32) × (Nat → Int32) × (Nat → Int32) × (Nat → Int32)) : va_W := [(a0 0, .inr (11, [.int (gth), .int (gvm.1), .int (gvm.2.1), .int (gvm.2.2.1), .ref (a0 1), .ref (a0 2), .ref (a0 3), .ref (a0 4), .ref (a0 5), .ref (a0 6), .ref (a0 7), .ref (a0 8), .ref (a0 9), .ref (a0 10), .int (gtd), .int (gfl.1), .int (gfl.2), .ref (a0 11), .int (grd.1), .int (grd.2.1), .int (grd.2.2.1), .int (grd.2.2.2.1), .int (grd.2.2.2.2.1), .int (grd.2.2.2.2.2.1), .long (grd.2.2.2.2.2.2.1), .ref (a0 12), .int (gnv.1), .int (gnv.2.1), .int (gnv.2.2.1), .int (gnv.2.2.2.1), .int (gnv.2.2.2.2.1), .ref (a0 13), .ref (a0 14), .ref (a0 15), .ref (a0 16), .ref (a0 17), .ref (a0 18), .int (gac.1), .ref (a0 19), .ref (a0 20), .ref (a0 21), .ref (a0 22), .ref (a0 23), .ref (a0 24), .ref (a0 25), .ref (a0 26), .ref (a0 27), .int (grc.1), .ref (a0 28), .ref (a0 29), .ref (a0 30), .ref (a0 31), .int (gim.1), .int (gim.2.1), .int (gim.2.2.1), .ref (a0 32), .ref (a0 33), .ref (a0 34), .ref (a0 35), .ref (a0 36), .ref (a0 37), .ref (a0 38), .ref (a0 39), .ref (a0 40)]))]
abbrev rm_X13_isBase : Room := { frames := 1, cells := 0, slots := 0, locals := 22 }
set_option maxHeartbeats 1000000 in
set_option maxRecDepth 100000 in
theorem c_X13_isBase (l : Launch) (dC : Nat → ClassId) (dI : Nat → Nat → Nat) (cy : Nat → ClassId) (a0 : Nat → Nat) (gth : Int32) (gvm : Int32 × Int32 × Int32 × (Nat → Int32) × (Nat → Int32) × (Nat → Int32) × (Nat → Int32) × (Nat → Int32) × (Nat → Int32) × (Nat → Int32) × (Nat → Int32) × (Nat → Int32)) (gtd : Int32) (gfl : Int32 × Int32) (grd : Int32 × Int32 × Int32 × Int32 × Int32 × Int32 × Int64 × (Nat → Int32)) (gnv : Int32 × Int32 × Int32 × Int32 × Int32 × (Nat → Int32) × (Nat → Int32) × (Nat → Int32) × (Nat → Int32) × (Nat → Int32) × (Nat → Int32)) (gac : Int32 × (Nat → Int32) × (Nat → Int32)) (grc : Int32 × (Nat → Int32)) (gim : Int32 × Int32 × Int32 × (Nat → Int32) × (Nat → Int32) × (Nat → Int32) × (Nat → Int32) × (Nat → Int32) × (Nat → Int32) × (Nat → Int32) × (Nat → Int32) × (Nat → Int32)) (x1 : Int32) (x2 : Int32) (sz : Nat) (R0 : Int32 × (Int32)) (h : p_X13_isBase gth x1 x2 = some R0) : Met l yX13_isBase wsX13_isBase rm_X13_isBase (va_Pc [.ref (a0 0), .int x1, .int x2] (prC dC dI cy (w_X13_isBase cy a0 gth gvm gtd gfl grd gnv gac grc gim) sz)) (va_Qi (fun (r : Int32) (u : (Int32)) => r = R0.1 ∧ u = R0.2) (fun (u : (Int32)) t => poC dC dI cy (w_X13_isBase cy a0 u gvm gtd gfl grd gnv gac grc gim) t) (va_A (w_X13_isBase cy a0 gth gvm gtd gfl grd gnv gac grc gim) sz)) 0 0 (va_A (w_X13_isBase cy a0 gth gvm gtd gfl grd gnv gac grc gim) sz) := by
  refine Met.ofW (cc := cX13_isBase) (maxL := 3) (ret := (some .boolean)) (by decide) rfl ?_
  intro p e s m aa below meth c s₁ B hml hv
  obtain ⟨haa, hsz, hP, hK, hD0⟩ := hv
  have hx := B.exec
  have hb := B.bytes
  have hr := B.returns
  have hts := atoms_spec (ws := wsX13_isBase) B.pre
  have hown : s.vm.findClass RX13 = some m.cls := findClass_of_methodNamed B.named
  have hlocks := B.notSynchronized
  subst hsz
  have hD := hD0.self (sz := s.heap.size)
  obtain ⟨qq, hqq⟩ : ∃ qq, qq = (va_Qi (fun (r : Int32) (u : (Int32)) => r = R0.1 ∧ u = R0.2) (fun (u : (Int32)) t => poC dC dI cy (w_X13_isBase cy a0 u gvm gtd gfl grd gnv gac grc gim) t) (va_A (w_X13_isBase cy a0 gth gvm gtd gfl grd gnv gac grc gim) s.heap.size)) := ⟨_, rfl⟩
  rw [← hqq]
  generalize hAe : va_A (w_X13_isBase cy a0 gth gvm gtd gfl grd gnv gac grc gim) s.heap.size = A at hD hqq ⊢
  have hA : ∀ q : Nat, s.heap.size ≤ q → A q := fun q h => by rw [← hAe]; exact Or.inr h
  have hS : va_S A s.heap s.heap [] := va_S.rf
  have hl := lv_entry ([.ref (a0 0), .int x1, .int x2]) (n := 3) (Nat.le_of_ble_eq_true rfl)
  have hE : entryFrame m aa 3 = F0 m 0 ((lg_sl ([.ref (a0 0), .int x1, .int x2]) ++ List.replicate (3 - (lg_sl ([.ref (a0 0), .int x1, .int x2])).length) Slot.unset).toArray) [] := by rw [haa]; exact lg_entry_eq m _ 3
  refine W.eq hE ?_
  generalize (lg_sl ([.ref (a0 0), .int x1, .int x2]) ++ List.replicate (3 - (lg_sl ([.ref (a0 0), .int x1, .int x2])).length) Slot.unset).toArray = ls at hl ⊢
  have hl : lv_has ls 3 [(0, .ref (a0 0)), (1, .int x1), (2, .int x2)] := hl
  change W p l e rm_X13_isBase s m aa below meth c s.heap [] 0 0 (MQ below qq aa s 0 0 A) (F0 m 0 ls [])
  have hS0 := hS
  obtain ⟨H, hH⟩ : ∃ H : Heap, H = s.heap := ⟨_, rfl⟩
  obtain ⟨locs, hlocs⟩ : ∃ locs : List Loc, locs = [] := ⟨_, rfl⟩
  have hS : va_S A s.heap H locs := by rw [hH, hlocs]; exact hS
  rw [← hH] at hP
  suffices hg : W p l e rm_X13_isBase s m aa below meth c H locs 0 0 (MQ below qq aa s 0 0 A) (F0 m 0 ls []) by subst hH; subst hlocs; exact hg
  unfold p_X13_isBase at h
  refine lv_aload_n hx hb dX13_isBase_0 rfl (lv_at hl 0 rfl) ?_
  refine lv_iload_n hx hb dX13_isBase_1 rfl (lv_at hl 1 rfl) ?_
  refine lv_iconst (v := (0 : Int32)) hx hb dX13_isBase_2 (by decide) ?_
  refine lv_bipush (v := (40 : Int32)) hx hb dX13_isBase_3 (by decide) ?_
  obtain ⟨v1, hv2, h⟩ := ok_bind h
  refine cl_si (w2 := fun (_ : Unit) => w_X13_isBase cy a0 gth gvm gtd gfl grd gnv gac grc gim) (As := [.int x1, .int (0 : Int32), .int (40 : Int32)]) (rest := [.ref (a0 0)]) ⟨hx, hb, hml, hown, hts⟩ (c_X13_within l dC dI cy  x1 (0 : Int32) (40 : Int32) H.size v1 hv2) (va_cwS 3 hts gX13_isBase_X13_within rfl rfl rfl (by decide +kernel) ⟨Nat.le_of_ble_eq_true rfl, Nat.le_of_ble_eq_true rfl⟩) cl_blind (cl_pre hK hP hD [] (by decide) rfl) hP hD hS hA [] rfl rfl hl.1 rfl (lv_room (Nat.le_of_ble_eq_true rfl)) dX13_isBase_5 ⟨Nat.le_of_ble_eq_true rfl, Nat.le_of_ble_eq_true rfl⟩ ⟨rfl, rfl⟩ (fun _ => updR [] rfl) (fun r u H locs hw hP hD hS => ?_)
  have hw := hw.symm
  subst hw
  have hP : va_P (dC, dI) vwCl (w_X13_isBase cy a0 gth gvm gtd gfl grd gnv gac grc gim) H := hP
  have hD : va_D A (w_X13_isBase cy a0 gth gvm gtd gfl grd gnv gac grc gim) := hD
  refine lv_iload_n hx hb dX13_isBase_8 rfl (lv_at hl 2 rfl) ?_
  obtain ⟨v3, hv4, h⟩ := ok_bind h
  refine cl_vi (w2 := fun (u : (Int32)) => w_X13_isBase cy a0 u gvm gtd gfl grd gnv gac grc gim) (As := [.int v1, .int x2]) (rest := []) ⟨hx, hb, hml, hown, hts⟩ (c_X13_right l dC dI cy a0 gth gvm gtd gfl grd gnv gac grc gim v1 x2 H.size v3 hv4) (cwV 2 hts gX13_isBase_X13_right rfl rfl rfl (by decide +kernel) ⟨Nat.le_of_ble_eq_true rfl, Nat.le_of_ble_eq_true rfl⟩) (va_recv hK hP (ci := 11) (q0 := 0) rfl rfl) cl_blind (cl_pre hK hP hD [0] (by decide) rfl) hP hD hS hA [0] rfl rfl hl.1 rfl (lv_room (Nat.le_of_ble_eq_true rfl)) dX13_isBase_9 ⟨Nat.le_of_ble_eq_true rfl, Nat.le_of_ble_eq_true rfl⟩ ⟨rfl, rfl⟩ (fun _ => updM [0] [] [] 1 rfl rfl rfl rfl rfl (by decide +kernel) (by decide +kernel) rfl) (fun r u H locs hw hP hD hS => ?_)
  obtain ⟨rfl, rfl⟩ := hw
  have hP : va_P (dC, dI) vwCl (w_X13_isBase cy a0 v3.2 gvm gtd gfl grd gnv gac grc gim) H := hP
  have hD : va_D A (w_X13_isBase cy a0 v3.2 gvm gtd gfl grd gnv gac grc gim) := hD
  obtain ⟨hz5, h⟩ := ok_if h
  exact W.zret (v := v3.1) (ty := .boolean) hx hb hr (isZ_nar hz5) (fun t ht hW => by rw [hqq]; have hh := Option.some.inj h; exact ⟨⟨v3.1, (v3.2), rfl, ⟨fst_of hh, snd_of hh⟩, by rw [ht]; exact hP, va_K.moved hW.alike hK⟩, hS.F ht⟩) hS.2.2 dX13_isBase_12

abbrev w_X13_isSpan (cy : Nat → ClassId) (a0 : Nat → Nat) (gth : Int32) (gvm : Int32 × Int32 × Int32 × (Nat → Int32) × (Nat → Int32) × (Nat → Int32) × (Nat → Int32) × (Nat → Int32) × (Nat → Int32) × (Nat → Int32) × (Nat → Int32) × (Nat → Int32)) (gtd : Int32) (gfl : Int32 × Int32) (grd : Int32 × Int32 × Int32 × Int32 × Int32 × Int32 × Int64 × (Nat → Int32)) (gnv : Int32 × Int32 × Int32 × Int32 × Int32 × (Nat → Int32) × (Nat → Int32) × (Nat → Int32) × (Nat → Int32) × (Nat → Int32) × (Nat → Int32)) (gac : Int32 × (Nat → Int32) × (Nat → Int32)) (grc : Int32 × (Nat → Int32)) (gim : Int32 × Int32 × Int32 × (Nat → Int32) × (Nat → Int32) × (Nat → Int32) × (Nat → Int32) × (Nat → Int32) × (Nat → Int32) × (Nat → Int32) × (Nat → Int32) × (Nat → Int32)) : va_W := [(a0 0, .inr (11, [.int (gth), .int (gvm.1), .int (gvm.2.1), .int (gvm.2.2.1), .ref (a0 1), .ref (a0 2), .ref (a0 3), .ref (a0 4), .ref (a0 5), .ref (a0 6), .ref (a0 7), .ref (a0 8), .ref (a0 9), .ref (a0 10), .int (gtd), .int (gfl.1), .int (gfl.2), .ref (a0 11), .int (grd.1), .int (grd.2.1), .int (grd.2.2.1), .int (grd.2.2.2.1), .int (grd.2.2.2.2.1), .int (grd.2.2.2.2.2.1), .long (grd.2.2.2.2.2.2.1), .ref (a0 12), .int (gnv.1), .int (gnv.2.1), .int (gnv.2.2.1), .int (gnv.2.2.2.1), .int (gnv.2.2.2.2.1), .ref (a0 13), .ref (a0 14), .ref (a0 15), .ref (a0 16), .ref (a0 17), .ref (a0 18), .int (gac.1), .ref (a0 19), .ref (a0 20), .ref (a0 21), .ref (a0 22), .ref (a0 23), .ref (a0 24), .ref (a0 25), .ref (a0 26), .ref (a0 27), .int (grc.1), .ref (a0 28), .ref (a0 29), .ref (a0 30), .ref (a0 31), .int (gim.1), .int (gim.2.1), .int (gim.2.2.1), .ref (a0 32), .ref (a0 33), .ref (a0 34), .ref (a0 35), .ref (a0 36), .ref (a0 37), .ref (a0 38), .ref (a0 39), .ref (a0 40)]))]
abbrev rm_X13_isSpan : Room := { frames := 1, cells := 0, slots := 0, locals := 22 }
set_option maxHeartbeats 1000000 in
set_option maxRecDepth 100000 in
theorem c_X13_isSpan (l : Launch) (dC : Nat → ClassId) (dI : Nat → Nat → Nat) (cy : Nat → ClassId) (a0 : Nat → Nat) (gth : Int32) (gvm : Int32 × Int32 × Int32 × (Nat → Int32) × (Nat → Int32) × (Nat → Int32) × (Nat → Int32) × (Nat → Int32) × (Nat → Int32) × (Nat → Int32) × (Nat → Int32) × (Nat → Int32)) (gtd : Int32) (gfl : Int32 × Int32) (grd : Int32 × Int32 × Int32 × Int32 × Int32 × Int32 × Int64 × (Nat → Int32)) (gnv : Int32 × Int32 × Int32 × Int32 × Int32 × (Nat → Int32) × (Nat → Int32) × (Nat → Int32) × (Nat → Int32) × (Nat → Int32) × (Nat → Int32)) (gac : Int32 × (Nat → Int32) × (Nat → Int32)) (grc : Int32 × (Nat → Int32)) (gim : Int32 × Int32 × Int32 × (Nat → Int32) × (Nat → Int32) × (Nat → Int32) × (Nat → Int32) × (Nat → Int32) × (Nat → Int32) × (Nat → Int32) × (Nat → Int32) × (Nat → Int32)) (x1 : Int32) (x2 : Int32) (x3 : Int32) (sz : Nat) (R0 : Int32 × (Int32)) (h : p_X13_isSpan gth x1 x2 x3 = some R0) : Met l yX13_isSpan wsX13_isSpan rm_X13_isSpan (va_Pc [.ref (a0 0), .int x1, .int x2, .int x3] (prC dC dI cy (w_X13_isSpan cy a0 gth gvm gtd gfl grd gnv gac grc gim) sz)) (va_Qi (fun (r : Int32) (u : (Int32)) => r = R0.1 ∧ u = R0.2) (fun (u : (Int32)) t => poC dC dI cy (w_X13_isSpan cy a0 u gvm gtd gfl grd gnv gac grc gim) t) (va_A (w_X13_isSpan cy a0 gth gvm gtd gfl grd gnv gac grc gim) sz)) 0 0 (va_A (w_X13_isSpan cy a0 gth gvm gtd gfl grd gnv gac grc gim) sz) := by
  refine Met.ofW (cc := cX13_isSpan) (maxL := 4) (ret := (some .boolean)) (by decide) rfl ?_
  intro p e s m aa below meth c s₁ B hml hv
  obtain ⟨haa, hsz, hP, hK, hD0⟩ := hv
  have hx := B.exec
  have hb := B.bytes
  have hr := B.returns
  have hts := atoms_spec (ws := wsX13_isSpan) B.pre
  have hown : s.vm.findClass RX13 = some m.cls := findClass_of_methodNamed B.named
  have hlocks := B.notSynchronized
  subst hsz
  have hD := hD0.self (sz := s.heap.size)
  obtain ⟨qq, hqq⟩ : ∃ qq, qq = (va_Qi (fun (r : Int32) (u : (Int32)) => r = R0.1 ∧ u = R0.2) (fun (u : (Int32)) t => poC dC dI cy (w_X13_isSpan cy a0 u gvm gtd gfl grd gnv gac grc gim) t) (va_A (w_X13_isSpan cy a0 gth gvm gtd gfl grd gnv gac grc gim) s.heap.size)) := ⟨_, rfl⟩
  rw [← hqq]
  generalize hAe : va_A (w_X13_isSpan cy a0 gth gvm gtd gfl grd gnv gac grc gim) s.heap.size = A at hD hqq ⊢
  have hA : ∀ q : Nat, s.heap.size ≤ q → A q := fun q h => by rw [← hAe]; exact Or.inr h
  have hS : va_S A s.heap s.heap [] := va_S.rf
  have hl := lv_entry ([.ref (a0 0), .int x1, .int x2, .int x3]) (n := 4) (Nat.le_of_ble_eq_true rfl)
  have hE : entryFrame m aa 4 = F0 m 0 ((lg_sl ([.ref (a0 0), .int x1, .int x2, .int x3]) ++ List.replicate (4 - (lg_sl ([.ref (a0 0), .int x1, .int x2, .int x3])).length) Slot.unset).toArray) [] := by rw [haa]; exact lg_entry_eq m _ 4
  refine W.eq hE ?_
  generalize (lg_sl ([.ref (a0 0), .int x1, .int x2, .int x3]) ++ List.replicate (4 - (lg_sl ([.ref (a0 0), .int x1, .int x2, .int x3])).length) Slot.unset).toArray = ls at hl ⊢
  have hl : lv_has ls 4 [(0, .ref (a0 0)), (1, .int x1), (2, .int x2), (3, .int x3)] := hl
  change W p l e rm_X13_isSpan s m aa below meth c s.heap [] 0 0 (MQ below qq aa s 0 0 A) (F0 m 0 ls [])
  have hS0 := hS
  have c21 : ∀ (_u : Unit), ∀ (gth : Int32) (x3 : Int32) (t1 : Int32) (H : Heap) (locs : List Loc) (ls : Array Slot), p_X13_isSpan_21 gth x3 t1 = some R0 → va_P (dC, dI) vwCl (w_X13_isSpan cy a0 gth gvm gtd gfl grd gnv gac grc gim) H → va_D A (w_X13_isSpan cy a0 gth gvm gtd gfl grd gnv gac grc gim) → va_S A s.heap H locs → lv_has ls 4 [(3, .int x3)] → W p l e rm_X13_isSpan s m aa below meth c H locs 0 0 (MQ below qq aa s 0 0 A) (F0 m 21 ls [.int t1, .ref (a0 0)]) := by
    intro _ gth x3 t1 H locs ls h hP hD hS hl
    unfold p_X13_isSpan_21 at h
    refine lv_iload_n hx hb dX13_isSpan_21 rfl (lv_at hl 0 rfl) ?_
    obtain ⟨v1, hv2, h⟩ := ok_bind h
    refine cl_vi (w2 := fun (u : (Int32)) => w_X13_isSpan cy a0 u gvm gtd gfl grd gnv gac grc gim) (As := [.int t1, .int x3]) (rest := []) ⟨hx, hb, hml, hown, hts⟩ (c_X13_right l dC dI cy a0 gth gvm gtd gfl grd gnv gac grc gim t1 x3 H.size v1 hv2) (cwV 2 hts gX13_isSpan_X13_right rfl rfl rfl (by decide +kernel) ⟨Nat.le_of_ble_eq_true rfl, Nat.le_of_ble_eq_true rfl⟩) (va_recv hK hP (ci := 11) (q0 := 0) rfl rfl) cl_blind (cl_pre hK hP hD [0] (by decide) rfl) hP hD hS hA [0] rfl rfl hl.1 rfl (lv_room (Nat.le_of_ble_eq_true rfl)) dX13_isSpan_22 ⟨Nat.le_of_ble_eq_true rfl, Nat.le_of_ble_eq_true rfl⟩ ⟨rfl, rfl⟩ (fun _ => updM [0] [] [] 1 rfl rfl rfl rfl rfl (by decide +kernel) (by decide +kernel) rfl) (fun r u H locs hw hP hD hS => ?_)
    obtain ⟨rfl, rfl⟩ := hw
    have hP : va_P (dC, dI) vwCl (w_X13_isSpan cy a0 v1.2 gvm gtd gfl grd gnv gac grc gim) H := hP
    have hD : va_D A (w_X13_isSpan cy a0 v1.2 gvm gtd gfl grd gnv gac grc gim) := hD
    obtain ⟨hz3, h⟩ := ok_if h
    exact W.zret (v := v1.1) (ty := .boolean) hx hb hr (isZ_nar hz3) (fun t ht hW => by rw [hqq]; have hh := Option.some.inj h; exact ⟨⟨v1.1, (v1.2), rfl, ⟨fst_of hh, snd_of hh⟩, by rw [ht]; exact hP, va_K.moved hW.alike hK⟩, hS.F ht⟩) hS.2.2 dX13_isSpan_25
  have c20 : ∀ (_u : Unit), ∀ (gth : Int32) (x3 : Int32) (H : Heap) (locs : List Loc) (ls : Array Slot), p_X13_isSpan_20 gth x3 = some R0 → va_P (dC, dI) vwCl (w_X13_isSpan cy a0 gth gvm gtd gfl grd gnv gac grc gim) H → va_D A (w_X13_isSpan cy a0 gth gvm gtd gfl grd gnv gac grc gim) → va_S A s.heap H locs → lv_has ls 4 [(3, .int x3)] → W p l e rm_X13_isSpan s m aa below meth c H locs 0 0 (MQ below qq aa s 0 0 A) (F0 m 20 ls [.ref (a0 0)]) := by
    intro _ gth x3 H locs ls h hP hD hS hl
    unfold p_X13_isSpan_20 at h
    refine lv_iconst (v := (0 : Int32)) hx hb dX13_isSpan_20 (by decide) ?_
    exact c21 () gth x3 (0 : Int32) H locs ls h hP hD hS (lv_sub hl [0] rfl)
  obtain ⟨H, hH⟩ : ∃ H : Heap, H = s.heap := ⟨_, rfl⟩
  obtain ⟨locs, hlocs⟩ : ∃ locs : List Loc, locs = [] := ⟨_, rfl⟩
  have hS : va_S A s.heap H locs := by rw [hH, hlocs]; exact hS
  rw [← hH] at hP
  suffices hg : W p l e rm_X13_isSpan s m aa below meth c H locs 0 0 (MQ below qq aa s 0 0 A) (F0 m 0 ls []) by subst hH; subst hlocs; exact hg
  unfold p_X13_isSpan at h
  refine lv_aload_n hx hb dX13_isSpan_0 rfl (lv_at hl 0 rfl) ?_
  refine lv_iload_n hx hb dX13_isSpan_1 rfl (lv_at hl 1 rfl) ?_
  refine lv_if_lt (tgt := 20) hx hb dX13_isSpan_2 (by decide) (fun c1 => ?_) (fun c1 => ?_)
  · rw [if_pos c1] at h
    exact c20 () gth x3 H locs ls h hP hD hS (lv_sub hl [3] rfl)
  · rw [if_neg c1] at h
    refine lv_iload_n hx hb dX13_isSpan_5 rfl (lv_at hl 2 rfl) ?_
    refine lv_bipush (v := (40 : Int32)) hx hb dX13_isSpan_6 (by decide) ?_
    refine lv_icmp_gt (tgt := 20) hx hb dX13_isSpan_8 (by decide) (fun c2 => ?_) (fun c2 => ?_)
    · rw [if_pos c2] at h
      exact c20 () gth x3 H locs ls h hP hD hS (lv_sub hl [3] rfl)
    · rw [if_neg c2] at h
      refine lv_iload_n hx hb dX13_isSpan_11 rfl (lv_at hl 1 rfl) ?_
      refine lv_iload_n hx hb dX13_isSpan_12 rfl (lv_at hl 2 rfl) ?_
      refine lv_icmp_gt (tgt := 20) hx hb dX13_isSpan_13 (by decide) (fun c3 => ?_) (fun c3 => ?_)
      · rw [if_pos c3] at h
        exact c20 () gth x3 H locs ls h hP hD hS (lv_sub hl [3] rfl)
      · rw [if_neg c3] at h
        refine lv_iconst (v := (1 : Int32)) hx hb dX13_isSpan_16 (by decide) ?_
        refine lv_goto (tgt := 21) hx hb dX13_isSpan_17 (by decide) ?_
        exact c21 () gth x3 (1 : Int32) H locs ls h hP hD hS (lv_sub hl [3] rfl)

abbrev w_X13_count (cy : Nat → ClassId) (a0 : Nat → Nat) (gth : Int32) (gvm : Int32 × Int32 × Int32 × (Nat → Int32) × (Nat → Int32) × (Nat → Int32) × (Nat → Int32) × (Nat → Int32) × (Nat → Int32) × (Nat → Int32) × (Nat → Int32) × (Nat → Int32)) (gtd : Int32) (gfl : Int32 × Int32) (grf : (Nat → Int32)) (grd : Int32 × Int32 × Int32 × Int32 × Int32 × Int32 × Int64 × (Nat → Int32)) (gnv : Int32 × Int32 × Int32 × Int32 × Int32 × (Nat → Int32) × (Nat → Int32) × (Nat → Int32) × (Nat → Int32) × (Nat → Int32) × (Nat → Int32)) (gac : Int32 × (Nat → Int32) × (Nat → Int32)) (grc : Int32 × (Nat → Int32)) (gim : Int32 × Int32 × Int32 × (Nat → Int32) × (Nat → Int32) × (Nat → Int32) × (Nat → Int32) × (Nat → Int32) × (Nat → Int32) × (Nat → Int32) × (Nat → Int32) × (Nat → Int32)) : va_W := [(a0 0, .inr (11, [.int (gth), .int (gvm.1), .int (gvm.2.1), .int (gvm.2.2.1), .ref (a0 1), .ref (a0 2), .ref (a0 3), .ref (a0 4), .ref (a0 5), .ref (a0 6), .ref (a0 7), .ref (a0 8), .ref (a0 9), .ref (a0 10), .int (gtd), .int (gfl.1), .int (gfl.2), .ref (a0 11), .int (grd.1), .int (grd.2.1), .int (grd.2.2.1), .int (grd.2.2.2.1), .int (grd.2.2.2.2.1), .int (grd.2.2.2.2.2.1), .long (grd.2.2.2.2.2.2.1), .ref (a0 12), .int (gnv.1), .int (gnv.2.1), .int (gnv.2.2.1), .int (gnv.2.2.2.1), .int (gnv.2.2.2.2.1), .ref (a0 13), .ref (a0 14), .ref (a0 15), .ref (a0 16), .ref (a0 17), .ref (a0 18), .int (gac.1), .ref (a0 19), .ref (a0 20), .ref (a0 21), .ref (a0 22), .ref (a0 23), .ref (a0 24), .ref (a0 25), .ref (a0 26), .ref (a0 27), .int (grc.1), .ref (a0 28), .ref (a0 29), .ref (a0 30), .ref (a0 31), .int (gim.1), .int (gim.2.1), .int (gim.2.2.1), .ref (a0 32), .ref (a0 33), .ref (a0 34), .ref (a0 35), .ref (a0 36), .ref (a0 37), .ref (a0 38), .ref (a0 39), .ref (a0 40)])), (a0 1, .inl (cy 1, 5, .inl (gvm.2.2.2.1))), (a0 2, .inl (cy 1, 5, .inl (gvm.2.2.2.2.1))), (a0 3, .inl (cy 1, 5, .inl (gvm.2.2.2.2.2.1))), (a0 4, .inl (cy 1, 25, .inl (gvm.2.2.2.2.2.2.1))), (a0 5, .inl (cy 1, 10, .inl (gvm.2.2.2.2.2.2.2.1))), (a0 6, .inl (cy 1, 10, .inl (gvm.2.2.2.2.2.2.2.2.1))), (a0 7, .inl (cy 1, 10, .inl (gvm.2.2.2.2.2.2.2.2.2.1))), (a0 8, .inl (cy 1, 10, .inl (gvm.2.2.2.2.2.2.2.2.2.2.1))), (a0 9, .inl (cy 1, 50, .inl (gvm.2.2.2.2.2.2.2.2.2.2.2))), (a0 11, .inl (cy 1, 3, .inl (grf))), (a0 28, .inl (cy 1, 36, .inl (grc.2)))]
abbrev rm_X13_count : Room := { frames := 1, cells := 0, slots := 0, locals := 22 }
set_option maxHeartbeats 1000000 in
set_option maxRecDepth 100000 in
theorem c_X13_count (l : Launch) (dC : Nat → ClassId) (dI : Nat → Nat → Nat) (cy : Nat → ClassId) (a0 : Nat → Nat) (gth : Int32) (gvm : Int32 × Int32 × Int32 × (Nat → Int32) × (Nat → Int32) × (Nat → Int32) × (Nat → Int32) × (Nat → Int32) × (Nat → Int32) × (Nat → Int32) × (Nat → Int32) × (Nat → Int32)) (gtd : Int32) (gfl : Int32 × Int32) (grf : (Nat → Int32)) (grd : Int32 × Int32 × Int32 × Int32 × Int32 × Int32 × Int64 × (Nat → Int32)) (gnv : Int32 × Int32 × Int32 × Int32 × Int32 × (Nat → Int32) × (Nat → Int32) × (Nat → Int32) × (Nat → Int32) × (Nat → Int32) × (Nat → Int32)) (gac : Int32 × (Nat → Int32) × (Nat → Int32)) (grc : Int32 × (Nat → Int32)) (gim : Int32 × Int32 × Int32 × (Nat → Int32) × (Nat → Int32) × (Nat → Int32) × (Nat → Int32) × (Nat → Int32) × (Nat → Int32) × (Nat → Int32) × (Nat → Int32) × (Nat → Int32)) (x1 : Int32) (sz : Nat) (R0 : Int32 × (Int32)) (h : p_X13_count gth gvm gtd grf grc x1 = some R0) : Met l yX13_count wsX13_count rm_X13_count (va_Pc [.ref (a0 0), .int x1] (prC dC dI cy (w_X13_count cy a0 gth gvm gtd gfl grf grd gnv gac grc gim) sz)) (va_Qi (fun (r : Int32) (u : (Int32)) => r = R0.1 ∧ u = R0.2) (fun (u : (Int32)) t => poC dC dI cy (w_X13_count cy a0 u gvm gtd gfl grf grd gnv gac grc gim) t) (va_A (w_X13_count cy a0 gth gvm gtd gfl grf grd gnv gac grc gim) sz)) 0 0 (va_A (w_X13_count cy a0 gth gvm gtd gfl grf grd gnv gac grc gim) sz) := by
  refine Met.ofW (cc := cX13_count) (maxL := 4) (ret := (some .int)) (by decide) rfl ?_
  intro p e s m aa below meth c s₁ B hml hv
  obtain ⟨haa, hsz, hP, hK, hD0⟩ := hv
  have hx := B.exec
  have hb := B.bytes
  have hr := B.returns
  have hts := atoms_spec (ws := wsX13_count) B.pre
  have hown : s.vm.findClass RX13 = some m.cls := findClass_of_methodNamed B.named
  have hlocks := B.notSynchronized
  subst hsz
  have hD := hD0.self (sz := s.heap.size)
  obtain ⟨qq, hqq⟩ : ∃ qq, qq = (va_Qi (fun (r : Int32) (u : (Int32)) => r = R0.1 ∧ u = R0.2) (fun (u : (Int32)) t => poC dC dI cy (w_X13_count cy a0 u gvm gtd gfl grf grd gnv gac grc gim) t) (va_A (w_X13_count cy a0 gth gvm gtd gfl grf grd gnv gac grc gim) s.heap.size)) := ⟨_, rfl⟩
  rw [← hqq]
  generalize hAe : va_A (w_X13_count cy a0 gth gvm gtd gfl grf grd gnv gac grc gim) s.heap.size = A at hD hqq ⊢
  have hA : ∀ q : Nat, s.heap.size ≤ q → A q := fun q h => by rw [← hAe]; exact Or.inr h
  have hS : va_S A s.heap s.heap [] := va_S.rf
  have hl := lv_entry ([.ref (a0 0), .int x1]) (n := 4) (Nat.le_of_ble_eq_true rfl)
  have hE : entryFrame m aa 4 = F0 m 0 ((lg_sl ([.ref (a0 0), .int x1]) ++ List.replicate (4 - (lg_sl ([.ref (a0 0), .int x1])).length) Slot.unset).toArray) [] := by rw [haa]; exact lg_entry_eq m _ 4
  refine W.eq hE ?_
  generalize (lg_sl ([.ref (a0 0), .int x1]) ++ List.replicate (4 - (lg_sl ([.ref (a0 0), .int x1])).length) Slot.unset).toArray = ls at hl ⊢
  have hl : lv_has ls 4 [(0, .ref (a0 0)), (1, .int x1)] := hl
  change W p l e rm_X13_count s m aa below meth c s.heap [] 0 0 (MQ below qq aa s 0 0 A) (F0 m 0 ls [])
  have hS0 := hS
  have lk0 := hts (.fieldLink RX13 245 "GoatDoorsModel" "owners" "I") (by decide +kernel)
  have lk1 := hts (.fieldLink RX13 248 "GoatDoorsModel" "law" "I") (by decide +kernel)
  have lk2 := hts (.fieldLink RX13 251 "GoatDoorsModel" "base" "I") (by decide +kernel)
  have lk3 := hts (.fieldLink RX13 261 "GoatDoorsModel" "receipts" "I") (by decide +kernel)
  have lk4 := hts (.fieldLink RX13 138 "GoatDoorsModel" "taped" "I") (by decide +kernel)
  have lk5 := hts (.fieldLink RX13 44 "GoatDoorsModel" "refused" "[I") (by decide +kernel)
  have lk6 := hts (.fieldLink RX13 22 "GoatDoorsModel" "has" "[I") (by decide +kernel)
  have lk7 := hts (.fieldLink RX13 135 "GoatDoorsModel" "thrown" "I") (by decide +kernel)
  have in_X13 : ∀ w ∈ wsX130, w ∈ wsX13_count := by decide +kernel
  have c26 : ∀ (n : Nat), ∀ (gth : Int32) (x1 : Int32) (x2 : Int32) (x3 : Int32) (H : Heap) (locs : List Loc) (ls : Array Slot), p_X13_count_26 gvm gtd grf grc n gth x1 x2 x3 = some R0 → va_P (dC, dI) vwCl (w_X13_count cy a0 gth gvm gtd gfl grf grd gnv gac grc gim) H → va_D A (w_X13_count cy a0 gth gvm gtd gfl grf grd gnv gac grc gim) → va_S A s.heap H locs → lv_has ls 4 [(0, .ref (a0 0)), (1, .int x1), (2, .int x2), (3, .int x3)] → W p l e rm_X13_count s m aa below meth c H locs 0 0 (MQ below qq aa s 0 0 A) (F0 m 26 ls []) := by
    intro  n
    induction n with
    | zero => intro gth x1 x2 x3 H locs ls h; exact no_some h
    | succ n ih =>
      intro gth x1 x2 x3 H locs ls h hP hD hS hl
      rw [p_X13_count_26.eq_2] at h
      refine lv_iload_n hx hb dX13_count_26 rfl (lv_at hl 3 rfl) ?_
      refine lv_bipush (v := (10 : Int32)) hx hb dX13_count_27 (by decide) ?_
      refine lv_icmp_ge (tgt := 49) hx hb dX13_count_29 (by decide) (fun c1 => ?_) (fun c1 => ?_)
      · rw [if_pos c1] at h
        refine lv_iload_n hx hb dX13_count_49 rfl (lv_at hl 1 rfl) ?_
        by_cases c2 : x1 = (0 : Int32)
        · rw [if_pos c2] at h
          refine lv_tableIn (off := 42) (tgt := 92) hx hb dX13_count_50 (by rw [c2]; decide) (by rw [c2]; decide) (by rw [c2]; decide) (by decide) ?_
          refine lv_aload_n hx hb dX13_count_92 rfl (lv_at hl 0 rfl) ?_
          refine va_get (D := (dC, dI)) (ci := 11) (v := .int gvm.1) (C := RX13) (T := TX13) (N := 64) hx hb hts in_X13 hown hK hP 0 rfl rfl 1 (by decide) lk0 (fun _ h9 => h9) rfl dX13_count_93 ?_
          exact W.iret (v := gvm.1) hx hb hr (fun t ht hW => by rw [hqq]; have hh := Option.some.inj h; exact ⟨⟨gvm.1, (gth), rfl, ⟨fst_of hh, snd_of hh⟩, by rw [ht]; exact hP, va_K.moved hW.alike hK⟩, hS.F ht⟩) hS.2.2 dX13_count_96
        rw [if_neg c2] at h
        by_cases c3 : x1 = (1 : Int32)
        · rw [if_pos c3] at h
          refine lv_tableIn (off := 47) (tgt := 97) hx hb dX13_count_50 (by rw [c3]; decide) (by rw [c3]; decide) (by rw [c3]; decide) (by decide) ?_
          refine lv_iload_n hx hb dX13_count_97 rfl (lv_at hl 2 rfl) ?_
          exact W.iret (v := x2) hx hb hr (fun t ht hW => by rw [hqq]; have hh := Option.some.inj h; exact ⟨⟨x2, (gth), rfl, ⟨fst_of hh, snd_of hh⟩, by rw [ht]; exact hP, va_K.moved hW.alike hK⟩, hS.F ht⟩) hS.2.2 dX13_count_98
        rw [if_neg c3] at h
        by_cases c4 : x1 = (2 : Int32)
        · rw [if_pos c4] at h
          refine lv_tableIn (off := 49) (tgt := 99) hx hb dX13_count_50 (by rw [c4]; decide) (by rw [c4]; decide) (by rw [c4]; decide) (by decide) ?_
          refine lv_aload_n hx hb dX13_count_99 rfl (lv_at hl 0 rfl) ?_
          refine va_get (D := (dC, dI)) (ci := 11) (v := .int gvm.2.1) (C := RX13) (T := TX13) (N := 64) hx hb hts in_X13 hown hK hP 0 rfl rfl 2 (by decide) lk1 (fun _ h9 => h9) rfl dX13_count_100 ?_
          exact W.iret (v := gvm.2.1) hx hb hr (fun t ht hW => by rw [hqq]; have hh := Option.some.inj h; exact ⟨⟨gvm.2.1, (gth), rfl, ⟨fst_of hh, snd_of hh⟩, by rw [ht]; exact hP, va_K.moved hW.alike hK⟩, hS.F ht⟩) hS.2.2 dX13_count_103
        rw [if_neg c4] at h
        by_cases c5 : x1 = (3 : Int32)
        · rw [if_pos c5] at h
          refine lv_tableIn (off := 54) (tgt := 104) hx hb dX13_count_50 (by rw [c5]; decide) (by rw [c5]; decide) (by rw [c5]; decide) (by decide) ?_
          refine lv_aload_n hx hb dX13_count_104 rfl (lv_at hl 0 rfl) ?_
          refine va_get (D := (dC, dI)) (ci := 11) (v := .int gvm.2.2.1) (C := RX13) (T := TX13) (N := 64) hx hb hts in_X13 hown hK hP 0 rfl rfl 3 (by decide) lk2 (fun _ h9 => h9) rfl dX13_count_105 ?_
          exact W.iret (v := gvm.2.2.1) hx hb hr (fun t ht hW => by rw [hqq]; have hh := Option.some.inj h; exact ⟨⟨gvm.2.2.1, (gth), rfl, ⟨fst_of hh, snd_of hh⟩, by rw [ht]; exact hP, va_K.moved hW.alike hK⟩, hS.F ht⟩) hS.2.2 dX13_count_108
        rw [if_neg c5] at h
        by_cases c6 : x1 = (4 : Int32)
        · rw [if_pos c6] at h
          refine lv_tableIn (off := 59) (tgt := 109) hx hb dX13_count_50 (by rw [c6]; decide) (by rw [c6]; decide) (by rw [c6]; decide) (by decide) ?_
          refine lv_aload_n hx hb dX13_count_109 rfl (lv_at hl 0 rfl) ?_
          obtain ⟨v7, hv8, h⟩ := ok_bind h
          refine cl_vi (w2 := fun (_ : Unit) => w_X13_count cy a0 gth gvm gtd gfl grf grd gnv gac grc gim) (As := []) (rest := []) ⟨hx, hb, hml, hown, hts⟩ (c_X13_all l dC dI cy a0 gth gvm gtd gfl grd gnv gac grc gim H.size v7 hv8) (cwV 0 hts gX13_count_X13_all rfl rfl rfl (by decide +kernel) ⟨Nat.le_of_ble_eq_true rfl, Nat.le_of_ble_eq_true rfl⟩) (va_recv hK hP (ci := 11) (q0 := 0) rfl rfl) cl_blind (cl_pre hK hP hD [0, 1, 2, 3, 4, 5, 6, 7, 8, 9] (by decide) rfl) hP hD hS hA [0, 1, 2, 3, 4, 5, 6, 7, 8, 9] rfl rfl hl.1 rfl (lv_room (Nat.le_of_ble_eq_true rfl)) dX13_count_110 ⟨Nat.le_of_ble_eq_true rfl, Nat.le_of_ble_eq_true rfl⟩ ⟨rfl, rfl⟩ (fun _ => updR [0, 1, 2, 3, 4, 5, 6, 7, 8, 9] rfl) (fun r u H locs hw hP hD hS => ?_)
          have hw := hw.symm
          subst hw
          have hP : va_P (dC, dI) vwCl (w_X13_count cy a0 gth gvm gtd gfl grf grd gnv gac grc gim) H := hP
          have hD : va_D A (w_X13_count cy a0 gth gvm gtd gfl grf grd gnv gac grc gim) := hD
          exact W.iret (v := v7) hx hb hr (fun t ht hW => by rw [hqq]; have hh := Option.some.inj h; exact ⟨⟨v7, (gth), rfl, ⟨fst_of hh, snd_of hh⟩, by rw [ht]; exact hP, va_K.moved hW.alike hK⟩, hS.F ht⟩) hS.2.2 dX13_count_113
        rw [if_neg c6] at h
        by_cases c9 : x1 = (5 : Int32)
        · rw [if_pos c9] at h
          refine lv_tableIn (off := 64) (tgt := 114) hx hb dX13_count_50 (by rw [c9]; decide) (by rw [c9]; decide) (by rw [c9]; decide) (by decide) ?_
          refine lv_aload_n hx hb dX13_count_114 rfl (lv_at hl 0 rfl) ?_
          refine va_get (D := (dC, dI)) (ci := 11) (v := .int grc.1) (C := RX13) (T := TX13) (N := 64) hx hb hts in_X13 hown hK hP 0 rfl rfl 47 (by decide) lk3 (fun _ h9 => h9) rfl dX13_count_115 ?_
          exact W.iret (v := grc.1) hx hb hr (fun t ht hW => by rw [hqq]; have hh := Option.some.inj h; exact ⟨⟨grc.1, (gth), rfl, ⟨fst_of hh, snd_of hh⟩, by rw [ht]; exact hP, va_K.moved hW.alike hK⟩, hS.F ht⟩) hS.2.2 dX13_count_118
        rw [if_neg c9] at h
        by_cases c10 : x1 = (6 : Int32)
        · rw [if_pos c10] at h
          refine lv_tableIn (off := 69) (tgt := 119) hx hb dX13_count_50 (by rw [c10]; decide) (by rw [c10]; decide) (by rw [c10]; decide) (by decide) ?_
          refine lv_aload_n hx hb dX13_count_119 rfl (lv_at hl 0 rfl) ?_
          refine va_get (D := (dC, dI)) (ci := 11) (v := .int gtd) (C := RX13) (T := TX13) (N := 64) hx hb hts in_X13 hown hK hP 0 rfl rfl 14 (by decide) lk4 (fun _ h9 => h9) rfl dX13_count_120 ?_
          exact W.iret (v := gtd) hx hb hr (fun t ht hW => by rw [hqq]; have hh := Option.some.inj h; exact ⟨⟨gtd, (gth), rfl, ⟨fst_of hh, snd_of hh⟩, by rw [ht]; exact hP, va_K.moved hW.alike hK⟩, hS.F ht⟩) hS.2.2 dX13_count_123
        rw [if_neg c10] at h
        refine lv_tableOut (tgt := 124) hx hb dX13_count_50 (tab_out (fun k h1 h2 e => by rcases (show k = 0 ∨ k = 1 ∨ k = 2 ∨ k = 3 ∨ k = 4 ∨ k = 5 ∨ k = 6 by omega) with rfl | rfl | rfl | rfl | rfl | rfl | rfl <;> first | exact c2 (Int32.toInt_inj.mp (e.trans (by decide))) | exact c3 (Int32.toInt_inj.mp (e.trans (by decide))) | exact c4 (Int32.toInt_inj.mp (e.trans (by decide))) | exact c5 (Int32.toInt_inj.mp (e.trans (by decide))) | exact c6 (Int32.toInt_inj.mp (e.trans (by decide))) | exact c9 (Int32.toInt_inj.mp (e.trans (by decide))) | exact c10 (Int32.toInt_inj.mp (e.trans (by decide))))) (by decide) ?_
        refine lv_aload_n hx hb dX13_count_124 rfl (lv_at hl 0 rfl) ?_
        refine va_get (D := (dC, dI)) (ci := 11) (v := .ref (a0 11)) (C := RX13) (T := TX13) (N := 64) hx hb hts in_X13 hown hK hP 0 rfl rfl 17 (by decide) lk5 (fun _ h9 => h9) rfl dX13_count_125 ?_
        refine lv_iload_n hx hb dX13_count_128 rfl (lv_at hl 1 rfl) ?_
        refine lv_bipush (v := (7 : Int32)) hx hb dX13_count_129 (by decide) ?_
        refine lv_isub hx hb dX13_count_131 ?_
        obtain ⟨hi11, h⟩ := ok_if h
        refine va_iald hx hb hK hP 10 1 rfl rfl (ix_in hi11) dX13_count_132 ?_
        exact W.iret (v := (grf (x1 - (7 : Int32)).toNatClampNeg)) hx hb hr (fun t ht hW => by rw [hqq]; have hh := Option.some.inj h; exact ⟨⟨(grf (x1 - (7 : Int32)).toNatClampNeg), (gth), rfl, ⟨fst_of hh, snd_of hh⟩, by rw [ht]; exact hP, va_K.moved hW.alike hK⟩, hS.F ht⟩) hS.2.2 dX13_count_133
      · rw [if_neg c1] at h
        refine lv_iload_n hx hb dX13_count_32 rfl (lv_at hl 2 rfl) ?_
        refine lv_aload_n hx hb dX13_count_33 rfl (lv_at hl 0 rfl) ?_
        refine va_get (D := (dC, dI)) (ci := 11) (v := .ref (a0 5)) (C := RX13) (T := TX13) (N := 64) hx hb hts in_X13 hown hK hP 0 rfl rfl 8 (by decide) lk6 (fun _ h9 => h9) rfl dX13_count_34 ?_
        refine lv_iload_n hx hb dX13_count_37 rfl (lv_at hl 3 rfl) ?_
        obtain ⟨hi12, h⟩ := ok_if h
        refine va_iald hx hb hK hP 5 1 rfl rfl (ix_in hi12) dX13_count_38 ?_
        refine lv_iload_n hx hb dX13_count_39 rfl (lv_at hl 3 rfl) ?_
        refine lv_ishl hx hb dX13_count_40 ?_
        refine lv_ior hx hb dX13_count_41 ?_
        refine lv_istore_n (lv' := [(2, .int (x2 ||| ((gvm.2.2.2.2.2.2.2.1 x3.toNatClampNeg) <<< (x3 &&& 31)))), (0, .ref (a0 0)), (1, .int x1), (3, .int x3)]) hx hb dX13_count_42 rfl hl (by decide) rfl (fun ls hl => ?_)
        refine lv_iinc (v := (x3 + (1 : Int32))) (lv' := [(3, .int (x3 + (1 : Int32))), (2, .int (x2 ||| ((gvm.2.2.2.2.2.2.2.1 x3.toNatClampNeg) <<< (x3 &&& 31)))), (0, .ref (a0 0)), (1, .int x1)]) hx hb dX13_count_43 hl (k := 3) rfl rfl (by decide) rfl (fun ls hl => ?_)
        refine lv_goto (tgt := 26) hx hb dX13_count_46 (by decide) ?_
        exact ih gth x1 (x2 ||| ((gvm.2.2.2.2.2.2.2.1 x3.toNatClampNeg) <<< (x3 &&& 31))) (x3 + (1 : Int32)) H locs ls h hP hD hS (lv_sub hl [2, 3, 1, 0] rfl)
  obtain ⟨H, hH⟩ : ∃ H : Heap, H = s.heap := ⟨_, rfl⟩
  obtain ⟨locs, hlocs⟩ : ∃ locs : List Loc, locs = [] := ⟨_, rfl⟩
  have hS : va_S A s.heap H locs := by rw [hH, hlocs]; exact hS
  rw [← hH] at hP
  suffices hg : W p l e rm_X13_count s m aa below meth c H locs 0 0 (MQ below qq aa s 0 0 A) (F0 m 0 ls []) by subst hH; subst hlocs; exact hg
  unfold p_X13_count at h
  refine lv_aload_n hx hb dX13_count_0 rfl (lv_at hl 0 rfl) ?_
  refine lv_iconst (v := (0 : Int32)) hx hb dX13_count_1 (by decide) ?_
  refine va_put (D := (dC, dI)) (ci := 11) (v := .int (0 : Int32)) (ty := .int) (C := RX13) (T := TX13) (N := 64) hx hb hts in_X13 tyX13 tyX13_ok nmX13 hown hK hP hD hS 0 rfl rfl 0 (by decide) lk7 (fun _ h9 => h9) rfl (by decide +kernel) rfl rfl (Nat.le_of_ble_eq_true rfl) dX13_count_2 (fun H locs hP hD hS => ?_)
  have hP : va_P (dC, dI) vwCl (w_X13_count cy a0 ((0 : Int32)) gvm gtd gfl grf grd gnv gac grc gim) H := hP
  have hD : va_D A (w_X13_count cy a0 ((0 : Int32)) gvm gtd gfl grf grd gnv gac grc gim) := hD
  refine lv_aload_n hx hb dX13_count_5 rfl (lv_at hl 0 rfl) ?_
  refine lv_iload_n hx hb dX13_count_6 rfl (lv_at hl 1 rfl) ?_
  refine lv_iconst (v := (0 : Int32)) hx hb dX13_count_7 (by decide) ?_
  refine lv_bipush (v := (9 : Int32)) hx hb dX13_count_8 (by decide) ?_
  obtain ⟨v1, hv2, h⟩ := ok_bind h
  refine cl_si (w2 := fun (_ : Unit) => w_X13_count cy a0 ((0 : Int32)) gvm gtd gfl grf grd gnv gac grc gim) (As := [.int x1, .int (0 : Int32), .int (9 : Int32)]) (rest := [.ref (a0 0)]) ⟨hx, hb, hml, hown, hts⟩ (c_X13_within l dC dI cy  x1 (0 : Int32) (9 : Int32) H.size v1 hv2) (va_cwS 3 hts gX13_count_X13_within rfl rfl rfl (by decide +kernel) ⟨Nat.le_of_ble_eq_true rfl, Nat.le_of_ble_eq_true rfl⟩) cl_blind (cl_pre hK hP hD [] (by decide) rfl) hP hD hS hA [] rfl rfl hl.1 rfl (lv_room (Nat.le_of_ble_eq_true rfl)) dX13_count_10 ⟨Nat.le_of_ble_eq_true rfl, Nat.le_of_ble_eq_true rfl⟩ ⟨rfl, rfl⟩ (fun _ => updR [] rfl) (fun r u H locs hw hP hD hS => ?_)
  have hw := hw.symm
  subst hw
  have hP : va_P (dC, dI) vwCl (w_X13_count cy a0 ((0 : Int32)) gvm gtd gfl grf grd gnv gac grc gim) H := hP
  have hD : va_D A (w_X13_count cy a0 ((0 : Int32)) gvm gtd gfl grf grd gnv gac grc gim) := hD
  refine lv_iconst (v := (1 : Int32)) hx hb dX13_count_13 (by decide) ?_
  obtain ⟨v3, hv4, h⟩ := ok_bind h
  refine cl_vi (w2 := fun (u : (Int32)) => w_X13_count cy a0 u gvm gtd gfl grf grd gnv gac grc gim) (As := [.int v1, .int (1 : Int32)]) (rest := []) ⟨hx, hb, hml, hown, hts⟩ (c_X13_right l dC dI cy a0 (0 : Int32) gvm gtd gfl grd gnv gac grc gim v1 (1 : Int32) H.size v3 hv4) (cwV 2 hts gX13_count_X13_right rfl rfl rfl (by decide +kernel) ⟨Nat.le_of_ble_eq_true rfl, Nat.le_of_ble_eq_true rfl⟩) (va_recv hK hP (ci := 11) (q0 := 0) rfl rfl) cl_blind (cl_pre hK hP hD [0] (by decide) rfl) hP hD hS hA [0] rfl rfl hl.1 rfl (lv_room (Nat.le_of_ble_eq_true rfl)) dX13_count_14 ⟨Nat.le_of_ble_eq_true rfl, Nat.le_of_ble_eq_true rfl⟩ ⟨rfl, rfl⟩ (fun _ => updM [0] [1, 2, 3, 4, 5, 6, 7, 8, 9, 10, 11] [(a0 1, .inl (cy 1, 5, .inl (gvm.2.2.2.1))), (a0 2, .inl (cy 1, 5, .inl (gvm.2.2.2.2.1))), (a0 3, .inl (cy 1, 5, .inl (gvm.2.2.2.2.2.1))), (a0 4, .inl (cy 1, 25, .inl (gvm.2.2.2.2.2.2.1))), (a0 5, .inl (cy 1, 10, .inl (gvm.2.2.2.2.2.2.2.1))), (a0 6, .inl (cy 1, 10, .inl (gvm.2.2.2.2.2.2.2.2.1))), (a0 7, .inl (cy 1, 10, .inl (gvm.2.2.2.2.2.2.2.2.2.1))), (a0 8, .inl (cy 1, 10, .inl (gvm.2.2.2.2.2.2.2.2.2.2.1))), (a0 9, .inl (cy 1, 50, .inl (gvm.2.2.2.2.2.2.2.2.2.2.2))), (a0 11, .inl (cy 1, 3, .inl (grf))), (a0 28, .inl (cy 1, 36, .inl (grc.2)))] 12 rfl rfl rfl rfl rfl (by decide +kernel) (by decide +kernel) rfl) (fun r u H locs hw hP hD hS => ?_)
  obtain ⟨rfl, rfl⟩ := hw
  have hP : va_P (dC, dI) vwCl (w_X13_count cy a0 v3.2 gvm gtd gfl grf grd gnv gac grc gim) H := hP
  have hD : va_D A (w_X13_count cy a0 v3.2 gvm gtd gfl grf grd gnv gac grc gim) := hD
  refine lv_if_ne (tgt := 22) hx hb dX13_count_17 (by decide) (fun c5 => ?_) (fun c5 => ?_)
  · rw [if_neg c5] at h
    refine lv_iconst (v := (0 : Int32)) hx hb dX13_count_22 (by decide) ?_
    refine lv_istore_n (lv' := [(2, .int (0 : Int32)), (0, .ref (a0 0)), (1, .int x1)]) hx hb dX13_count_23 rfl hl (by decide) rfl (fun ls hl => ?_)
    refine lv_iconst (v := (0 : Int32)) hx hb dX13_count_24 (by decide) ?_
    refine lv_istore_n (lv' := [(3, .int (0 : Int32)), (2, .int (0 : Int32)), (0, .ref (a0 0)), (1, .int x1)]) hx hb dX13_count_25 rfl hl (by decide) rfl (fun ls hl => ?_)
    exact c26 fu v3.2 x1 (0 : Int32) (0 : Int32) H locs ls h hP hD hS (lv_sub hl [2, 3, 1, 0] rfl)
  · rw [if_pos c5] at h
    refine lv_iconst (v := (0 : Int32)) hx hb dX13_count_20 (by decide) ?_
    exact W.iret (v := (0 : Int32)) hx hb hr (fun t ht hW => by rw [hqq]; have hh := Option.some.inj h; exact ⟨⟨(0 : Int32), (v3.2), rfl, ⟨fst_of hh, snd_of hh⟩, by rw [ht]; exact hP, va_K.moved hW.alike hK⟩, hS.F ht⟩) hS.2.2 dX13_count_21

abbrev w_X13_worthOf (cy : Nat → ClassId) (a0 : Nat → Nat) (gth : Int32) (gvm : Int32 × Int32 × Int32 × (Nat → Int32) × (Nat → Int32) × (Nat → Int32) × (Nat → Int32) × (Nat → Int32) × (Nat → Int32) × (Nat → Int32) × (Nat → Int32) × (Nat → Int32)) (gtd : Int32) (gfl : Int32 × Int32) (grd : Int32 × Int32 × Int32 × Int32 × Int32 × Int32 × Int64 × (Nat → Int32)) (gnv : Int32 × Int32 × Int32 × Int32 × Int32 × (Nat → Int32) × (Nat → Int32) × (Nat → Int32) × (Nat → Int32) × (Nat → Int32) × (Nat → Int32)) (gac : Int32 × (Nat → Int32) × (Nat → Int32)) (grc : Int32 × (Nat → Int32)) (gim : Int32 × Int32 × Int32 × (Nat → Int32) × (Nat → Int32) × (Nat → Int32) × (Nat → Int32) × (Nat → Int32) × (Nat → Int32) × (Nat → Int32) × (Nat → Int32) × (Nat → Int32)) : va_W := [(a0 0, .inr (11, [.int (gth), .int (gvm.1), .int (gvm.2.1), .int (gvm.2.2.1), .ref (a0 1), .ref (a0 2), .ref (a0 3), .ref (a0 4), .ref (a0 5), .ref (a0 6), .ref (a0 7), .ref (a0 8), .ref (a0 9), .ref (a0 10), .int (gtd), .int (gfl.1), .int (gfl.2), .ref (a0 11), .int (grd.1), .int (grd.2.1), .int (grd.2.2.1), .int (grd.2.2.2.1), .int (grd.2.2.2.2.1), .int (grd.2.2.2.2.2.1), .long (grd.2.2.2.2.2.2.1), .ref (a0 12), .int (gnv.1), .int (gnv.2.1), .int (gnv.2.2.1), .int (gnv.2.2.2.1), .int (gnv.2.2.2.2.1), .ref (a0 13), .ref (a0 14), .ref (a0 15), .ref (a0 16), .ref (a0 17), .ref (a0 18), .int (gac.1), .ref (a0 19), .ref (a0 20), .ref (a0 21), .ref (a0 22), .ref (a0 23), .ref (a0 24), .ref (a0 25), .ref (a0 26), .ref (a0 27), .int (grc.1), .ref (a0 28), .ref (a0 29), .ref (a0 30), .ref (a0 31), .int (gim.1), .int (gim.2.1), .int (gim.2.2.1), .ref (a0 32), .ref (a0 33), .ref (a0 34), .ref (a0 35), .ref (a0 36), .ref (a0 37), .ref (a0 38), .ref (a0 39), .ref (a0 40)])), (a0 1, .inl (cy 1, 5, .inl (gvm.2.2.2.1))), (a0 2, .inl (cy 1, 5, .inl (gvm.2.2.2.2.1))), (a0 3, .inl (cy 1, 5, .inl (gvm.2.2.2.2.2.1))), (a0 4, .inl (cy 1, 25, .inl (gvm.2.2.2.2.2.2.1))), (a0 5, .inl (cy 1, 10, .inl (gvm.2.2.2.2.2.2.2.1))), (a0 6, .inl (cy 1, 10, .inl (gvm.2.2.2.2.2.2.2.2.1))), (a0 7, .inl (cy 1, 10, .inl (gvm.2.2.2.2.2.2.2.2.2.1))), (a0 8, .inl (cy 1, 10, .inl (gvm.2.2.2.2.2.2.2.2.2.2.1))), (a0 9, .inl (cy 1, 50, .inl (gvm.2.2.2.2.2.2.2.2.2.2.2)))]
abbrev rm_X13_worthOf : Room := { frames := 0, cells := 0, slots := 0, locals := 0 }
set_option maxHeartbeats 1000000 in
set_option maxRecDepth 100000 in
theorem c_X13_worthOf (l : Launch) (dC : Nat → ClassId) (dI : Nat → Nat → Nat) (cy : Nat → ClassId) (a0 : Nat → Nat) (gth : Int32) (gvm : Int32 × Int32 × Int32 × (Nat → Int32) × (Nat → Int32) × (Nat → Int32) × (Nat → Int32) × (Nat → Int32) × (Nat → Int32) × (Nat → Int32) × (Nat → Int32) × (Nat → Int32)) (gtd : Int32) (gfl : Int32 × Int32) (grd : Int32 × Int32 × Int32 × Int32 × Int32 × Int32 × Int64 × (Nat → Int32)) (gnv : Int32 × Int32 × Int32 × Int32 × Int32 × (Nat → Int32) × (Nat → Int32) × (Nat → Int32) × (Nat → Int32) × (Nat → Int32) × (Nat → Int32)) (gac : Int32 × (Nat → Int32) × (Nat → Int32)) (grc : Int32 × (Nat → Int32)) (gim : Int32 × Int32 × Int32 × (Nat → Int32) × (Nat → Int32) × (Nat → Int32) × (Nat → Int32) × (Nat → Int32) × (Nat → Int32) × (Nat → Int32) × (Nat → Int32) × (Nat → Int32)) (x1 : Int32) (x2 : Int32) (sz : Nat) (R0 : Int32) (h : p_X13_worthOf gvm x1 x2 = some R0) : Met l yX13_worthOf wsX13_worthOf rm_X13_worthOf (va_Pc [.ref (a0 0), .int x1, .int x2] (prC dC dI cy (w_X13_worthOf cy a0 gth gvm gtd gfl grd gnv gac grc gim) sz)) (va_Qi (fun (r : Int32) (_ : Unit) => r = R0) (fun (_ : Unit) t => poC dC dI cy (w_X13_worthOf cy a0 gth gvm gtd gfl grd gnv gac grc gim) t) (va_A (w_X13_worthOf cy a0 gth gvm gtd gfl grd gnv gac grc gim) sz)) 0 0 (va_A (w_X13_worthOf cy a0 gth gvm gtd gfl grd gnv gac grc gim) sz) := by
  refine Met.ofW (cc := cX13_worthOf) (maxL := 8) (ret := (some .int)) (by decide) rfl ?_
  intro p e s m aa below meth c s₁ B hml hv
  obtain ⟨haa, hsz, hP, hK, hD0⟩ := hv
  have hx := B.exec
  have hb := B.bytes
  have hr := B.returns
  have hts := atoms_spec (ws := wsX13_worthOf) B.pre
  have hown : s.vm.findClass RX13 = some m.cls := findClass_of_methodNamed B.named
  have hlocks := B.notSynchronized
  subst hsz
  have hD := hD0.self (sz := s.heap.size)
  obtain ⟨qq, hqq⟩ : ∃ qq, qq = (va_Qi (fun (r : Int32) (_ : Unit) => r = R0) (fun (_ : Unit) t => poC dC dI cy (w_X13_worthOf cy a0 gth gvm gtd gfl grd gnv gac grc gim) t) (va_A (w_X13_worthOf cy a0 gth gvm gtd gfl grd gnv gac grc gim) s.heap.size)) := ⟨_, rfl⟩
  rw [← hqq]
  generalize hAe : va_A (w_X13_worthOf cy a0 gth gvm gtd gfl grd gnv gac grc gim) s.heap.size = A at hD hqq ⊢
  have hA : ∀ q : Nat, s.heap.size ≤ q → A q := fun q h => by rw [← hAe]; exact Or.inr h
  have hS : va_S A s.heap s.heap [] := va_S.rf
  have hl := lv_entry ([.ref (a0 0), .int x1, .int x2]) (n := 8) (Nat.le_of_ble_eq_true rfl)
  have hE : entryFrame m aa 8 = F0 m 0 ((lg_sl ([.ref (a0 0), .int x1, .int x2]) ++ List.replicate (8 - (lg_sl ([.ref (a0 0), .int x1, .int x2])).length) Slot.unset).toArray) [] := by rw [haa]; exact lg_entry_eq m _ 8
  refine W.eq hE ?_
  generalize (lg_sl ([.ref (a0 0), .int x1, .int x2]) ++ List.replicate (8 - (lg_sl ([.ref (a0 0), .int x1, .int x2])).length) Slot.unset).toArray = ls at hl ⊢
  have hl : lv_has ls 8 [(0, .ref (a0 0)), (1, .int x1), (2, .int x2)] := hl
  change W p l e rm_X13_worthOf s m aa below meth c s.heap [] 0 0 (MQ below qq aa s 0 0 A) (F0 m 0 ls [])
  have hS0 := hS
  have lk0 := hts (.fieldLink RX13 31 "GoatDoorsModel" "many" "[I") (by decide +kernel)
  have lk1 := hts (.fieldLink RX13 248 "GoatDoorsModel" "law" "I") (by decide +kernel)
  have lk2 := hts (.fieldLink RX13 34 "GoatDoorsModel" "figure" "[I") (by decide +kernel)
  have in_X13 : ∀ w ∈ wsX130, w ∈ wsX13_worthOf := by decide +kernel
  have c117 : ∀ (_u : Unit), ∀ (x3 : Int32) (H : Heap) (locs : List Loc) (ls : Array Slot), p_X13_worthOf_117 gvm x3 = some R0 → va_P (dC, dI) vwCl (w_X13_worthOf cy a0 gth gvm gtd gfl grd gnv gac grc gim) H → va_D A (w_X13_worthOf cy a0 gth gvm gtd gfl grd gnv gac grc gim) → va_S A s.heap H locs → lv_has ls 8 [(3, .int x3)] → W p l e rm_X13_worthOf s m aa below meth c H locs 0 0 (MQ below qq aa s 0 0 A) (F0 m 117 ls []) := by
    intro _ x3 H locs ls h hP hD hS hl
    unfold p_X13_worthOf_117 at h
    refine lv_iload_n hx hb dX13_worthOf_117 rfl (lv_at hl 0 rfl) ?_
    refine lv_goto (tgt := 134) hx hb dX13_worthOf_118 (by decide) ?_
    exact W.iret (v := x3) hx hb hr (fun t ht hW => by rw [hqq]; have hh := Option.some.inj h; exact ⟨⟨x3, (()), rfl, Option.some.inj h, by rw [ht]; exact hP, va_K.moved hW.alike hK⟩, hS.F ht⟩) hS.2.2 dX13_worthOf_134
  have c90 : ∀ (k31 : Int32 → Int32 → Int32 → Int32 → Int32 → Int32 → Option (Int32)) (hk31 : ∀ (x1 : Int32) (x2 : Int32) (x3 : Int32) (x4 : Int32) (x5 : Int32) (x6 : Int32) (H : Heap) (locs : List Loc) (ls : Array Slot), k31 x1 x2 x3 x4 x5 x6 = some R0 → va_P (dC, dI) vwCl (w_X13_worthOf cy a0 gth gvm gtd gfl grd gnv gac grc gim) H → va_D A (w_X13_worthOf cy a0 gth gvm gtd gfl grd gnv gac grc gim) → va_S A s.heap H locs → lv_has ls 8 [(0, .ref (a0 0)), (1, .int x1), (2, .int x2), (3, .int x3), (4, .int x4), (5, .int x5), (6, .int x6)] → W p l e rm_X13_worthOf s m aa below meth c H locs 0 0 (MQ below qq aa s 0 0 A) (F0 m 31 ls [])), ∀ (x1 : Int32) (x2 : Int32) (x4 : Int32) (x5 : Int32) (x6 : Int32) (t0 : Int32) (t1 : Int32) (H : Heap) (locs : List Loc) (ls : Array Slot), p_X13_worthOf_90 k31 gvm x1 x2 x4 x5 x6 t0 t1 = some R0 → va_P (dC, dI) vwCl (w_X13_worthOf cy a0 gth gvm gtd gfl grd gnv gac grc gim) H → va_D A (w_X13_worthOf cy a0 gth gvm gtd gfl grd gnv gac grc gim) → va_S A s.heap H locs → lv_has ls 8 [(0, .ref (a0 0)), (1, .int x1), (2, .int x2), (4, .int x4), (5, .int x5), (6, .int x6)] → W p l e rm_X13_worthOf s m aa below meth c H locs 0 0 (MQ below qq aa s 0 0 A) (F0 m 90 ls [.int t1, .int t0]) := by
    intro k31 hk31 x1 x2 x4 x5 x6 t0 t1 H locs ls h hP hD hS hl
    unfold p_X13_worthOf_90 at h
    refine lv_iadd hx hb dX13_worthOf_90 ?_
    refine lv_istore_n (lv' := [(3, .int (t0 + t1)), (0, .ref (a0 0)), (1, .int x1), (2, .int x2), (4, .int x4), (5, .int x5), (6, .int x6)]) hx hb dX13_worthOf_91 rfl hl (by decide) rfl (fun ls hl => ?_)
    refine lv_iload hx hb dX13_worthOf_92 (lv_at hl 4 rfl) ?_
    refine lv_iload_n hx hb dX13_worthOf_94 rfl (lv_at hl 3 rfl) ?_
    refine lv_imul hx hb dX13_worthOf_95 ?_
    refine lv_istore (lv' := [(4, .int (x4 * x2)), (3, .int (t0 + t1)), (0, .ref (a0 0)), (1, .int x1), (2, .int x2), (5, .int x5), (6, .int x6)]) hx hb dX13_worthOf_96 hl (by decide) rfl (fun ls hl => ?_)
    refine lv_iinc (v := (x6 + (1 : Int32))) (lv' := [(6, .int (x6 + (1 : Int32))), (4, .int (x4 * x2)), (3, .int (t0 + t1)), (0, .ref (a0 0)), (1, .int x1), (2, .int x2), (5, .int x5)]) hx hb dX13_worthOf_98 hl (k := 6) rfl rfl (by decide) rfl (fun ls hl => ?_)
    refine lv_goto (tgt := 31) hx hb dX13_worthOf_101 (by decide) ?_
    exact hk31 x1 x2 (t0 + t1) (x4 * x2) x5 (x6 + (1 : Int32)) H locs ls h hP hD hS (lv_sub hl [3, 4, 5, 2, 1, 6, 0] rfl)
  have c71 : ∀ (k31 : Int32 → Int32 → Int32 → Int32 → Int32 → Int32 → Option (Int32)) (hk31 : ∀ (x1 : Int32) (x2 : Int32) (x3 : Int32) (x4 : Int32) (x5 : Int32) (x6 : Int32) (H : Heap) (locs : List Loc) (ls : Array Slot), k31 x1 x2 x3 x4 x5 x6 = some R0 → va_P (dC, dI) vwCl (w_X13_worthOf cy a0 gth gvm gtd gfl grd gnv gac grc gim) H → va_D A (w_X13_worthOf cy a0 gth gvm gtd gfl grd gnv gac grc gim) → va_S A s.heap H locs → lv_has ls 8 [(0, .ref (a0 0)), (1, .int x1), (2, .int x2), (3, .int x3), (4, .int x4), (5, .int x5), (6, .int x6)] → W p l e rm_X13_worthOf s m aa below meth c H locs 0 0 (MQ below qq aa s 0 0 A) (F0 m 31 ls [])), ∀ (x1 : Int32) (x2 : Int32) (x3 : Int32) (x4 : Int32) (x6 : Int32) (x7 : Int32) (t0 : Int32) (H : Heap) (locs : List Loc) (ls : Array Slot), p_X13_worthOf_71 k31 gvm x1 x2 x3 x4 x6 x7 t0 = some R0 → va_P (dC, dI) vwCl (w_X13_worthOf cy a0 gth gvm gtd gfl grd gnv gac grc gim) H → va_D A (w_X13_worthOf cy a0 gth gvm gtd gfl grd gnv gac grc gim) → va_S A s.heap H locs → lv_has ls 8 [(0, .ref (a0 0)), (1, .int x1), (2, .int x2), (3, .int x3), (4, .int x4), (6, .int x6), (7, .int x7)] → W p l e rm_X13_worthOf s m aa below meth c H locs 0 0 (MQ below qq aa s 0 0 A) (F0 m 71 ls [.int t0]) := by
    intro k31 hk31 x1 x2 x3 x4 x6 x7 t0 H locs ls h hP hD hS hl
    unfold p_X13_worthOf_71 at h
    refine lv_istore (lv' := [(5, .int t0), (0, .ref (a0 0)), (1, .int x1), (2, .int x2), (3, .int x3), (4, .int x4), (6, .int x6), (7, .int x7)]) hx hb dX13_worthOf_71 hl (by decide) rfl (fun ls hl => ?_)
    refine lv_iload_n hx hb dX13_worthOf_73 rfl (lv_at hl 4 rfl) ?_
    refine lv_iload_n hx hb dX13_worthOf_74 rfl (lv_at hl 3 rfl) ?_
    refine lv_imul hx hb dX13_worthOf_75 ?_
    refine lv_iload hx hb dX13_worthOf_76 (lv_at hl 7 rfl) ?_
    refine lv_iload_n hx hb dX13_worthOf_78 rfl (lv_at hl 3 rfl) ?_
    refine lv_icmp_ge (tgt := 87) hx hb dX13_worthOf_79 (by decide) (fun c1 => ?_) (fun c1 => ?_)
    · rw [if_pos c1] at h
      refine lv_iload_n hx hb dX13_worthOf_87 rfl (lv_at hl 3 rfl) ?_
      refine lv_iconst (v := (1 : Int32)) hx hb dX13_worthOf_88 (by decide) ?_
      refine lv_isub hx hb dX13_worthOf_89 ?_
      exact c90 k31 hk31 x1 x2 x4 t0 x6 (x3 * x2) (x2 - (1 : Int32)) H locs ls h hP hD hS (lv_sub hl [1, 2, 3, 5, 0, 6] rfl)
    · rw [if_neg c1] at h
      refine lv_iload hx hb dX13_worthOf_82 (lv_at hl 7 rfl) ?_
      refine lv_goto (tgt := 90) hx hb dX13_worthOf_84 (by decide) ?_
      exact c90 k31 hk31 x1 x2 x4 t0 x6 (x3 * x2) x7 H locs ls h hP hD hS (lv_sub hl [1, 2, 3, 5, 0, 6] rfl)
  have c66 : ∀ (k31 : Int32 → Int32 → Int32 → Int32 → Int32 → Int32 → Option (Int32)) (hk31 : ∀ (x1 : Int32) (x2 : Int32) (x3 : Int32) (x4 : Int32) (x5 : Int32) (x6 : Int32) (H : Heap) (locs : List Loc) (ls : Array Slot), k31 x1 x2 x3 x4 x5 x6 = some R0 → va_P (dC, dI) vwCl (w_X13_worthOf cy a0 gth gvm gtd gfl grd gnv gac grc gim) H → va_D A (w_X13_worthOf cy a0 gth gvm gtd gfl grd gnv gac grc gim) → va_S A s.heap H locs → lv_has ls 8 [(0, .ref (a0 0)), (1, .int x1), (2, .int x2), (3, .int x3), (4, .int x4), (5, .int x5), (6, .int x6)] → W p l e rm_X13_worthOf s m aa below meth c H locs 0 0 (MQ below qq aa s 0 0 A) (F0 m 31 ls [])), ∀ (x1 : Int32) (x2 : Int32) (x3 : Int32) (x4 : Int32) (x6 : Int32) (x7 : Int32) (H : Heap) (locs : List Loc) (ls : Array Slot), p_X13_worthOf_66 k31 gvm x1 x2 x3 x4 x6 x7 = some R0 → va_P (dC, dI) vwCl (w_X13_worthOf cy a0 gth gvm gtd gfl grd gnv gac grc gim) H → va_D A (w_X13_worthOf cy a0 gth gvm gtd gfl grd gnv gac grc gim) → va_S A s.heap H locs → lv_has ls 8 [(0, .ref (a0 0)), (1, .int x1), (2, .int x2), (3, .int x3), (4, .int x4), (6, .int x6), (7, .int x7)] → W p l e rm_X13_worthOf s m aa below meth c H locs 0 0 (MQ below qq aa s 0 0 A) (F0 m 66 ls []) := by
    intro k31 hk31 x1 x2 x3 x4 x6 x7 H locs ls h hP hD hS hl
    unfold p_X13_worthOf_66 at h
    refine lv_iconst (v := (1 : Int32)) hx hb dX13_worthOf_66 (by decide) ?_
    refine lv_goto (tgt := 71) hx hb dX13_worthOf_67 (by decide) ?_
    exact c71 k31 hk31 x1 x2 x3 x4 x6 x7 (1 : Int32) H locs ls h hP hD hS (lv_sub hl [0, 1, 2, 3, 4, 5, 6] rfl)
  have c31 : ∀ (n : Nat), ∀ (x1 : Int32) (x2 : Int32) (x3 : Int32) (x4 : Int32) (x5 : Int32) (x6 : Int32) (H : Heap) (locs : List Loc) (ls : Array Slot), p_X13_worthOf_31 gvm n x1 x2 x3 x4 x5 x6 = some R0 → va_P (dC, dI) vwCl (w_X13_worthOf cy a0 gth gvm gtd gfl grd gnv gac grc gim) H → va_D A (w_X13_worthOf cy a0 gth gvm gtd gfl grd gnv gac grc gim) → va_S A s.heap H locs → lv_has ls 8 [(0, .ref (a0 0)), (1, .int x1), (2, .int x2), (3, .int x3), (4, .int x4), (5, .int x5), (6, .int x6)] → W p l e rm_X13_worthOf s m aa below meth c H locs 0 0 (MQ below qq aa s 0 0 A) (F0 m 31 ls []) := by
    intro  n
    induction n with
    | zero => intro x1 x2 x3 x4 x5 x6 H locs ls h; exact no_some h
    | succ n ih =>
      intro x1 x2 x3 x4 x5 x6 H locs ls h hP hD hS hl
      rw [p_X13_worthOf_31.eq_2] at h
      refine lv_iload hx hb dX13_worthOf_31 (lv_at hl 6 rfl) ?_
      refine lv_aload_n hx hb dX13_worthOf_33 rfl (lv_at hl 0 rfl) ?_
      refine va_get (D := (dC, dI)) (ci := 11) (v := .ref (a0 8)) (C := RX13) (T := TX13) (N := 64) hx hb hts in_X13 hown hK hP 0 rfl rfl 11 (by decide) lk0 (fun _ h9 => h9) rfl dX13_worthOf_34 ?_
      refine lv_iload_n hx hb dX13_worthOf_37 rfl (lv_at hl 1 rfl) ?_
      obtain ⟨hi1, h⟩ := ok_if h
      refine va_iald hx hb hK hP 8 1 rfl rfl (ix_in hi1) dX13_worthOf_38 ?_
      refine lv_icmp_ge (tgt := 104) hx hb dX13_worthOf_39 (by decide) (fun c2 => ?_) (fun c2 => ?_)
      · rw [if_pos c2] at h
        refine lv_iload hx hb dX13_worthOf_104 (lv_at hl 5 rfl) ?_
        refine lv_if_eq (tgt := 117) hx hb dX13_worthOf_106 (by decide) (fun c3 => ?_) (fun c3 => ?_)
        · rw [if_pos c3] at h
          exact c117 () x3 H locs ls h hP hD hS (lv_sub hl [3] rfl)
        · rw [if_neg c3] at h
          refine lv_aload_n hx hb dX13_worthOf_109 rfl (lv_at hl 0 rfl) ?_
          refine va_get (D := (dC, dI)) (ci := 11) (v := .int gvm.2.1) (C := RX13) (T := TX13) (N := 64) hx hb hts in_X13 hown hK hP 0 rfl rfl 2 (by decide) lk1 (fun _ h9 => h9) rfl dX13_worthOf_110 ?_
          refine lv_iconst (v := (2 : Int32)) hx hb dX13_worthOf_113 (by decide) ?_
          refine lv_icmp_ne (tgt := 121) hx hb dX13_worthOf_114 (by decide) (fun c4 => ?_) (fun c4 => ?_)
          · rw [if_neg c4] at h
            refine lv_aload_n hx hb dX13_worthOf_121 rfl (lv_at hl 0 rfl) ?_
            refine va_get (D := (dC, dI)) (ci := 11) (v := .int gvm.2.1) (C := RX13) (T := TX13) (N := 64) hx hb hts in_X13 hown hK hP 0 rfl rfl 2 (by decide) lk1 (fun _ h9 => h9) rfl dX13_worthOf_122 ?_
            refine lv_if_ne (tgt := 132) hx hb dX13_worthOf_125 (by decide) (fun c5 => ?_) (fun c5 => ?_)
            · rw [if_neg c5] at h
              refine lv_iload hx hb dX13_worthOf_132 (lv_at hl 4 rfl) ?_
              exact W.iret (v := x4) hx hb hr (fun t ht hW => by rw [hqq]; have hh := Option.some.inj h; exact ⟨⟨x4, (()), rfl, Option.some.inj h, by rw [ht]; exact hP, va_K.moved hW.alike hK⟩, hS.F ht⟩) hS.2.2 dX13_worthOf_134
            · rw [if_pos c5] at h
              refine lv_iconst (v := (0 : Int32)) hx hb dX13_worthOf_128 (by decide) ?_
              refine lv_goto (tgt := 134) hx hb dX13_worthOf_129 (by decide) ?_
              exact W.iret (v := (0 : Int32)) hx hb hr (fun t ht hW => by rw [hqq]; have hh := Option.some.inj h; exact ⟨⟨(0 : Int32), (()), rfl, Option.some.inj h, by rw [ht]; exact hP, va_K.moved hW.alike hK⟩, hS.F ht⟩) hS.2.2 dX13_worthOf_134
          · rw [if_pos c4] at h
            exact c117 () x3 H locs ls h hP hD hS (lv_sub hl [3] rfl)
      · rw [if_neg c2] at h
        refine lv_aload_n hx hb dX13_worthOf_42 rfl (lv_at hl 0 rfl) ?_
        refine va_get (D := (dC, dI)) (ci := 11) (v := .ref (a0 9)) (C := RX13) (T := TX13) (N := 64) hx hb hts in_X13 hown hK hP 0 rfl rfl 12 (by decide) lk2 (fun _ h9 => h9) rfl dX13_worthOf_43 ?_
        refine lv_iconst (v := (5 : Int32)) hx hb dX13_worthOf_46 (by decide) ?_
        refine lv_iload_n hx hb dX13_worthOf_47 rfl (lv_at hl 1 rfl) ?_
        refine lv_imul hx hb dX13_worthOf_48 ?_
        refine lv_iload hx hb dX13_worthOf_49 (lv_at hl 6 rfl) ?_
        refine lv_iadd hx hb dX13_worthOf_51 ?_
        obtain ⟨hi6, h⟩ := ok_if h
        refine va_iald hx hb hK hP 9 1 rfl rfl (ix_in hi6) dX13_worthOf_52 ?_
        refine lv_istore (lv' := [(7, .int (gvm.2.2.2.2.2.2.2.2.2.2.2 (((5 : Int32) * x1) + x6).toNatClampNeg)), (0, .ref (a0 0)), (1, .int x1), (2, .int x2), (3, .int x3), (4, .int x4), (5, .int x5), (6, .int x6)]) hx hb dX13_worthOf_53 hl (by decide) rfl (fun ls hl => ?_)
        refine lv_iload hx hb dX13_worthOf_55 (lv_at hl 6 rfl) ?_
        refine lv_if_ne (tgt := 66) hx hb dX13_worthOf_57 (by decide) (fun c7 => ?_) (fun c7 => ?_)
        · rw [if_neg c7] at h
          exact c66 (p_X13_worthOf_31 gvm n) ih x1 x2 x3 x4 x6 (gvm.2.2.2.2.2.2.2.2.2.2.2 (((5 : Int32) * x1) + x6).toNatClampNeg) H locs ls h hP hD hS (lv_sub hl [1, 2, 3, 4, 5, 7, 0] rfl)
        · rw [if_pos c7] at h
          refine lv_iload hx hb dX13_worthOf_60 (lv_at hl 0 rfl) ?_
          refine lv_iload_n hx hb dX13_worthOf_62 rfl (lv_at hl 3 rfl) ?_
          refine lv_icmp_lt (tgt := 70) hx hb dX13_worthOf_63 (by decide) (fun c8 => ?_) (fun c8 => ?_)
          · rw [if_pos c8] at h
            refine lv_iconst (v := (0 : Int32)) hx hb dX13_worthOf_70 (by decide) ?_
            exact c71 (p_X13_worthOf_31 gvm n) ih x1 x2 x3 x4 x6 (gvm.2.2.2.2.2.2.2.2.2.2.2 (((5 : Int32) * x1) + x6).toNatClampNeg) (0 : Int32) H locs ls h hP hD hS (lv_sub hl [1, 2, 3, 4, 5, 7, 0] rfl)
          · rw [if_neg c8] at h
            exact c66 (p_X13_worthOf_31 gvm n) ih x1 x2 x3 x4 x6 (gvm.2.2.2.2.2.2.2.2.2.2.2 (((5 : Int32) * x1) + x6).toNatClampNeg) H locs ls h hP hD hS (lv_sub hl [1, 2, 3, 4, 5, 7, 0] rfl)
  obtain ⟨H, hH⟩ : ∃ H : Heap, H = s.heap := ⟨_, rfl⟩
  obtain ⟨locs, hlocs⟩ : ∃ locs : List Loc, locs = [] := ⟨_, rfl⟩
  have hS : va_S A s.heap H locs := by rw [hH, hlocs]; exact hS
  rw [← hH] at hP
  suffices hg : W p l e rm_X13_worthOf s m aa below meth c H locs 0 0 (MQ below qq aa s 0 0 A) (F0 m 0 ls []) by subst hH; subst hlocs; exact hg
  unfold p_X13_worthOf at h
  refine lv_iload_n hx hb dX13_worthOf_0 rfl (lv_at hl 2 rfl) ?_
  refine lv_iconst (v := (2 : Int32)) hx hb dX13_worthOf_1 (by decide) ?_
  refine lv_icmp_ge (tgt := 20) hx hb dX13_worthOf_2 (by decide) (fun c1 => ?_) (fun c1 => ?_)
  · rw [if_pos c1] at h
    refine lv_iconst (v := (0 : Int32)) hx hb dX13_worthOf_20 (by decide) ?_
    refine lv_istore_n (lv' := [(3, .int (0 : Int32)), (0, .ref (a0 0)), (1, .int x1), (2, .int x2)]) hx hb dX13_worthOf_21 rfl hl (by decide) rfl (fun ls hl => ?_)
    refine lv_iconst (v := (1 : Int32)) hx hb dX13_worthOf_22 (by decide) ?_
    refine lv_istore (lv' := [(4, .int (1 : Int32)), (3, .int (0 : Int32)), (0, .ref (a0 0)), (1, .int x1), (2, .int x2)]) hx hb dX13_worthOf_23 hl (by decide) rfl (fun ls hl => ?_)
    refine lv_iconst (v := (0 : Int32)) hx hb dX13_worthOf_25 (by decide) ?_
    refine lv_istore (lv' := [(5, .int (0 : Int32)), (4, .int (1 : Int32)), (3, .int (0 : Int32)), (0, .ref (a0 0)), (1, .int x1), (2, .int x2)]) hx hb dX13_worthOf_26 hl (by decide) rfl (fun ls hl => ?_)
    refine lv_iconst (v := (0 : Int32)) hx hb dX13_worthOf_28 (by decide) ?_
    refine lv_istore (lv' := [(6, .int (0 : Int32)), (5, .int (0 : Int32)), (4, .int (1 : Int32)), (3, .int (0 : Int32)), (0, .ref (a0 0)), (1, .int x1), (2, .int x2)]) hx hb dX13_worthOf_29 hl (by decide) rfl (fun ls hl => ?_)
    exact c31 fu x1 x2 (0 : Int32) (1 : Int32) (0 : Int32) (0 : Int32) H locs ls h hP hD hS (lv_sub hl [4, 5, 6, 3, 2, 1, 0] rfl)
  · rw [if_neg c1] at h
    refine lv_iload_n hx hb dX13_worthOf_5 rfl (lv_at hl 2 rfl) ?_
    refine lv_if_ne (tgt := 13) hx hb dX13_worthOf_6 (by decide) (fun c2 => ?_) (fun c2 => ?_)
    · rw [if_neg c2] at h
      refine lv_aload_n hx hb dX13_worthOf_13 rfl (lv_at hl 0 rfl) ?_
      refine va_get (D := (dC, dI)) (ci := 11) (v := .ref (a0 8)) (C := RX13) (T := TX13) (N := 64) hx hb hts in_X13 hown hK hP 0 rfl rfl 11 (by decide) lk0 (fun _ h9 => h9) rfl dX13_worthOf_14 ?_
      refine lv_iload_n hx hb dX13_worthOf_17 rfl (lv_at hl 1 rfl) ?_
      obtain ⟨hi3, h⟩ := ok_if h
      refine va_iald hx hb hK hP 8 1 rfl rfl (ix_in hi3) dX13_worthOf_18 ?_
      exact W.iret (v := (gvm.2.2.2.2.2.2.2.2.2.2.1 x1.toNatClampNeg)) hx hb hr (fun t ht hW => by rw [hqq]; have hh := Option.some.inj h; exact ⟨⟨(gvm.2.2.2.2.2.2.2.2.2.2.1 x1.toNatClampNeg), (()), rfl, Option.some.inj h, by rw [ht]; exact hP, va_K.moved hW.alike hK⟩, hS.F ht⟩) hS.2.2 dX13_worthOf_19
    · rw [if_pos c2] at h
      refine lv_iconst (v := (0 : Int32)) hx hb dX13_worthOf_9 (by decide) ?_
      refine lv_goto (tgt := 19) hx hb dX13_worthOf_10 (by decide) ?_
      exact W.iret (v := (0 : Int32)) hx hb hr (fun t ht hW => by rw [hqq]; have hh := Option.some.inj h; exact ⟨⟨(0 : Int32), (()), rfl, Option.some.inj h, by rw [ht]; exact hP, va_K.moved hW.alike hK⟩, hS.F ht⟩) hS.2.2 dX13_worthOf_19
