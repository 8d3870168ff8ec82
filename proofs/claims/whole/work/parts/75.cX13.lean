abbrev w_X13_lose (cy : Nat → ClassId) (a0 : Nat → Nat) (gth : Int32) (gvm : Int32 × Int32 × Int32 × (Nat → Int32) × (Nat → Int32) × (Nat → Int32) × (Nat → Int32) × (Nat → Int32) × (Nat → Int32) × (Nat → Int32) × (Nat → Int32) × (Nat → Int32)) (gtd : Int32) (gfl : Int32 × Int32) (grd : Int32 × Int32 × Int32 × Int32 × Int32 × Int32 × Int64 × (Nat → Int32)) (gnv : Int32 × Int32 × Int32 × Int32 × Int32 × (Nat → Int32) × (Nat → Int32) × (Nat → Int32) × (Nat → Int32) × (Nat → Int32) × (Nat → Int32)) (gac : Int32 × (Nat → Int32) × (Nat → Int32)) (grc : Int32 × (Nat → Int32)) (gim : Int32 × Int32 × Int32 × (Nat → Int32) × (Nat → Int32) × (Nat → Int32) × (Nat → Int32) × (Nat → Int32) × (Nat → Int32) × (Nat → Int32) × (Nat → Int32) × (Nat → Int32)) : va_W := [(a0 0, .inr (11, [.int (gth), .int (gvm.1), .int (gvm.2.1), .int (gvm.2.2.1), .ref (a0 1), .ref (a0 2), .ref (a0 3), .ref (a0 4), .ref (a0 5), .ref (a0 6), .ref (a0 7), .ref (a0 8), .ref (a0 9), .ref (a0 10), .int (gtd), .int (gfl.1), .int (gfl.2), .ref (a0 11), .int (grd.1), .int (grd.2.1), .int (grd.2.2.1), .int (grd.2.2.2.1), .int (grd.2.2.2.2.1), .int (grd.2.2.2.2.2.1), .long (grd.2.2.2.2.2.2.1), .ref (a0 12), .int (gnv.1), .int (gnv.2.1), .int (gnv.2.2.1), .int (gnv.2.2.2.1), .int (gnv.2.2.2.2.1), .ref (a0 13), .ref (a0 14), .ref (a0 15), .ref (a0 16), .ref (a0 17), .ref (a0 18), .int (gac.1), .ref (a0 19), .ref (a0 20), .ref (a0 21), .ref (a0 22), .ref (a0 23), .ref (a0 24), .ref (a0 25), .ref (a0 26), .ref (a0 27), .int (grc.1), .ref (a0 28), .ref (a0 29), .ref (a0 30), .ref (a0 31), .int (gim.1), .int (gim.2.1), .int (gim.2.2.1), .ref (a0 32), .ref (a0 33), .ref (a0 34), .ref (a0 35), .ref (a0 36), .ref (a0 37), .ref (a0 38), .ref (a0 39), .ref (a0 40)])), (a0 28, .inl (cy 1, 36, .inl (grc.2)))]
abbrev rm_X13_lose : Room := { frames := 0, cells := 0, slots := 0, locals := 0 }
set_option maxHeartbeats 1000000 in
set_option maxRecDepth 100000 in
theorem c_X13_lose (l : Launch) (dC : Nat → ClassId) (dI : Nat → Nat → Nat) (cy : Nat → ClassId) (a0 : Nat → Nat) (gth : Int32) (gvm : Int32 × Int32 × Int32 × (Nat → Int32) × (Nat → Int32) × (Nat → Int32) × (Nat → Int32) × (Nat → Int32) × (Nat → Int32) × (Nat → Int32) × (Nat → Int32) × (Nat → Int32)) (gtd : Int32) (gfl : Int32 × Int32) (grd : Int32 × Int32 × Int32 × Int32 × Int32 × Int32 × Int64 × (Nat → Int32)) (gnv : Int32 × Int32 × Int32 × Int32 × Int32 × (Nat → Int32) × (Nat → Int32) × (Nat → Int32) × (Nat → Int32) × (Nat → Int32) × (Nat → Int32)) (gac : Int32 × (Nat → Int32) × (Nat → Int32)) (grc : Int32 × (Nat → Int32)) (gim : Int32 × Int32 × Int32 × (Nat → Int32) × (Nat → Int32) × (Nat → Int32) × (Nat → Int32) × (Nat → Int32) × (Nat → Int32) × (Nat → Int32) × (Nat → Int32) × (Nat → Int32)) (sz : Nat) (R0 : Int32 × (Int32) × (Int32 × (Nat → Int32))) (h : p_X13_lose gth grc = some R0) : Met l yX13_lose wsX13_lose rm_X13_lose (va_Pc [.ref (a0 0)] (prC dC dI cy (w_X13_lose cy a0 gth gvm gtd gfl grd gnv gac grc gim) sz)) (va_Qi (fun (r : Int32) (u : (Int32) × (Int32 × (Nat → Int32))) => r = R0.1 ∧ u = R0.2) (fun (u : (Int32) × (Int32 × (Nat → Int32))) t => poC dC dI cy (w_X13_lose cy a0 u.1 gvm gtd gfl grd gnv gac u.2 gim) t) (va_A (w_X13_lose cy a0 gth gvm gtd gfl grd gnv gac grc gim) sz)) 0 0 (va_A (w_X13_lose cy a0 gth gvm gtd gfl grd gnv gac grc gim) sz) := by
  refine Met.ofW (cc := cX13_lose) (maxL := 1) (ret := (some .int)) (by decide) rfl ?_
  intro p e s m aa below meth c s₁ B hml hv
  obtain ⟨haa, hsz, hP, hK, hD0⟩ := hv
  have hx := B.exec
  have hb := B.bytes
  have hr := B.returns
  have hts := atoms_spec (ws := wsX13_lose) B.pre
  have hown : s.vm.findClass RX13 = some m.cls := findClass_of_methodNamed B.named
  have hlocks := B.notSynchronized
  subst hsz
  have hD := hD0.self (sz := s.heap.size)
  obtain ⟨qq, hqq⟩ : ∃ qq, qq = (va_Qi (fun (r : Int32) (u : (Int32) × (Int32 × (Nat → Int32))) => r = R0.1 ∧ u = R0.2) (fun (u : (Int32) × (Int32 × (Nat → Int32))) t => poC dC dI cy (w_X13_lose cy a0 u.1 gvm gtd gfl grd gnv gac u.2 gim) t) (va_A (w_X13_lose cy a0 gth gvm gtd gfl grd gnv gac grc gim) s.heap.size)) := ⟨_, rfl⟩
  rw [← hqq]
  generalize hAe : va_A (w_X13_lose cy a0 gth gvm gtd gfl grd gnv gac grc gim) s.heap.size = A at hD hqq ⊢
  have hA : ∀ q : Nat, s.heap.size ≤ q → A q := fun q h => by rw [← hAe]; exact Or.inr h
  have hS : va_S A s.heap s.heap [] := va_S.rf
  have hl := lv_entry ([.ref (a0 0)]) (n := 1) (Nat.le_of_ble_eq_true rfl)
  have hE : entryFrame m aa 1 = F0 m 0 ((lg_sl ([.ref (a0 0)]) ++ List.replicate (1 - (lg_sl ([.ref (a0 0)])).length) Slot.unset).toArray) [] := by rw [haa]; exact lg_entry_eq m _ 1
  refine W.eq hE ?_
  generalize (lg_sl ([.ref (a0 0)]) ++ List.replicate (1 - (lg_sl ([.ref (a0 0)])).length) Slot.unset).toArray = ls at hl ⊢
  have hl : lv_has ls 1 [(0, .ref (a0 0))] := hl
  change W p l e rm_X13_lose s m aa below meth c s.heap [] 0 0 (MQ below qq aa s 0 0 A) (F0 m 0 ls [])
  have hS0 := hS
  have lk0 := hts (.fieldLink RX13 135 "GoatDoorsModel" "thrown" "I") (by decide +kernel)
  have lk1 := hts (.fieldLink RX13 261 "GoatDoorsModel" "receipts" "I") (by decide +kernel)
  have in_X13 : ∀ w ∈ wsX130, w ∈ wsX13_lose := by decide +kernel
  obtain ⟨H, hH⟩ : ∃ H : Heap, H = s.heap := ⟨_, rfl⟩
  obtain ⟨locs, hlocs⟩ : ∃ locs : List Loc, locs = [] := ⟨_, rfl⟩
  have hS : va_S A s.heap H locs := by rw [hH, hlocs]; exact hS
  rw [← hH] at hP
  suffices hg : W p l e rm_X13_lose s m aa below meth c H locs 0 0 (MQ below qq aa s 0 0 A) (F0 m 0 ls []) by subst hH; subst hlocs; exact hg
  unfold p_X13_lose at h
  refine lv_aload_n hx hb dX13_lose_0 rfl (lv_at hl 0 rfl) ?_
  refine lv_iconst (v := (0 : Int32)) hx hb dX13_lose_1 (by decide) ?_
  refine va_put (D := (dC, dI)) (ci := 11) (v := .int (0 : Int32)) (ty := .int) (C := RX13) (T := TX13) (N := 64) hx hb hts in_X13 tyX13 tyX13_ok nmX13 hown hK hP hD hS 0 rfl rfl 0 (by decide) lk0 (fun _ h9 => h9) rfl (by decide +kernel) rfl rfl (Nat.le_of_ble_eq_true rfl) dX13_lose_2 (fun H locs hP hD hS => ?_)
  have hP : va_P (dC, dI) vwCl (w_X13_lose cy a0 ((0 : Int32)) gvm gtd gfl grd gnv gac grc gim) H := hP
  have hD : va_D A (w_X13_lose cy a0 ((0 : Int32)) gvm gtd gfl grd gnv gac grc gim) := hD
  refine lv_aload_n hx hb dX13_lose_5 rfl (lv_at hl 0 rfl) ?_
  refine va_get (D := (dC, dI)) (ci := 11) (v := .int grc.1) (C := RX13) (T := TX13) (N := 64) hx hb hts in_X13 hown hK hP 0 rfl rfl 47 (by decide) lk1 (fun _ h9 => h9) rfl dX13_lose_6 ?_
  refine lv_if_ne (tgt := 14) hx hb dX13_lose_9 (by decide) (fun c1 => ?_) (fun c1 => ?_)
  · rw [if_neg c1] at h
    refine lv_aload_n hx hb dX13_lose_14 rfl (lv_at hl 0 rfl) ?_
    refine lv_dup hx hb dX13_lose_15 rfl ?_
    refine va_get (D := (dC, dI)) (ci := 11) (v := .int grc.1) (C := RX13) (T := TX13) (N := 64) hx hb hts in_X13 hown hK hP 0 rfl rfl 47 (by decide) lk1 (fun _ h9 => h9) rfl dX13_lose_16 ?_
    refine lv_iconst (v := (1 : Int32)) hx hb dX13_lose_19 (by decide) ?_
    refine lv_isub hx hb dX13_lose_20 ?_
    refine va_put (D := (dC, dI)) (ci := 11) (v := .int (grc.1 - (1 : Int32))) (ty := .int) (C := RX13) (T := TX13) (N := 64) hx hb hts in_X13 tyX13 tyX13_ok nmX13 hown hK hP hD hS 0 rfl rfl 47 (by decide) lk1 (fun _ h9 => h9) rfl (by decide +kernel) rfl rfl (Nat.le_of_ble_eq_true rfl) dX13_lose_21 (fun H locs hP hD hS => ?_)
    have hP : va_P (dC, dI) vwCl (w_X13_lose cy a0 ((0 : Int32)) gvm gtd gfl grd gnv gac (((grc.1 - (1 : Int32)), grc.2)) gim) H := hP
    have hD : va_D A (w_X13_lose cy a0 ((0 : Int32)) gvm gtd gfl grd gnv gac (((grc.1 - (1 : Int32)), grc.2)) gim) := hD
    refine lv_aload_n hx hb dX13_lose_24 rfl (lv_at hl 0 rfl) ?_
    refine va_get (D := (dC, dI)) (ci := 11) (v := .int (grc.1 - (1 : Int32))) (C := RX13) (T := TX13) (N := 64) hx hb hts in_X13 hown hK hP 0 rfl rfl 47 (by decide) lk1 (fun _ h9 => h9) rfl dX13_lose_25 ?_
    exact W.iret (v := (grc.1 - (1 : Int32))) hx hb hr (fun t ht hW => by rw [hqq]; have hh := Option.some.inj h; exact ⟨⟨(grc.1 - (1 : Int32)), (((0 : Int32), ((grc.1 - (1 : Int32)), grc.2))), rfl, ⟨fst_of hh, snd_of hh⟩, by rw [ht]; exact hP, va_K.moved hW.alike hK⟩, hS.F ht⟩) hS.2.2 dX13_lose_28
  · rw [if_pos c1] at h
    refine lv_iconst (v := (-1 : Int32)) hx hb dX13_lose_12 (by decide) ?_
    exact W.iret (v := (-1 : Int32)) hx hb hr (fun t ht hW => by rw [hqq]; have hh := Option.some.inj h; exact ⟨⟨(-1 : Int32), (((0 : Int32), grc)), rfl, ⟨fst_of hh, snd_of hh⟩, by rw [ht]; exact hP, va_K.moved hW.alike hK⟩, hS.F ht⟩) hS.2.2 dX13_lose_13

abbrev w_X13_isChalked (cy : Nat → ClassId) (a0 : Nat → Nat) (gth : Int32) (gvm : Int32 × Int32 × Int32 × (Nat → Int32) × (Nat → Int32) × (Nat → Int32) × (Nat → Int32) × (Nat → Int32) × (Nat → Int32) × (Nat → Int32) × (Nat → Int32) × (Nat → Int32)) (gtd : Int32) (gfl : Int32 × Int32) (grd : Int32 × Int32 × Int32 × Int32 × Int32 × Int32 × Int64 × (Nat → Int32)) (gnv : Int32 × Int32 × Int32 × Int32 × Int32 × (Nat → Int32) × (Nat → Int32) × (Nat → Int32) × (Nat → Int32) × (Nat → Int32) × (Nat → Int32)) (gac : Int32 × (Nat → Int32) × (Nat → Int32)) (gla : (Nat → Int32)) (grc : Int32 × (Nat → Int32)) (gim : Int32 × Int32 × Int32 × (Nat → Int32) × (Nat → Int32) × (Nat → Int32) × (Nat → Int32) × (Nat → Int32) × (Nat → Int32) × (Nat → Int32) × (Nat → Int32) × (Nat → Int32)) : va_W := [(a0 0, .inr (11, [.int (gth), .int (gvm.1), .int (gvm.2.1), .int (gvm.2.2.1), .ref (a0 1), .ref (a0 2), .ref (a0 3), .ref (a0 4), .ref (a0 5), .ref (a0 6), .ref (a0 7), .ref (a0 8), .ref (a0 9), .ref (a0 10), .int (gtd), .int (gfl.1), .int (gfl.2), .ref (a0 11), .int (grd.1), .int (grd.2.1), .int (grd.2.2.1), .int (grd.2.2.2.1), .int (grd.2.2.2.2.1), .int (grd.2.2.2.2.2.1), .long (grd.2.2.2.2.2.2.1), .ref (a0 12), .int (gnv.1), .int (gnv.2.1), .int (gnv.2.2.1), .int (gnv.2.2.2.1), .int (gnv.2.2.2.2.1), .ref (a0 13), .ref (a0 14), .ref (a0 15), .ref (a0 16), .ref (a0 17), .ref (a0 18), .int (gac.1), .ref (a0 19), .ref (a0 20), .ref (a0 21), .ref (a0 22), .ref (a0 23), .ref (a0 24), .ref (a0 25), .ref (a0 26), .ref (a0 27), .int (grc.1), .ref (a0 28), .ref (a0 29), .ref (a0 30), .ref (a0 31), .int (gim.1), .int (gim.2.1), .int (gim.2.2.1), .ref (a0 32), .ref (a0 33), .ref (a0 34), .ref (a0 35), .ref (a0 36), .ref (a0 37), .ref (a0 38), .ref (a0 39), .ref (a0 40)])), (a0 21, .inl (cy 1, 620, .inl (gla))), (a0 28, .inl (cy 1, 36, .inl (grc.2)))]
abbrev rm_X13_isChalked : Room := { frames := 0, cells := 0, slots := 0, locals := 0 }
set_option maxHeartbeats 1000000 in
set_option maxRecDepth 100000 in
theorem c_X13_isChalked (l : Launch) (dC : Nat → ClassId) (dI : Nat → Nat → Nat) (cy : Nat → ClassId) (a0 : Nat → Nat) (gth : Int32) (gvm : Int32 × Int32 × Int32 × (Nat → Int32) × (Nat → Int32) × (Nat → Int32) × (Nat → Int32) × (Nat → Int32) × (Nat → Int32) × (Nat → Int32) × (Nat → Int32) × (Nat → Int32)) (gtd : Int32) (gfl : Int32 × Int32) (grd : Int32 × Int32 × Int32 × Int32 × Int32 × Int32 × Int64 × (Nat → Int32)) (gnv : Int32 × Int32 × Int32 × Int32 × Int32 × (Nat → Int32) × (Nat → Int32) × (Nat → Int32) × (Nat → Int32) × (Nat → Int32) × (Nat → Int32)) (gac : Int32 × (Nat → Int32) × (Nat → Int32)) (gla : (Nat → Int32)) (grc : Int32 × (Nat → Int32)) (gim : Int32 × Int32 × Int32 × (Nat → Int32) × (Nat → Int32) × (Nat → Int32) × (Nat → Int32) × (Nat → Int32) × (Nat → Int32) × (Nat → Int32) × (Nat → Int32) × (Nat → Int32)) (x1 : Int32) (sz : Nat) (R0 : Int32) (h : p_X13_isChalked gla grc x1 = some R0) : Met l yX13_isChalked wsX13_isChalked rm_X13_isChalked (va_Pc [.ref (a0 0), .int x1] (prC dC dI cy (w_X13_isChalked cy a0 gth gvm gtd gfl grd gnv gac gla grc gim) sz)) (va_Qi (fun (r : Int32) (_ : Unit) => r = R0) (fun (_ : Unit) t => poC dC dI cy (w_X13_isChalked cy a0 gth gvm gtd gfl grd gnv gac gla grc gim) t) (va_A (w_X13_isChalked cy a0 gth gvm gtd gfl grd gnv gac gla grc gim) sz)) 0 0 (va_A (w_X13_isChalked cy a0 gth gvm gtd gfl grd gnv gac gla grc gim) sz) := by
  refine Met.ofW (cc := cX13_isChalked) (maxL := 7) (ret := (some .boolean)) (by decide) rfl ?_
  intro p e s m aa below meth c s₁ B hml hv
  obtain ⟨haa, hsz, hP, hK, hD0⟩ := hv
  have hx := B.exec
  have hb := B.bytes
  have hr := B.returns
  have hts := atoms_spec (ws := wsX13_isChalked) B.pre
  have hown : s.vm.findClass RX13 = some m.cls := findClass_of_methodNamed B.named
  have hlocks := B.notSynchronized
  subst hsz
  have hD := hD0.self (sz := s.heap.size)
  obtain ⟨qq, hqq⟩ : ∃ qq, qq = (va_Qi (fun (r : Int32) (_ : Unit) => r = R0) (fun (_ : Unit) t => poC dC dI cy (w_X13_isChalked cy a0 gth gvm gtd gfl grd gnv gac gla grc gim) t) (va_A (w_X13_isChalked cy a0 gth gvm gtd gfl grd gnv gac gla grc gim) s.heap.size)) := ⟨_, rfl⟩
  rw [← hqq]
  generalize hAe : va_A (w_X13_isChalked cy a0 gth gvm gtd gfl grd gnv gac gla grc gim) s.heap.size = A at hD hqq ⊢
  have hA : ∀ q : Nat, s.heap.size ≤ q → A q := fun q h => by rw [← hAe]; exact Or.inr h
  have hS : va_S A s.heap s.heap [] := va_S.rf
  have hl := lv_entry ([.ref (a0 0), .int x1]) (n := 7) (Nat.le_of_ble_eq_true rfl)
  have hE : entryFrame m aa 7 = F0 m 0 ((lg_sl ([.ref (a0 0), .int x1]) ++ List.replicate (7 - (lg_sl ([.ref (a0 0), .int x1])).length) Slot.unset).toArray) [] := by rw [haa]; exact lg_entry_eq m _ 7
  refine W.eq hE ?_
  generalize (lg_sl ([.ref (a0 0), .int x1]) ++ List.replicate (7 - (lg_sl ([.ref (a0 0), .int x1])).length) Slot.unset).toArray = ls at hl ⊢
  have hl : lv_has ls 7 [(0, .ref (a0 0)), (1, .int x1)] := hl
  change W p l e rm_X13_isChalked s m aa below meth c s.heap [] 0 0 (MQ below qq aa s 0 0 A) (F0 m 0 ls [])
  have hS0 := hS
  have lk0 := hts (.fieldLink RX13 95 "GoatDoorsModel" "receipt" "[I") (by decide +kernel)
  have lk1 := hts (.fieldLink RX13 74 "GoatDoorsModel" "laid" "[I") (by decide +kernel)
  have lk2 := hts (.fieldLink RX13 261 "GoatDoorsModel" "receipts" "I") (by decide +kernel)
  have in_X13 : ∀ w ∈ wsX130, w ∈ wsX13_isChalked := by decide +kernel
  have c80 : ∀ (k2 : Int32 → Int32 → Option (Int32)) (hk2 : ∀ (x1 : Int32) (x2 : Int32) (H : Heap) (locs : List Loc) (ls : Array Slot), k2 x1 x2 = some R0 → va_P (dC, dI) vwCl (w_X13_isChalked cy a0 gth gvm gtd gfl grd gnv gac gla grc gim) H → va_D A (w_X13_isChalked cy a0 gth gvm gtd gfl grd gnv gac gla grc gim) → va_S A s.heap H locs → lv_has ls 7 [(0, .ref (a0 0)), (1, .int x1), (2, .int x2)] → W p l e rm_X13_isChalked s m aa below meth c H locs 0 0 (MQ below qq aa s 0 0 A) (F0 m 2 ls [])) (k29 : Int32 → Int32 → Int32 → Int64 → Int32 → Option (Int32)) (hk29 : ∀ (x1 : Int32) (x2 : Int32) (x3 : Int32) (x4 : Int64) (x6 : Int32) (H : Heap) (locs : List Loc) (ls : Array Slot), k29 x1 x2 x3 x4 x6 = some R0 → va_P (dC, dI) vwCl (w_X13_isChalked cy a0 gth gvm gtd gfl grd gnv gac gla grc gim) H → va_D A (w_X13_isChalked cy a0 gth gvm gtd gfl grd gnv gac gla grc gim) → va_S A s.heap H locs → lv_has ls 7 [(0, .ref (a0 0)), (1, .int x1), (2, .int x2), (3, .int x3), (4, .long x4), (6, .int x6)] → W p l e rm_X13_isChalked s m aa below meth c H locs 0 0 (MQ below qq aa s 0 0 A) (F0 m 29 ls [])), ∀ (x1 : Int32) (x2 : Int32) (x3 : Int32) (x6 : Int32) (t0 : Int64) (t1 : Int64) (H : Heap) (locs : List Loc) (ls : Array Slot), p_X13_isChalked_80 k2 k29 gla grc x1 x2 x3 x6 t0 t1 = some R0 → va_P (dC, dI) vwCl (w_X13_isChalked cy a0 gth gvm gtd gfl grd gnv gac gla grc gim) H → va_D A (w_X13_isChalked cy a0 gth gvm gtd gfl grd gnv gac gla grc gim) → va_S A s.heap H locs → lv_has ls 7 [(0, .ref (a0 0)), (1, .int x1), (2, .int x2), (3, .int x3), (6, .int x6)] → W p l e rm_X13_isChalked s m aa below meth c H locs 0 0 (MQ below qq aa s 0 0 A) (F0 m 80 ls [.long t1, .long t0]) := by
    intro k2 hk2 k29 hk29 x1 x2 x3 x6 t0 t1 H locs ls h hP hD hS hl
    unfold p_X13_isChalked_80 at h
    refine lv_ladd hx hb dX13_isChalked_80 ?_
    refine lv_lstore (lv' := [(4, .long (t0 + t1)), (0, .ref (a0 0)), (1, .int x1), (2, .int x2), (3, .int x3), (6, .int x6)]) hx hb dX13_isChalked_81 hl (by decide) rfl (fun ls hl => ?_)
    refine lv_iinc (v := (x6 + (1 : Int32))) (lv' := [(6, .int (x6 + (1 : Int32))), (4, .long (t0 + t1)), (0, .ref (a0 0)), (1, .int x1), (2, .int x2), (3, .int x3)]) hx hb dX13_isChalked_83 hl (k := 5) rfl rfl (by decide) rfl (fun ls hl => ?_)
    refine lv_goto (tgt := 29) hx hb dX13_isChalked_86 (by decide) ?_
    exact hk29 x1 x2 x3 (t0 + t1) (x6 + (1 : Int32)) H locs ls h hP hD hS (lv_sub hl [2, 3, 4, 5, 1, 0] rfl)
  have c73 : ∀ (k2 : Int32 → Int32 → Option (Int32)) (hk2 : ∀ (x1 : Int32) (x2 : Int32) (H : Heap) (locs : List Loc) (ls : Array Slot), k2 x1 x2 = some R0 → va_P (dC, dI) vwCl (w_X13_isChalked cy a0 gth gvm gtd gfl grd gnv gac gla grc gim) H → va_D A (w_X13_isChalked cy a0 gth gvm gtd gfl grd gnv gac gla grc gim) → va_S A s.heap H locs → lv_has ls 7 [(0, .ref (a0 0)), (1, .int x1), (2, .int x2)] → W p l e rm_X13_isChalked s m aa below meth c H locs 0 0 (MQ below qq aa s 0 0 A) (F0 m 2 ls [])) (k29 : Int32 → Int32 → Int32 → Int64 → Int32 → Option (Int32)) (hk29 : ∀ (x1 : Int32) (x2 : Int32) (x3 : Int32) (x4 : Int64) (x6 : Int32) (H : Heap) (locs : List Loc) (ls : Array Slot), k29 x1 x2 x3 x4 x6 = some R0 → va_P (dC, dI) vwCl (w_X13_isChalked cy a0 gth gvm gtd gfl grd gnv gac gla grc gim) H → va_D A (w_X13_isChalked cy a0 gth gvm gtd gfl grd gnv gac gla grc gim) → va_S A s.heap H locs → lv_has ls 7 [(0, .ref (a0 0)), (1, .int x1), (2, .int x2), (3, .int x3), (4, .long x4), (6, .int x6)] → W p l e rm_X13_isChalked s m aa below meth c H locs 0 0 (MQ below qq aa s 0 0 A) (F0 m 29 ls [])), ∀ (x1 : Int32) (x2 : Int32) (x3 : Int32) (x6 : Int32) (t0 : Int64) (t2 : Int32) (t3 : Int32) (H : Heap) (locs : List Loc) (ls : Array Slot), p_X13_isChalked_73 k2 k29 gla grc x1 x2 x3 x6 t0 t2 t3 = some R0 → va_P (dC, dI) vwCl (w_X13_isChalked cy a0 gth gvm gtd gfl grd gnv gac gla grc gim) H → va_D A (w_X13_isChalked cy a0 gth gvm gtd gfl grd gnv gac gla grc gim) → va_S A s.heap H locs → lv_has ls 7 [(0, .ref (a0 0)), (1, .int x1), (2, .int x2), (3, .int x3), (6, .int x6)] → W p l e rm_X13_isChalked s m aa below meth c H locs 0 0 (MQ below qq aa s 0 0 A) (F0 m 73 ls [.int t3, .int t2, .ref (a0 21), .long t0]) := by
    intro k2 hk2 k29 hk29 x1 x2 x3 x6 t0 t2 t3 H locs ls h hP hD hS hl
    unfold p_X13_isChalked_73 at h
    refine lv_iadd hx hb dX13_isChalked_73 ?_
    obtain ⟨hi1, h⟩ := ok_if h
    refine va_iald hx hb hK hP 1 1 rfl rfl (ix_in hi1) dX13_isChalked_74 ?_
    refine lv_i2l hx hb dX13_isChalked_75 rfl ?_
    refine lv_goto (tgt := 80) hx hb dX13_isChalked_76 (by decide) ?_
    exact c80 k2 hk2 k29 hk29 x1 x2 x3 x6 t0 ((gla (t2 + t3).toNatClampNeg).toInt64) H locs ls h hP hD hS (lv_sub hl [0, 1, 2, 3, 4] rfl)
  have c29 : ∀ (k2 : Int32 → Int32 → Option (Int32)) (hk2 : ∀ (x1 : Int32) (x2 : Int32) (H : Heap) (locs : List Loc) (ls : Array Slot), k2 x1 x2 = some R0 → va_P (dC, dI) vwCl (w_X13_isChalked cy a0 gth gvm gtd gfl grd gnv gac gla grc gim) H → va_D A (w_X13_isChalked cy a0 gth gvm gtd gfl grd gnv gac gla grc gim) → va_S A s.heap H locs → lv_has ls 7 [(0, .ref (a0 0)), (1, .int x1), (2, .int x2)] → W p l e rm_X13_isChalked s m aa below meth c H locs 0 0 (MQ below qq aa s 0 0 A) (F0 m 2 ls [])) (n : Nat), ∀ (x1 : Int32) (x2 : Int32) (x3 : Int32) (x4 : Int64) (x6 : Int32) (H : Heap) (locs : List Loc) (ls : Array Slot), p_X13_isChalked_29 k2 gla grc n x1 x2 x3 x4 x6 = some R0 → va_P (dC, dI) vwCl (w_X13_isChalked cy a0 gth gvm gtd gfl grd gnv gac gla grc gim) H → va_D A (w_X13_isChalked cy a0 gth gvm gtd gfl grd gnv gac gla grc gim) → va_S A s.heap H locs → lv_has ls 7 [(0, .ref (a0 0)), (1, .int x1), (2, .int x2), (3, .int x3), (4, .long x4), (6, .int x6)] → W p l e rm_X13_isChalked s m aa below meth c H locs 0 0 (MQ below qq aa s 0 0 A) (F0 m 29 ls []) := by
    intro k2 hk2 n
    induction n with
    | zero => intro x1 x2 x3 x4 x6 H locs ls h; exact no_some h
    | succ n ih =>
      intro x1 x2 x3 x4 x6 H locs ls h hP hD hS hl
      rw [p_X13_isChalked_29.eq_2] at h
      refine lv_iload hx hb dX13_isChalked_29 (lv_at hl 5 rfl) ?_
      refine lv_bipush (v := (10 : Int32)) hx hb dX13_isChalked_31 (by decide) ?_
      refine lv_icmp_ge (tgt := 89) hx hb dX13_isChalked_33 (by decide) (fun c1 => ?_) (fun c1 => ?_)
      · rw [if_pos c1] at h
        refine lv_lload hx hb dX13_isChalked_89 (lv_at hl 4 rfl) ?_
        refine lv_aload_n hx hb dX13_isChalked_91 rfl (lv_at hl 0 rfl) ?_
        refine va_get (D := (dC, dI)) (ci := 11) (v := .ref (a0 28)) (C := RX13) (T := TX13) (N := 64) hx hb hts in_X13 hown hK hP 0 rfl rfl 48 (by decide) lk0 (fun _ h9 => h9) rfl dX13_isChalked_92 ?_
        refine lv_iconst (v := (3 : Int32)) hx hb dX13_isChalked_95 (by decide) ?_
        refine lv_iload_n hx hb dX13_isChalked_96 rfl (lv_at hl 2 rfl) ?_
        refine lv_imul hx hb dX13_isChalked_97 ?_
        refine lv_iconst (v := (1 : Int32)) hx hb dX13_isChalked_98 (by decide) ?_
        refine lv_iadd hx hb dX13_isChalked_99 ?_
        obtain ⟨hi2, h⟩ := ok_if h
        refine va_iald hx hb hK hP 2 1 rfl rfl (ix_in hi2) dX13_isChalked_100 ?_
        refine lv_i2l hx hb dX13_isChalked_101 rfl ?_
        refine W.lcmp hx hb dX13_isChalked_102 ?_
        refine lv_if_eq (tgt := 108) hx hb dX13_isChalked_103 (by decide) (fun c3 => ?_) (fun c3 => ?_)
        · rw [if_pos c3] at h
          refine lv_iinc (v := (x2 + (1 : Int32))) (lv' := [(2, .int (x2 + (1 : Int32))), (0, .ref (a0 0)), (1, .int x1), (3, .int x3), (4, .long x4), (6, .int x6)]) hx hb dX13_isChalked_108 hl (k := 2) rfl rfl (by decide) rfl (fun ls hl => ?_)
          refine lv_goto (tgt := 2) hx hb dX13_isChalked_111 (by decide) ?_
          exact hk2 x1 (x2 + (1 : Int32)) H locs ls h hP hD hS (lv_sub hl [1, 2, 0] rfl)
        · rw [if_neg c3] at h
          refine lv_iconst (v := (0 : Int32)) hx hb dX13_isChalked_106 (by decide) ?_
          exact W.zret (v := (0 : Int32)) (ty := .boolean) hx hb hr rfl (fun t ht hW => by rw [hqq]; have hh := Option.some.inj h; exact ⟨⟨(0 : Int32), (()), rfl, Option.some.inj h, by rw [ht]; exact hP, va_K.moved hW.alike hK⟩, hS.F ht⟩) hS.2.2 dX13_isChalked_107
      · rw [if_neg c1] at h
        refine lv_lload hx hb dX13_isChalked_36 (lv_at hl 4 rfl) ?_
        refine lv_aload_n hx hb dX13_isChalked_38 rfl (lv_at hl 0 rfl) ?_
        refine va_get (D := (dC, dI)) (ci := 11) (v := .ref (a0 28)) (C := RX13) (T := TX13) (N := 64) hx hb hts in_X13 hown hK hP 0 rfl rfl 48 (by decide) lk0 (fun _ h9 => h9) rfl dX13_isChalked_39 ?_
        refine lv_iconst (v := (3 : Int32)) hx hb dX13_isChalked_42 (by decide) ?_
        refine lv_iload_n hx hb dX13_isChalked_43 rfl (lv_at hl 2 rfl) ?_
        refine lv_imul hx hb dX13_isChalked_44 ?_
        obtain ⟨hi4, h⟩ := ok_if h
        refine va_iald hx hb hK hP 2 1 rfl rfl (ix_in hi4) dX13_isChalked_45 ?_
        refine lv_iload hx hb dX13_isChalked_46 (lv_at hl 5 rfl) ?_
        refine lv_ishr hx hb dX13_isChalked_48 ?_
        refine lv_iconst (v := (1 : Int32)) hx hb dX13_isChalked_49 (by decide) ?_
        refine lv_iand hx hb dX13_isChalked_50 ?_
        refine lv_iconst (v := (1 : Int32)) hx hb dX13_isChalked_51 (by decide) ?_
        refine lv_icmp_ne (tgt := 79) hx hb dX13_isChalked_52 (by decide) (fun c5 => ?_) (fun c5 => ?_)
        · rw [if_neg c5] at h
          refine lv_lconst (v := (0 : Int64)) hx hb dX13_isChalked_79 (by decide) ?_
          exact c80 k2 hk2 (p_X13_isChalked_29 k2 gla grc n) ih x1 x2 x3 x6 x4 (0 : Int64) H locs ls h hP hD hS (lv_sub hl [0, 1, 2, 3, 5] rfl)
        · rw [if_pos c5] at h
          refine lv_aload_n hx hb dX13_isChalked_55 rfl (lv_at hl 0 rfl) ?_
          refine va_get (D := (dC, dI)) (ci := 11) (v := .ref (a0 21)) (C := RX13) (T := TX13) (N := 64) hx hb hts in_X13 hown hK hP 0 rfl rfl 40 (by decide) lk1 (fun _ h9 => h9) rfl dX13_isChalked_56 ?_
          refine lv_bipush (v := (62 : Int32)) hx hb dX13_isChalked_59 (by decide) ?_
          refine lv_iload hx hb dX13_isChalked_61 (lv_at hl 5 rfl) ?_
          refine lv_imul hx hb dX13_isChalked_63 ?_
          refine lv_iload_n hx hb dX13_isChalked_64 rfl (lv_at hl 3 rfl) ?_
          refine lv_if_ge (tgt := 72) hx hb dX13_isChalked_65 (by decide) (fun c6 => ?_) (fun c6 => ?_)
          · rw [if_pos c6] at h
            refine lv_iload_n hx hb dX13_isChalked_72 rfl (lv_at hl 3 rfl) ?_
            exact c73 k2 hk2 (p_X13_isChalked_29 k2 gla grc n) ih x1 x2 x3 x6 x4 ((62 : Int32) * x6) x3 H locs ls h hP hD hS (lv_sub hl [0, 1, 2, 3, 5] rfl)
          · rw [if_neg c6] at h
            refine lv_iconst (v := (0 : Int32)) hx hb dX13_isChalked_68 (by decide) ?_
            refine lv_goto (tgt := 73) hx hb dX13_isChalked_69 (by decide) ?_
            exact c73 k2 hk2 (p_X13_isChalked_29 k2 gla grc n) ih x1 x2 x3 x6 x4 ((62 : Int32) * x6) (0 : Int32) H locs ls h hP hD hS (lv_sub hl [0, 1, 2, 3, 5] rfl)
  have c2 : ∀ (n : Nat), ∀ (x1 : Int32) (x2 : Int32) (H : Heap) (locs : List Loc) (ls : Array Slot), p_X13_isChalked_2 gla grc n x1 x2 = some R0 → va_P (dC, dI) vwCl (w_X13_isChalked cy a0 gth gvm gtd gfl grd gnv gac gla grc gim) H → va_D A (w_X13_isChalked cy a0 gth gvm gtd gfl grd gnv gac gla grc gim) → va_S A s.heap H locs → lv_has ls 7 [(0, .ref (a0 0)), (1, .int x1), (2, .int x2)] → W p l e rm_X13_isChalked s m aa below meth c H locs 0 0 (MQ below qq aa s 0 0 A) (F0 m 2 ls []) := by
    intro  n
    induction n with
    | zero => intro x1 x2 H locs ls h; exact no_some h
    | succ n ih =>
      intro x1 x2 H locs ls h hP hD hS hl
      rw [p_X13_isChalked_2.eq_2] at h
      refine lv_iload_n hx hb dX13_isChalked_2 rfl (lv_at hl 2 rfl) ?_
      refine lv_aload_n hx hb dX13_isChalked_3 rfl (lv_at hl 0 rfl) ?_
      refine va_get (D := (dC, dI)) (ci := 11) (v := .int grc.1) (C := RX13) (T := TX13) (N := 64) hx hb hts in_X13 hown hK hP 0 rfl rfl 47 (by decide) lk2 (fun _ h9 => h9) rfl dX13_isChalked_4 ?_
      refine lv_icmp_ge (tgt := 114) hx hb dX13_isChalked_7 (by decide) (fun c1 => ?_) (fun c1 => ?_)
      · rw [if_pos c1] at h
        refine lv_iconst (v := (1 : Int32)) hx hb dX13_isChalked_114 (by decide) ?_
        exact W.zret (v := (1 : Int32)) (ty := .boolean) hx hb hr rfl (fun t ht hW => by rw [hqq]; have hh := Option.some.inj h; exact ⟨⟨(1 : Int32), (()), rfl, Option.some.inj h, by rw [ht]; exact hP, va_K.moved hW.alike hK⟩, hS.F ht⟩) hS.2.2 dX13_isChalked_115
      · rw [if_neg c1] at h
        refine lv_iload_n hx hb dX13_isChalked_10 rfl (lv_at hl 1 rfl) ?_
        refine lv_aload_n hx hb dX13_isChalked_11 rfl (lv_at hl 0 rfl) ?_
        refine va_get (D := (dC, dI)) (ci := 11) (v := .ref (a0 28)) (C := RX13) (T := TX13) (N := 64) hx hb hts in_X13 hown hK hP 0 rfl rfl 48 (by decide) lk0 (fun _ h9 => h9) rfl dX13_isChalked_12 ?_
        refine lv_iconst (v := (3 : Int32)) hx hb dX13_isChalked_15 (by decide) ?_
        refine lv_iload_n hx hb dX13_isChalked_16 rfl (lv_at hl 2 rfl) ?_
        refine lv_imul hx hb dX13_isChalked_17 ?_
        refine lv_iconst (v := (2 : Int32)) hx hb dX13_isChalked_18 (by decide) ?_
        refine lv_iadd hx hb dX13_isChalked_19 ?_
        obtain ⟨hi2, h⟩ := ok_if h
        refine va_iald hx hb hK hP 2 1 rfl rfl (ix_in hi2) dX13_isChalked_20 ?_
        refine lv_iadd hx hb dX13_isChalked_21 ?_
        refine lv_istore_n (lv' := [(3, .int (x1 + (grc.2 (((3 : Int32) * x2) + (2 : Int32)).toNatClampNeg))), (0, .ref (a0 0)), (1, .int x1), (2, .int x2)]) hx hb dX13_isChalked_22 rfl hl (by decide) rfl (fun ls hl => ?_)
        refine lv_lconst (v := (0 : Int64)) hx hb dX13_isChalked_23 (by decide) ?_
        refine lv_lstore (lv' := [(4, .long (0 : Int64)), (3, .int (x1 + (grc.2 (((3 : Int32) * x2) + (2 : Int32)).toNatClampNeg))), (0, .ref (a0 0)), (1, .int x1), (2, .int x2)]) hx hb dX13_isChalked_24 hl (by decide) rfl (fun ls hl => ?_)
        refine lv_iconst (v := (0 : Int32)) hx hb dX13_isChalked_26 (by decide) ?_
        refine lv_istore (lv' := [(6, .int (0 : Int32)), (4, .long (0 : Int64)), (3, .int (x1 + (grc.2 (((3 : Int32) * x2) + (2 : Int32)).toNatClampNeg))), (0, .ref (a0 0)), (1, .int x1), (2, .int x2)]) hx hb dX13_isChalked_27 hl (by decide) rfl (fun ls hl => ?_)
        exact c29 (p_X13_isChalked_2 gla grc n) ih fu x1 x2 (x1 + (grc.2 (((3 : Int32) * x2) + (2 : Int32)).toNatClampNeg)) (0 : Int64) (0 : Int32) H locs ls h hP hD hS (lv_sub hl [3, 4, 5, 2, 1, 0] rfl)
  obtain ⟨H, hH⟩ : ∃ H : Heap, H = s.heap := ⟨_, rfl⟩
  obtain ⟨locs, hlocs⟩ : ∃ locs : List Loc, locs = [] := ⟨_, rfl⟩
  have hS : va_S A s.heap H locs := by rw [hH, hlocs]; exact hS
  rw [← hH] at hP
  suffices hg : W p l e rm_X13_isChalked s m aa below meth c H locs 0 0 (MQ below qq aa s 0 0 A) (F0 m 0 ls []) by subst hH; subst hlocs; exact hg
  unfold p_X13_isChalked at h
  refine lv_iconst (v := (0 : Int32)) hx hb dX13_isChalked_0 (by decide) ?_
  refine lv_istore_n (lv' := [(2, .int (0 : Int32)), (0, .ref (a0 0)), (1, .int x1)]) hx hb dX13_isChalked_1 rfl hl (by decide) rfl (fun ls hl => ?_)
  exact c2 fu x1 (0 : Int32) H locs ls h hP hD hS (lv_sub hl [1, 2, 0] rfl)

abbrev w_X13_chalked (cy : Nat → ClassId) (a0 : Nat → Nat) (gth : Int32) (gvm : Int32 × Int32 × Int32 × (Nat → Int32) × (Nat → Int32) × (Nat → Int32) × (Nat → Int32) × (Nat → Int32) × (Nat → Int32) × (Nat → Int32) × (Nat → Int32) × (Nat → Int32)) (gtd : Int32) (gfl : Int32 × Int32) (grd : Int32 × Int32 × Int32 × Int32 × Int32 × Int32 × Int64 × (Nat → Int32)) (gnv : Int32 × Int32 × Int32 × Int32 × Int32 × (Nat → Int32) × (Nat → Int32) × (Nat → Int32) × (Nat → Int32) × (Nat → Int32) × (Nat → Int32)) (gac : Int32 × (Nat → Int32) × (Nat → Int32)) (gla : (Nat → Int32)) (grc : Int32 × (Nat → Int32)) (gim : Int32 × Int32 × Int32 × (Nat → Int32) × (Nat → Int32) × (Nat → Int32) × (Nat → Int32) × (Nat → Int32) × (Nat → Int32) × (Nat → Int32) × (Nat → Int32) × (Nat → Int32)) : va_W := [(a0 0, .inr (11, [.int (gth), .int (gvm.1), .int (gvm.2.1), .int (gvm.2.2.1), .ref (a0 1), .ref (a0 2), .ref (a0 3), .ref (a0 4), .ref (a0 5), .ref (a0 6), .ref (a0 7), .ref (a0 8), .ref (a0 9), .ref (a0 10), .int (gtd), .int (gfl.1), .int (gfl.2), .ref (a0 11), .int (grd.1), .int (grd.2.1), .int (grd.2.2.1), .int (grd.2.2.2.1), .int (grd.2.2.2.2.1), .int (grd.2.2.2.2.2.1), .long (grd.2.2.2.2.2.2.1), .ref (a0 12), .int (gnv.1), .int (gnv.2.1), .int (gnv.2.2.1), .int (gnv.2.2.2.1), .int (gnv.2.2.2.2.1), .ref (a0 13), .ref (a0 14), .ref (a0 15), .ref (a0 16), .ref (a0 17), .ref (a0 18), .int (gac.1), .ref (a0 19), .ref (a0 20), .ref (a0 21), .ref (a0 22), .ref (a0 23), .ref (a0 24), .ref (a0 25), .ref (a0 26), .ref (a0 27), .int (grc.1), .ref (a0 28), .ref (a0 29), .ref (a0 30), .ref (a0 31), .int (gim.1), .int (gim.2.1), .int (gim.2.2.1), .ref (a0 32), .ref (a0 33), .ref (a0 34), .ref (a0 35), .ref (a0 36), .ref (a0 37), .ref (a0 38), .ref (a0 39), .ref (a0 40)])), (a0 1, .inl (cy 1, 5, .inl (gvm.2.2.2.1))), (a0 2, .inl (cy 1, 5, .inl (gvm.2.2.2.2.1))), (a0 3, .inl (cy 1, 5, .inl (gvm.2.2.2.2.2.1))), (a0 4, .inl (cy 1, 25, .inl (gvm.2.2.2.2.2.2.1))), (a0 5, .inl (cy 1, 10, .inl (gvm.2.2.2.2.2.2.2.1))), (a0 6, .inl (cy 1, 10, .inl (gvm.2.2.2.2.2.2.2.2.1))), (a0 7, .inl (cy 1, 10, .inl (gvm.2.2.2.2.2.2.2.2.2.1))), (a0 8, .inl (cy 1, 10, .inl (gvm.2.2.2.2.2.2.2.2.2.2.1))), (a0 9, .inl (cy 1, 50, .inl (gvm.2.2.2.2.2.2.2.2.2.2.2))), (a0 21, .inl (cy 1, 620, .inl (gla))), (a0 28, .inl (cy 1, 36, .inl (grc.2)))]
abbrev rm_X13_chalked : Room := { frames := 2, cells := 0, slots := 0, locals := 49 }
set_option maxHeartbeats 1000000 in
set_option maxRecDepth 100000 in
theorem c_X13_chalked (l : Launch) (dC : Nat → ClassId) (dI : Nat → Nat → Nat) (cy : Nat → ClassId) (a0 : Nat → Nat) (gth : Int32) (gvm : Int32 × Int32 × Int32 × (Nat → Int32) × (Nat → Int32) × (Nat → Int32) × (Nat → Int32) × (Nat → Int32) × (Nat → Int32) × (Nat → Int32) × (Nat → Int32) × (Nat → Int32)) (gtd : Int32) (gfl : Int32 × Int32) (grd : Int32 × Int32 × Int32 × Int32 × Int32 × Int32 × Int64 × (Nat → Int32)) (gnv : Int32 × Int32 × Int32 × Int32 × Int32 × (Nat → Int32) × (Nat → Int32) × (Nat → Int32) × (Nat → Int32) × (Nat → Int32) × (Nat → Int32)) (gac : Int32 × (Nat → Int32) × (Nat → Int32)) (gla : (Nat → Int32)) (grc : Int32 × (Nat → Int32)) (gim : Int32 × Int32 × Int32 × (Nat → Int32) × (Nat → Int32) × (Nat → Int32) × (Nat → Int32) × (Nat → Int32) × (Nat → Int32) × (Nat → Int32) × (Nat → Int32) × (Nat → Int32)) (x1 : Int32) (sz : Nat) (R0 : Int32 × (Int32) × ((Nat → Int32))) (h : p_X13_chalked gth gvm gla grc x1 = some R0) : Met l yX13_chalked wsX13_chalked rm_X13_chalked (va_Pc [.ref (a0 0), .int x1] (prC dC dI cy (w_X13_chalked cy a0 gth gvm gtd gfl grd gnv gac gla grc gim) sz)) (va_Qi (fun (r : Int32) (u : (Int32) × ((Nat → Int32))) => r = R0.1 ∧ u = R0.2) (fun (u : (Int32) × ((Nat → Int32))) t => poC dC dI cy (w_X13_chalked cy a0 u.1 gvm gtd gfl grd gnv gac u.2 grc gim) t) (va_A (w_X13_chalked cy a0 gth gvm gtd gfl grd gnv gac gla grc gim) sz)) 0 0 (va_A (w_X13_chalked cy a0 gth gvm gtd gfl grd gnv gac gla grc gim) sz) := by
  refine Met.ofW (cc := cX13_chalked) (maxL := 5) (ret := (some .int)) (by decide) rfl ?_
  intro p e s m aa below meth c s₁ B hml hv
  obtain ⟨haa, hsz, hP, hK, hD0⟩ := hv
  have hx := B.exec
  have hb := B.bytes
  have hr := B.returns
  have hts := atoms_spec (ws := wsX13_chalked) B.pre
  have hown : s.vm.findClass RX13 = some m.cls := findClass_of_methodNamed B.named
  have hlocks := B.notSynchronized
  subst hsz
  have hD := hD0.self (sz := s.heap.size)
  obtain ⟨qq, hqq⟩ : ∃ qq, qq = (va_Qi (fun (r : Int32) (u : (Int32) × ((Nat → Int32))) => r = R0.1 ∧ u = R0.2) (fun (u : (Int32) × ((Nat → Int32))) t => poC dC dI cy (w_X13_chalked cy a0 u.1 gvm gtd gfl grd gnv gac u.2 grc gim) t) (va_A (w_X13_chalked cy a0 gth gvm gtd gfl grd gnv gac gla grc gim) s.heap.size)) := ⟨_, rfl⟩
  rw [← hqq]
  generalize hAe : va_A (w_X13_chalked cy a0 gth gvm gtd gfl grd gnv gac gla grc gim) s.heap.size = A at hD hqq ⊢
  have hA : ∀ q : Nat, s.heap.size ≤ q → A q := fun q h => by rw [← hAe]; exact Or.inr h
  have hS : va_S A s.heap s.heap [] := va_S.rf
  have hl := lv_entry ([.ref (a0 0), .int x1]) (n := 5) (Nat.le_of_ble_eq_true rfl)
  have hE : entryFrame m aa 5 = F0 m 0 ((lg_sl ([.ref (a0 0), .int x1]) ++ List.replicate (5 - (lg_sl ([.ref (a0 0), .int x1])).length) Slot.unset).toArray) [] := by rw [haa]; exact lg_entry_eq m _ 5
  refine W.eq hE ?_
  generalize (lg_sl ([.ref (a0 0), .int x1]) ++ List.replicate (5 - (lg_sl ([.ref (a0 0), .int x1])).length) Slot.unset).toArray = ls at hl ⊢
  have hl : lv_has ls 5 [(0, .ref (a0 0)), (1, .int x1)] := hl
  change W p l e rm_X13_chalked s m aa below meth c s.heap [] 0 0 (MQ below qq aa s 0 0 A) (F0 m 0 ls [])
  have hS0 := hS
  have lk0 := hts (.fieldLink RX13 135 "GoatDoorsModel" "thrown" "I") (by decide +kernel)
  have in_X13 : ∀ w ∈ wsX130, w ∈ wsX13_chalked := by decide +kernel
  have c65 : ∀ (k41 : (Int32) → ((Nat → Int32)) → Int32 → Int32 → Int32 → Int32 → Option (Int32 × (Int32) × ((Nat → Int32)))) (hk41 : ∀ (gth : Int32) (gla : (Nat → Int32)) (x1 : Int32) (x2 : Int32) (x3 : Int32) (x4 : Int32) (H : Heap) (locs : List Loc) (ls : Array Slot), k41 gth gla x1 x2 x3 x4 = some R0 → va_P (dC, dI) vwCl (w_X13_chalked cy a0 gth gvm gtd gfl grd gnv gac gla grc gim) H → va_D A (w_X13_chalked cy a0 gth gvm gtd gfl grd gnv gac gla grc gim) → va_S A s.heap H locs → lv_has ls 5 [(0, .ref (a0 0)), (1, .int x1), (2, .int x2), (3, .int x3), (4, .int x4)] → W p l e rm_X13_chalked s m aa below meth c H locs 0 0 (MQ below qq aa s 0 0 A) (F0 m 41 ls [])), ∀ (gth : Int32) (gla : (Nat → Int32)) (x1 : Int32) (x2 : Int32) (x3 : Int32) (x4 : Int32) (H : Heap) (locs : List Loc) (ls : Array Slot), p_X13_chalked_65 k41 gvm grc gth gla x1 x2 x3 x4 = some R0 → va_P (dC, dI) vwCl (w_X13_chalked cy a0 gth gvm gtd gfl grd gnv gac gla grc gim) H → va_D A (w_X13_chalked cy a0 gth gvm gtd gfl grd gnv gac gla grc gim) → va_S A s.heap H locs → lv_has ls 5 [(0, .ref (a0 0)), (1, .int x1), (2, .int x2), (3, .int x3), (4, .int x4)] → W p l e rm_X13_chalked s m aa below meth c H locs 0 0 (MQ below qq aa s 0 0 A) (F0 m 65 ls []) := by
    intro k41 hk41 gth gla x1 x2 x3 x4 H locs ls h hP hD hS hl
    unfold p_X13_chalked_65 at h
    refine lv_iinc (v := (x4 + (-1 : Int32))) (lv' := [(4, .int (x4 + (-1 : Int32))), (0, .ref (a0 0)), (1, .int x1), (2, .int x2), (3, .int x3)]) hx hb dX13_chalked_65 hl (k := 4) rfl rfl (by decide) rfl (fun ls hl => ?_)
    refine lv_goto (tgt := 41) hx hb dX13_chalked_68 (by decide) ?_
    exact hk41 gth gla x1 x2 x3 (x4 + (-1 : Int32)) H locs ls h hP hD hS (lv_sub hl [1, 2, 3, 4, 0] rfl)
  have c41 : ∀ (n : Nat), ∀ (gth : Int32) (gla : (Nat → Int32)) (x1 : Int32) (x2 : Int32) (x3 : Int32) (x4 : Int32) (H : Heap) (locs : List Loc) (ls : Array Slot), p_X13_chalked_41 gvm grc n gth gla x1 x2 x3 x4 = some R0 → va_P (dC, dI) vwCl (w_X13_chalked cy a0 gth gvm gtd gfl grd gnv gac gla grc gim) H → va_D A (w_X13_chalked cy a0 gth gvm gtd gfl grd gnv gac gla grc gim) → va_S A s.heap H locs → lv_has ls 5 [(0, .ref (a0 0)), (1, .int x1), (2, .int x2), (3, .int x3), (4, .int x4)] → W p l e rm_X13_chalked s m aa below meth c H locs 0 0 (MQ below qq aa s 0 0 A) (F0 m 41 ls []) := by
    intro  n
    induction n with
    | zero => intro gth gla x1 x2 x3 x4 H locs ls h; exact no_some h
    | succ n ih =>
      intro gth gla x1 x2 x3 x4 H locs ls h hP hD hS hl
      rw [p_X13_chalked_41.eq_2] at h
      refine lv_iload hx hb dX13_chalked_41 (lv_at hl 4 rfl) ?_
      refine lv_iconst (v := (2 : Int32)) hx hb dX13_chalked_43 (by decide) ?_
      refine lv_icmp_lt (tgt := 71) hx hb dX13_chalked_44 (by decide) (fun c1 => ?_) (fun c1 => ?_)
      · rw [if_pos c1] at h
        refine lv_iload_n hx hb dX13_chalked_71 rfl (lv_at hl 1 rfl) ?_
        refine lv_if_ne (tgt := 79) hx hb dX13_chalked_72 (by decide) (fun c2 => ?_) (fun c2 => ?_)
        · rw [if_neg c2] at h
          refine lv_iload_n hx hb dX13_chalked_79 rfl (lv_at hl 3 rfl) ?_
          exact W.iret (v := x3) hx hb hr (fun t ht hW => by rw [hqq]; have hh := Option.some.inj h; exact ⟨⟨x3, ((gth, gla)), rfl, ⟨fst_of hh, snd_of hh⟩, by rw [ht]; exact hP, va_K.moved hW.alike hK⟩, hS.F ht⟩) hS.2.2 dX13_chalked_80
        · rw [if_pos c2] at h
          refine lv_iload_n hx hb dX13_chalked_75 rfl (lv_at hl 2 rfl) ?_
          refine lv_goto (tgt := 80) hx hb dX13_chalked_76 (by decide) ?_
          exact W.iret (v := x2) hx hb hr (fun t ht hW => by rw [hqq]; have hh := Option.some.inj h; exact ⟨⟨x2, ((gth, gla)), rfl, ⟨fst_of hh, snd_of hh⟩, by rw [ht]; exact hP, va_K.moved hW.alike hK⟩, hS.F ht⟩) hS.2.2 dX13_chalked_80
      · rw [if_neg c1] at h
        refine lv_aload_n hx hb dX13_chalked_47 rfl (lv_at hl 0 rfl) ?_
        refine lv_iload hx hb dX13_chalked_48 (lv_at hl 4 rfl) ?_
        obtain ⟨v3, hv4, h⟩ := ok_bind h
        refine cl_vi (w2 := fun (_ : Unit) => w_X13_chalked cy a0 gth gvm gtd gfl grd gnv gac gla grc gim) (As := [.int x4]) (rest := []) ⟨hx, hb, hml, hown, hts⟩ (c_X13_isChalked l dC dI cy a0 gth gvm gtd gfl grd gnv gac gla grc gim x4 H.size v3 hv4) (cwV 1 hts gX13_chalked_X13_isChalked rfl rfl rfl (by decide +kernel) ⟨Nat.le_of_ble_eq_true rfl, Nat.le_of_ble_eq_true rfl⟩) (va_recv hK hP (ci := 11) (q0 := 0) rfl rfl) cl_blind (cl_pre hK hP hD [0, 10, 11] (by decide) rfl) hP hD hS hA [0, 10, 11] rfl rfl hl.1 rfl (lv_room (Nat.le_of_ble_eq_true rfl)) dX13_chalked_50 ⟨Nat.le_of_ble_eq_true rfl, Nat.le_of_ble_eq_true rfl⟩ ⟨rfl, rfl⟩ (fun _ => updR [0, 10, 11] rfl) (fun r u H locs hw hP hD hS => ?_)
        have hw := hw.symm
        subst hw
        have hP : va_P (dC, dI) vwCl (w_X13_chalked cy a0 gth gvm gtd gfl grd gnv gac gla grc gim) H := hP
        have hD : va_D A (w_X13_chalked cy a0 gth gvm gtd gfl grd gnv gac gla grc gim) := hD
        refine lv_if_ne (tgt := 59) hx hb dX13_chalked_53 (by decide) (fun c5 => ?_) (fun c5 => ?_)
        · rw [if_neg c5] at h
          refine lv_iinc (v := (x2 + (1 : Int32))) (lv' := [(2, .int (x2 + (1 : Int32))), (0, .ref (a0 0)), (1, .int x1), (3, .int x3), (4, .int x4)]) hx hb dX13_chalked_59 hl (k := 2) rfl rfl (by decide) rfl (fun ls hl => ?_)
          refine lv_iload hx hb dX13_chalked_62 (lv_at hl 4 rfl) ?_
          refine lv_istore_n (lv' := [(3, .int x4), (2, .int (x2 + (1 : Int32))), (0, .ref (a0 0)), (1, .int x1), (4, .int x4)]) hx hb dX13_chalked_64 rfl hl (by decide) rfl (fun ls hl => ?_)
          exact c65 (p_X13_chalked_41 gvm grc n) ih gth gla x1 (x2 + (1 : Int32)) x4 x4 H locs ls h hP hD hS (lv_sub hl [2, 3, 1, 0, 4] rfl)
        · rw [if_pos c5] at h
          refine lv_goto (tgt := 65) hx hb dX13_chalked_56 (by decide) ?_
          exact c65 (p_X13_chalked_41 gvm grc n) ih gth gla x1 x2 x3 x4 H locs ls h hP hD hS (lv_sub hl [0, 1, 2, 3, 4] rfl)
  have c20 : ∀ (_u : Unit), ∀ (gth : Int32) (gla : (Nat → Int32)) (x1 : Int32) (t1 : Int32) (H : Heap) (locs : List Loc) (ls : Array Slot), p_X13_chalked_20 gvm grc gth gla x1 t1 = some R0 → va_P (dC, dI) vwCl (w_X13_chalked cy a0 gth gvm gtd gfl grd gnv gac gla grc gim) H → va_D A (w_X13_chalked cy a0 gth gvm gtd gfl grd gnv gac gla grc gim) → va_S A s.heap H locs → lv_has ls 5 [(0, .ref (a0 0)), (1, .int x1)] → W p l e rm_X13_chalked s m aa below meth c H locs 0 0 (MQ below qq aa s 0 0 A) (F0 m 20 ls [.int t1, .ref (a0 0)]) := by
    intro _ gth gla x1 t1 H locs ls h hP hD hS hl
    unfold p_X13_chalked_20 at h
    refine lv_iconst (v := (1 : Int32)) hx hb dX13_chalked_20 (by decide) ?_
    obtain ⟨v1, hv2, h⟩ := ok_bind h
    refine cl_vi (w2 := fun (u : (Int32)) => w_X13_chalked cy a0 u gvm gtd gfl grd gnv gac gla grc gim) (As := [.int t1, .int (1 : Int32)]) (rest := []) ⟨hx, hb, hml, hown, hts⟩ (c_X13_right l dC dI cy a0 gth gvm gtd gfl grd gnv gac grc gim t1 (1 : Int32) H.size v1 hv2) (cwV 2 hts gX13_chalked_X13_right rfl rfl rfl (by decide +kernel) ⟨Nat.le_of_ble_eq_true rfl, Nat.le_of_ble_eq_true rfl⟩) (va_recv hK hP (ci := 11) (q0 := 0) rfl rfl) cl_blind (cl_pre hK hP hD [0] (by decide) rfl) hP hD hS hA [0] rfl rfl hl.1 rfl (lv_room (Nat.le_of_ble_eq_true rfl)) dX13_chalked_21 ⟨Nat.le_of_ble_eq_true rfl, Nat.le_of_ble_eq_true rfl⟩ ⟨rfl, rfl⟩ (fun _ => updM [0] [1, 2, 3, 4, 5, 6, 7, 8, 9, 10, 11] [(a0 1, .inl (cy 1, 5, .inl (gvm.2.2.2.1))), (a0 2, .inl (cy 1, 5, .inl (gvm.2.2.2.2.1))), (a0 3, .inl (cy 1, 5, .inl (gvm.2.2.2.2.2.1))), (a0 4, .inl (cy 1, 25, .inl (gvm.2.2.2.2.2.2.1))), (a0 5, .inl (cy 1, 10, .inl (gvm.2.2.2.2.2.2.2.1))), (a0 6, .inl (cy 1, 10, .inl (gvm.2.2.2.2.2.2.2.2.1))), (a0 7, .inl (cy 1, 10, .inl (gvm.2.2.2.2.2.2.2.2.2.1))), (a0 8, .inl (cy 1, 10, .inl (gvm.2.2.2.2.2.2.2.2.2.2.1))), (a0 9, .inl (cy 1, 50, .inl (gvm.2.2.2.2.2.2.2.2.2.2.2))), (a0 21, .inl (cy 1, 620, .inl (gla))), (a0 28, .inl (cy 1, 36, .inl (grc.2)))] 12 rfl rfl rfl rfl rfl (by decide +kernel) (by decide +kernel) rfl) (fun r u H locs hw hP hD hS => ?_)
    obtain ⟨rfl, rfl⟩ := hw
    have hP : va_P (dC, dI) vwCl (w_X13_chalked cy a0 v1.2 gvm gtd gfl grd gnv gac gla grc gim) H := hP
    have hD : va_D A (w_X13_chalked cy a0 v1.2 gvm gtd gfl grd gnv gac gla grc gim) := hD
    refine lv_if_ne (tgt := 29) hx hb dX13_chalked_24 (by decide) (fun c3 => ?_) (fun c3 => ?_)
    · rw [if_neg c3] at h
      refine lv_aload_n hx hb dX13_chalked_29 rfl (lv_at hl 0 rfl) ?_
      obtain ⟨v4, hv5, h⟩ := ok_bind h
      refine cl_vv (w2 := fun (u : ((Nat → Int32))) => w_X13_chalked cy a0 v1.2 gvm gtd gfl grd gnv gac u grc gim) (As := []) (rest := []) ⟨hx, hb, hml, hown, hts⟩ (c_X13_lay l dC dI cy a0 v1.2 gvm gtd gfl grd gnv gac gla grc gim H.size v4 hv5) (cwV 0 hts gX13_chalked_X13_lay rfl rfl rfl (by decide +kernel) ⟨Nat.le_of_ble_eq_true rfl, Nat.le_of_ble_eq_true rfl⟩) (va_recv hK hP (ci := 11) (q0 := 0) rfl rfl) cl_blind (cl_pre hK hP hD [0, 1, 2, 3, 4, 5, 6, 7, 8, 9, 10] (by decide) rfl) hP hD hS hA [0, 1, 2, 3, 4, 5, 6, 7, 8, 9, 10] rfl rfl hl.1 rfl (lv_room (Nat.le_of_ble_eq_true rfl)) dX13_chalked_30 ⟨Nat.le_of_ble_eq_true rfl, Nat.le_of_ble_eq_true rfl⟩ ⟨rfl, rfl⟩ (fun _ => updM [0, 1, 2, 3, 4, 5, 6, 7, 8, 9, 10] [11] [(a0 28, .inl (cy 1, 36, .inl (grc.2)))] 12 rfl rfl rfl rfl rfl (by decide +kernel) (by decide +kernel) rfl) (fun u H locs hw hP hD hS => ?_)
      have hw := hw.symm
      subst hw
      have hP : va_P (dC, dI) vwCl (w_X13_chalked cy a0 v1.2 gvm gtd gfl grd gnv gac v4 grc gim) H := hP
      have hD : va_D A (w_X13_chalked cy a0 v1.2 gvm gtd gfl grd gnv gac v4 grc gim) := hD
      refine lv_iconst (v := (0 : Int32)) hx hb dX13_chalked_33 (by decide) ?_
      refine lv_istore_n (lv' := [(2, .int (0 : Int32)), (0, .ref (a0 0)), (1, .int x1)]) hx hb dX13_chalked_34 rfl hl (by decide) rfl (fun ls hl => ?_)
      refine lv_iconst (v := (-1 : Int32)) hx hb dX13_chalked_35 (by decide) ?_
      refine lv_istore_n (lv' := [(3, .int (-1 : Int32)), (2, .int (0 : Int32)), (0, .ref (a0 0)), (1, .int x1)]) hx hb dX13_chalked_36 rfl hl (by decide) rfl (fun ls hl => ?_)
      refine lv_bipush (v := (40 : Int32)) hx hb dX13_chalked_37 (by decide) ?_
      refine lv_istore (lv' := [(4, .int (40 : Int32)), (3, .int (-1 : Int32)), (2, .int (0 : Int32)), (0, .ref (a0 0)), (1, .int x1)]) hx hb dX13_chalked_39 hl (by decide) rfl (fun ls hl => ?_)
      exact c41 fu v1.2 v4 x1 (0 : Int32) (-1 : Int32) (40 : Int32) H locs ls h hP hD hS (lv_sub hl [3, 4, 2, 1, 0] rfl)
    · rw [if_pos c3] at h
      refine lv_iconst (v := (0 : Int32)) hx hb dX13_chalked_27 (by decide) ?_
      exact W.iret (v := (0 : Int32)) hx hb hr (fun t ht hW => by rw [hqq]; have hh := Option.some.inj h; exact ⟨⟨(0 : Int32), ((v1.2, gla)), rfl, ⟨fst_of hh, snd_of hh⟩, by rw [ht]; exact hP, va_K.moved hW.alike hK⟩, hS.F ht⟩) hS.2.2 dX13_chalked_28
  have c15 : ∀ (_u : Unit), ∀ (gth : Int32) (gla : (Nat → Int32)) (x1 : Int32) (H : Heap) (locs : List Loc) (ls : Array Slot), p_X13_chalked_15 gvm grc gth gla x1 = some R0 → va_P (dC, dI) vwCl (w_X13_chalked cy a0 gth gvm gtd gfl grd gnv gac gla grc gim) H → va_D A (w_X13_chalked cy a0 gth gvm gtd gfl grd gnv gac gla grc gim) → va_S A s.heap H locs → lv_has ls 5 [(0, .ref (a0 0)), (1, .int x1)] → W p l e rm_X13_chalked s m aa below meth c H locs 0 0 (MQ below qq aa s 0 0 A) (F0 m 15 ls [.ref (a0 0)]) := by
    intro _ gth gla x1 H locs ls h hP hD hS hl
    unfold p_X13_chalked_15 at h
    refine lv_iconst (v := (1 : Int32)) hx hb dX13_chalked_15 (by decide) ?_
    refine lv_goto (tgt := 20) hx hb dX13_chalked_16 (by decide) ?_
    exact c20 () gth gla x1 (1 : Int32) H locs ls h hP hD hS (lv_sub hl [0, 1] rfl)
  obtain ⟨H, hH⟩ : ∃ H : Heap, H = s.heap := ⟨_, rfl⟩
  obtain ⟨locs, hlocs⟩ : ∃ locs : List Loc, locs = [] := ⟨_, rfl⟩
  have hS : va_S A s.heap H locs := by rw [hH, hlocs]; exact hS
  rw [← hH] at hP
  suffices hg : W p l e rm_X13_chalked s m aa below meth c H locs 0 0 (MQ below qq aa s 0 0 A) (F0 m 0 ls []) by subst hH; subst hlocs; exact hg
  unfold p_X13_chalked at h
  refine lv_aload_n hx hb dX13_chalked_0 rfl (lv_at hl 0 rfl) ?_
  refine lv_iconst (v := (0 : Int32)) hx hb dX13_chalked_1 (by decide) ?_
  refine va_put (D := (dC, dI)) (ci := 11) (v := .int (0 : Int32)) (ty := .int) (C := RX13) (T := TX13) (N := 64) hx hb hts in_X13 tyX13 tyX13_ok nmX13 hown hK hP hD hS 0 rfl rfl 0 (by decide) lk0 (fun _ h9 => h9) rfl (by decide +kernel) rfl rfl (Nat.le_of_ble_eq_true rfl) dX13_chalked_2 (fun H locs hP hD hS => ?_)
  have hP : va_P (dC, dI) vwCl (w_X13_chalked cy a0 ((0 : Int32)) gvm gtd gfl grd gnv gac gla grc gim) H := hP
  have hD : va_D A (w_X13_chalked cy a0 ((0 : Int32)) gvm gtd gfl grd gnv gac gla grc gim) := hD
  refine lv_aload_n hx hb dX13_chalked_5 rfl (lv_at hl 0 rfl) ?_
  refine lv_iload_n hx hb dX13_chalked_6 rfl (lv_at hl 1 rfl) ?_
  refine lv_if_eq (tgt := 15) hx hb dX13_chalked_7 (by decide) (fun c1 => ?_) (fun c1 => ?_)
  · rw [if_pos c1] at h
    exact c15 () (0 : Int32) gla x1 H locs ls h hP hD hS (lv_sub hl [0, 1] rfl)
  · rw [if_neg c1] at h
    refine lv_iload_n hx hb dX13_chalked_10 rfl (lv_at hl 1 rfl) ?_
    refine lv_iconst (v := (1 : Int32)) hx hb dX13_chalked_11 (by decide) ?_
    refine lv_icmp_ne (tgt := 19) hx hb dX13_chalked_12 (by decide) (fun c2 => ?_) (fun c2 => ?_)
    · rw [if_neg c2] at h
      refine lv_iconst (v := (0 : Int32)) hx hb dX13_chalked_19 (by decide) ?_
      exact c20 () (0 : Int32) gla x1 (0 : Int32) H locs ls h hP hD hS (lv_sub hl [0, 1] rfl)
    · rw [if_pos c2] at h
      exact c15 () (0 : Int32) gla x1 H locs ls h hP hD hS (lv_sub hl [0, 1] rfl)

abbrev w_X13_voids (cy : Nat → ClassId) (a0 : Nat → Nat) (gth : Int32) (gvm : Int32 × Int32 × Int32 × (Nat → Int32) × (Nat → Int32) × (Nat → Int32) × (Nat → Int32) × (Nat → Int32) × (Nat → Int32) × (Nat → Int32) × (Nat → Int32) × (Nat → Int32)) (gtd : Int32) (gfl : Int32 × Int32) (grd : Int32 × Int32 × Int32 × Int32 × Int32 × Int32 × Int64 × (Nat → Int32)) (gnv : Int32 × Int32 × Int32 × Int32 × Int32 × (Nat → Int32) × (Nat → Int32) × (Nat → Int32) × (Nat → Int32) × (Nat → Int32) × (Nat → Int32)) (gac : Int32 × (Nat → Int32) × (Nat → Int32)) (grc : Int32 × (Nat → Int32)) (gim : Int32 × Int32 × Int32 × (Nat → Int32) × (Nat → Int32) × (Nat → Int32) × (Nat → Int32) × (Nat → Int32) × (Nat → Int32) × (Nat → Int32) × (Nat → Int32) × (Nat → Int32)) : va_W := [(a0 0, .inr (11, [.int (gth), .int (gvm.1), .int (gvm.2.1), .int (gvm.2.2.1), .ref (a0 1), .ref (a0 2), .ref (a0 3), .ref (a0 4), .ref (a0 5), .ref (a0 6), .ref (a0 7), .ref (a0 8), .ref (a0 9), .ref (a0 10), .int (gtd), .int (gfl.1), .int (gfl.2), .ref (a0 11), .int (grd.1), .int (grd.2.1), .int (grd.2.2.1), .int (grd.2.2.2.1), .int (grd.2.2.2.2.1), .int (grd.2.2.2.2.2.1), .long (grd.2.2.2.2.2.2.1), .ref (a0 12), .int (gnv.1), .int (gnv.2.1), .int (gnv.2.2.1), .int (gnv.2.2.2.1), .int (gnv.2.2.2.2.1), .ref (a0 13), .ref (a0 14), .ref (a0 15), .ref (a0 16), .ref (a0 17), .ref (a0 18), .int (gac.1), .ref (a0 19), .ref (a0 20), .ref (a0 21), .ref (a0 22), .ref (a0 23), .ref (a0 24), .ref (a0 25), .ref (a0 26), .ref (a0 27), .int (grc.1), .ref (a0 28), .ref (a0 29), .ref (a0 30), .ref (a0 31), .int (gim.1), .int (gim.2.1), .int (gim.2.2.1), .ref (a0 32), .ref (a0 33), .ref (a0 34), .ref (a0 35), .ref (a0 36), .ref (a0 37), .ref (a0 38), .ref (a0 39), .ref (a0 40)])), (a0 1, .inl (cy 1, 5, .inl (gvm.2.2.2.1))), (a0 2, .inl (cy 1, 5, .inl (gvm.2.2.2.2.1))), (a0 3, .inl (cy 1, 5, .inl (gvm.2.2.2.2.2.1))), (a0 4, .inl (cy 1, 25, .inl (gvm.2.2.2.2.2.2.1))), (a0 5, .inl (cy 1, 10, .inl (gvm.2.2.2.2.2.2.2.1))), (a0 6, .inl (cy 1, 10, .inl (gvm.2.2.2.2.2.2.2.2.1))), (a0 7, .inl (cy 1, 10, .inl (gvm.2.2.2.2.2.2.2.2.2.1))), (a0 8, .inl (cy 1, 10, .inl (gvm.2.2.2.2.2.2.2.2.2.2.1))), (a0 9, .inl (cy 1, 50, .inl (gvm.2.2.2.2.2.2.2.2.2.2.2)))]
abbrev rm_X13_voids : Room := { frames := 2, cells := 0, slots := 0, locals := 43 }
set_option maxHeartbeats 1000000 in
set_option maxRecDepth 100000 in
theorem c_X13_voids (l : Launch) (dC : Nat → ClassId) (dI : Nat → Nat → Nat) (cy : Nat → ClassId) (a0 : Nat → Nat) (gth : Int32) (gvm : Int32 × Int32 × Int32 × (Nat → Int32) × (Nat → Int32) × (Nat → Int32) × (Nat → Int32) × (Nat → Int32) × (Nat → Int32) × (Nat → Int32) × (Nat → Int32) × (Nat → Int32)) (gtd : Int32) (gfl : Int32 × Int32) (grd : Int32 × Int32 × Int32 × Int32 × Int32 × Int32 × Int64 × (Nat → Int32)) (gnv : Int32 × Int32 × Int32 × Int32 × Int32 × (Nat → Int32) × (Nat → Int32) × (Nat → Int32) × (Nat → Int32) × (Nat → Int32) × (Nat → Int32)) (gac : Int32 × (Nat → Int32) × (Nat → Int32)) (grc : Int32 × (Nat → Int32)) (gim : Int32 × Int32 × Int32 × (Nat → Int32) × (Nat → Int32) × (Nat → Int32) × (Nat → Int32) × (Nat → Int32) × (Nat → Int32) × (Nat → Int32) × (Nat → Int32) × (Nat → Int32)) (x1 : Int32) (x2 : Int32) (sz : Nat) (R0 : Int32 × (Int32)) (h : p_X13_voids gth gvm x1 x2 = some R0) : Met l yX13_voids wsX13_voids rm_X13_voids (va_Pc [.ref (a0 0), .int x1, .int x2] (prC dC dI cy (w_X13_voids cy a0 gth gvm gtd gfl grd gnv gac grc gim) sz)) (va_Qi (fun (r : Int32) (u : (Int32)) => r = R0.1 ∧ u = R0.2) (fun (u : (Int32)) t => poC dC dI cy (w_X13_voids cy a0 u gvm gtd gfl grd gnv gac grc gim) t) (va_A (w_X13_voids cy a0 gth gvm gtd gfl grd gnv gac grc gim) sz)) 0 0 (va_A (w_X13_voids cy a0 gth gvm gtd gfl grd gnv gac grc gim) sz) := by
  refine Met.ofW (cc := cX13_voids) (maxL := 6) (ret := (some .int)) (by decide) rfl ?_
  intro p e s m aa below meth c s₁ B hml hv
  obtain ⟨haa, hsz, hP, hK, hD0⟩ := hv
  have hx := B.exec
  have hb := B.bytes
  have hr := B.returns
  have hts := atoms_spec (ws := wsX13_voids) B.pre
  have hown : s.vm.findClass RX13 = some m.cls := findClass_of_methodNamed B.named
  have hlocks := B.notSynchronized
  subst hsz
  have hD := hD0.self (sz := s.heap.size)
  obtain ⟨qq, hqq⟩ : ∃ qq, qq = (va_Qi (fun (r : Int32) (u : (Int32)) => r = R0.1 ∧ u = R0.2) (fun (u : (Int32)) t => poC dC dI cy (w_X13_voids cy a0 u gvm gtd gfl grd gnv gac grc gim) t) (va_A (w_X13_voids cy a0 gth gvm gtd gfl grd gnv gac grc gim) s.heap.size)) := ⟨_, rfl⟩
  rw [← hqq]
  generalize hAe : va_A (w_X13_voids cy a0 gth gvm gtd gfl grd gnv gac grc gim) s.heap.size = A at hD hqq ⊢
  have hA : ∀ q : Nat, s.heap.size ≤ q → A q := fun q h => by rw [← hAe]; exact Or.inr h
  have hS : va_S A s.heap s.heap [] := va_S.rf
  have hl := lv_entry ([.ref (a0 0), .int x1, .int x2]) (n := 6) (Nat.le_of_ble_eq_true rfl)
  have hE : entryFrame m aa 6 = F0 m 0 ((lg_sl ([.ref (a0 0), .int x1, .int x2]) ++ List.replicate (6 - (lg_sl ([.ref (a0 0), .int x1, .int x2])).length) Slot.unset).toArray) [] := by rw [haa]; exact lg_entry_eq m _ 6
  refine W.eq hE ?_
  generalize (lg_sl ([.ref (a0 0), .int x1, .int x2]) ++ List.replicate (6 - (lg_sl ([.ref (a0 0), .int x1, .int x2])).length) Slot.unset).toArray = ls at hl ⊢
  have hl : lv_has ls 6 [(0, .ref (a0 0)), (1, .int x1), (2, .int x2)] := hl
  change W p l e rm_X13_voids s m aa below meth c s.heap [] 0 0 (MQ below qq aa s 0 0 A) (F0 m 0 ls [])
  have hS0 := hS
  have lk0 := hts (.fieldLink RX13 245 "GoatDoorsModel" "owners" "I") (by decide +kernel)
  have lk1 := hts (.fieldLink RX13 251 "GoatDoorsModel" "base" "I") (by decide +kernel)
  have lk2 := hts (.fieldLink RX13 7 "GoatDoorsModel" "goats" "[I") (by decide +kernel)
  have lk3 := hts (.fieldLink RX13 248 "GoatDoorsModel" "law" "I") (by decide +kernel)
  have lk4 := hts (.fieldLink RX13 135 "GoatDoorsModel" "thrown" "I") (by decide +kernel)
  have in_X13 : ∀ w ∈ wsX130, w ∈ wsX13_voids := by decide +kernel
  have c111 : ∀ (k76 : (Int32) → Int32 → Int32 → Int32 → Int32 → Option (Int32 × (Int32))) (hk76 : ∀ (gth : Int32) (x2 : Int32) (x3 : Int32) (x4 : Int32) (x5 : Int32) (H : Heap) (locs : List Loc) (ls : Array Slot), k76 gth x2 x3 x4 x5 = some R0 → va_P (dC, dI) vwCl (w_X13_voids cy a0 gth gvm gtd gfl grd gnv gac grc gim) H → va_D A (w_X13_voids cy a0 gth gvm gtd gfl grd gnv gac grc gim) → va_S A s.heap H locs → lv_has ls 6 [(0, .ref (a0 0)), (2, .int x2), (3, .int x3), (4, .int x4), (5, .int x5)] → W p l e rm_X13_voids s m aa below meth c H locs 0 0 (MQ below qq aa s 0 0 A) (F0 m 76 ls [])), ∀ (gth : Int32) (x2 : Int32) (x3 : Int32) (x5 : Int32) (t0 : Int32) (t1 : Int32) (H : Heap) (locs : List Loc) (ls : Array Slot), p_X13_voids_111 k76 gvm gth x2 x3 x5 t0 t1 = some R0 → va_P (dC, dI) vwCl (w_X13_voids cy a0 gth gvm gtd gfl grd gnv gac grc gim) H → va_D A (w_X13_voids cy a0 gth gvm gtd gfl grd gnv gac grc gim) → va_S A s.heap H locs → lv_has ls 6 [(0, .ref (a0 0)), (2, .int x2), (3, .int x3), (5, .int x5)] → W p l e rm_X13_voids s m aa below meth c H locs 0 0 (MQ below qq aa s 0 0 A) (F0 m 111 ls [.int t1, .int t0]) := by
    intro k76 hk76 gth x2 x3 x5 t0 t1 H locs ls h hP hD hS hl
    unfold p_X13_voids_111 at h
    refine lv_ior hx hb dX13_voids_111 ?_
    refine lv_istore (lv' := [(4, .int (t0 ||| t1)), (0, .ref (a0 0)), (2, .int x2), (3, .int x3), (5, .int x5)]) hx hb dX13_voids_112 hl (by decide) rfl (fun ls hl => ?_)
    refine lv_iinc (v := (x5 + (1 : Int32))) (lv' := [(5, .int (x5 + (1 : Int32))), (4, .int (t0 ||| t1)), (0, .ref (a0 0)), (2, .int x2), (3, .int x3)]) hx hb dX13_voids_114 hl (k := 4) rfl rfl (by decide) rfl (fun ls hl => ?_)
    refine lv_goto (tgt := 76) hx hb dX13_voids_117 (by decide) ?_
    exact hk76 gth x2 x3 (t0 ||| t1) (x5 + (1 : Int32)) H locs ls h hP hD hS (lv_sub hl [2, 3, 4, 1, 0] rfl)
  have c76 : ∀ (n : Nat), ∀ (gth : Int32) (x2 : Int32) (x3 : Int32) (x4 : Int32) (x5 : Int32) (H : Heap) (locs : List Loc) (ls : Array Slot), p_X13_voids_76 gvm n gth x2 x3 x4 x5 = some R0 → va_P (dC, dI) vwCl (w_X13_voids cy a0 gth gvm gtd gfl grd gnv gac grc gim) H → va_D A (w_X13_voids cy a0 gth gvm gtd gfl grd gnv gac grc gim) → va_S A s.heap H locs → lv_has ls 6 [(0, .ref (a0 0)), (2, .int x2), (3, .int x3), (4, .int x4), (5, .int x5)] → W p l e rm_X13_voids s m aa below meth c H locs 0 0 (MQ below qq aa s 0 0 A) (F0 m 76 ls []) := by
    intro  n
    induction n with
    | zero => intro gth x2 x3 x4 x5 H locs ls h; exact no_some h
    | succ n ih =>
      intro gth x2 x3 x4 x5 H locs ls h hP hD hS hl
      rw [p_X13_voids_76.eq_2] at h
      refine lv_iload hx hb dX13_voids_76 (lv_at hl 4 rfl) ?_
      refine lv_aload_n hx hb dX13_voids_78 rfl (lv_at hl 0 rfl) ?_
      refine va_get (D := (dC, dI)) (ci := 11) (v := .int gvm.1) (C := RX13) (T := TX13) (N := 64) hx hb hts in_X13 hown hK hP 0 rfl rfl 1 (by decide) lk0 (fun _ h9 => h9) rfl dX13_voids_79 ?_
      refine lv_icmp_ge (tgt := 120) hx hb dX13_voids_82 (by decide) (fun c1 => ?_) (fun c1 => ?_)
      · rw [if_pos c1] at h
        refine lv_iload_n hx hb dX13_voids_120 rfl (lv_at hl 1 rfl) ?_
        refine lv_if_ne (tgt := 133) hx hb dX13_voids_121 (by decide) (fun c2 => ?_) (fun c2 => ?_)
        · rw [if_neg c2] at h
          refine lv_iload hx hb dX13_voids_133 (lv_at hl 3 rfl) ?_
          exact W.iret (v := x4) hx hb hr (fun t ht hW => by rw [hqq]; have hh := Option.some.inj h; exact ⟨⟨x4, (gth), rfl, ⟨fst_of hh, snd_of hh⟩, by rw [ht]; exact hP, va_K.moved hW.alike hK⟩, hS.F ht⟩) hS.2.2 dX13_voids_135
        · rw [if_pos c2] at h
          refine lv_aload_n hx hb dX13_voids_124 rfl (lv_at hl 0 rfl) ?_
          refine va_get (D := (dC, dI)) (ci := 11) (v := .int gvm.2.2.1) (C := RX13) (T := TX13) (N := 64) hx hb hts in_X13 hown hK hP 0 rfl rfl 3 (by decide) lk1 (fun _ h9 => h9) rfl dX13_voids_125 ?_
          refine lv_iload_n hx hb dX13_voids_128 rfl (lv_at hl 2 rfl) ?_
          refine lv_isub hx hb dX13_voids_129 ?_
          refine lv_goto (tgt := 135) hx hb dX13_voids_130 (by decide) ?_
          exact W.iret (v := (gvm.2.2.1 - x3)) hx hb hr (fun t ht hW => by rw [hqq]; have hh := Option.some.inj h; exact ⟨⟨(gvm.2.2.1 - x3), (gth), rfl, ⟨fst_of hh, snd_of hh⟩, by rw [ht]; exact hP, va_K.moved hW.alike hK⟩, hS.F ht⟩) hS.2.2 dX13_voids_135
      · rw [if_neg c1] at h
        refine lv_iload hx hb dX13_voids_85 (lv_at hl 3 rfl) ?_
        refine lv_aload_n hx hb dX13_voids_87 rfl (lv_at hl 0 rfl) ?_
        refine va_get (D := (dC, dI)) (ci := 11) (v := .ref (a0 1)) (C := RX13) (T := TX13) (N := 64) hx hb hts in_X13 hown hK hP 0 rfl rfl 4 (by decide) lk2 (fun _ h9 => h9) rfl dX13_voids_88 ?_
        refine lv_iload hx hb dX13_voids_91 (lv_at hl 4 rfl) ?_
        obtain ⟨hi3, h⟩ := ok_if h
        refine va_iald hx hb hK hP 1 1 rfl rfl (ix_in hi3) dX13_voids_93 ?_
        refine lv_aload_n hx hb dX13_voids_94 rfl (lv_at hl 0 rfl) ?_
        refine va_get (D := (dC, dI)) (ci := 11) (v := .int gvm.2.2.1) (C := RX13) (T := TX13) (N := 64) hx hb hts in_X13 hown hK hP 0 rfl rfl 3 (by decide) lk1 (fun _ h9 => h9) rfl dX13_voids_95 ?_
        refine lv_iload_n hx hb dX13_voids_98 rfl (lv_at hl 2 rfl) ?_
        refine lv_isub hx hb dX13_voids_99 ?_
        refine lv_icmp_lt (tgt := 110) hx hb dX13_voids_100 (by decide) (fun c4 => ?_) (fun c4 => ?_)
        · rw [if_pos c4] at h
          refine lv_iconst (v := (0 : Int32)) hx hb dX13_voids_110 (by decide) ?_
          exact c111 (p_X13_voids_76 gvm n) ih gth x2 x3 x5 x4 (0 : Int32) H locs ls h hP hD hS (lv_sub hl [0, 1, 2, 4] rfl)
        · rw [if_neg c4] at h
          refine lv_iconst (v := (1 : Int32)) hx hb dX13_voids_103 (by decide) ?_
          refine lv_iload hx hb dX13_voids_104 (lv_at hl 4 rfl) ?_
          refine lv_ishl hx hb dX13_voids_106 ?_
          refine lv_goto (tgt := 111) hx hb dX13_voids_107 (by decide) ?_
          exact c111 (p_X13_voids_76 gvm n) ih gth x2 x3 x5 x4 ((1 : Int32) <<< (x5 &&& 31)) H locs ls h hP hD hS (lv_sub hl [0, 1, 2, 4] rfl)
  have c53 : ∀ (n : Nat), ∀ (gth : Int32) (x1 : Int32) (x2 : Int32) (x3 : Int32) (H : Heap) (locs : List Loc) (ls : Array Slot), p_X13_voids_53 gvm n gth x1 x2 x3 = some R0 → va_P (dC, dI) vwCl (w_X13_voids cy a0 gth gvm gtd gfl grd gnv gac grc gim) H → va_D A (w_X13_voids cy a0 gth gvm gtd gfl grd gnv gac grc gim) → va_S A s.heap H locs → lv_has ls 6 [(0, .ref (a0 0)), (1, .int x1), (2, .int x2), (3, .int x3)] → W p l e rm_X13_voids s m aa below meth c H locs 0 0 (MQ below qq aa s 0 0 A) (F0 m 53 ls []) := by
    intro  n
    induction n with
    | zero => intro gth x1 x2 x3 H locs ls h; exact no_some h
    | succ n ih =>
      intro gth x1 x2 x3 H locs ls h hP hD hS hl
      rw [p_X13_voids_53.eq_2] at h
      refine lv_iload_n hx hb dX13_voids_53 rfl (lv_at hl 3 rfl) ?_
      refine lv_iconst (v := (2 : Int32)) hx hb dX13_voids_54 (by decide) ?_
      refine lv_icmp_lt (tgt := 142) hx hb dX13_voids_55 (by decide) (fun c1 => ?_) (fun c1 => ?_)
      · rw [if_pos c1] at h
        refine lv_iconst (v := (-1 : Int32)) hx hb dX13_voids_142 (by decide) ?_
        exact W.iret (v := (-1 : Int32)) hx hb hr (fun t ht hW => by rw [hqq]; have hh := Option.some.inj h; exact ⟨⟨(-1 : Int32), (gth), rfl, ⟨fst_of hh, snd_of hh⟩, by rw [ht]; exact hP, va_K.moved hW.alike hK⟩, hS.F ht⟩) hS.2.2 dX13_voids_143
      · rw [if_neg c1] at h
        refine lv_aload_n hx hb dX13_voids_58 rfl (lv_at hl 0 rfl) ?_
        refine lv_iload_n hx hb dX13_voids_59 rfl (lv_at hl 1 rfl) ?_
        refine lv_iload_n hx hb dX13_voids_60 rfl (lv_at hl 3 rfl) ?_
        obtain ⟨v2, hv3, h⟩ := ok_bind h
        refine cl_vi (w2 := fun (_ : Unit) => w_X13_voids cy a0 gth gvm gtd gfl grd gnv gac grc gim) (As := [.int x1, .int x3]) (rest := []) ⟨hx, hb, hml, hown, hts⟩ (c_X13_worthOf l dC dI cy a0 gth gvm gtd gfl grd gnv gac grc gim x1 x3 H.size v2 hv3) (cwV 2 hts gX13_voids_X13_worthOf rfl rfl rfl (by decide +kernel) ⟨Nat.le_of_ble_eq_true rfl, Nat.le_of_ble_eq_true rfl⟩) (va_recv hK hP (ci := 11) (q0 := 0) rfl rfl) cl_blind (cl_pre hK hP hD [0, 1, 2, 3, 4, 5, 6, 7, 8, 9] (by decide) rfl) hP hD hS hA [0, 1, 2, 3, 4, 5, 6, 7, 8, 9] rfl rfl hl.1 rfl (lv_room (Nat.le_of_ble_eq_true rfl)) dX13_voids_61 ⟨Nat.le_of_ble_eq_true rfl, Nat.le_of_ble_eq_true rfl⟩ ⟨rfl, rfl⟩ (fun _ => updR [0, 1, 2, 3, 4, 5, 6, 7, 8, 9] rfl) (fun r u H locs hw hP hD hS => ?_)
        have hw := hw.symm
        subst hw
        have hP : va_P (dC, dI) vwCl (w_X13_voids cy a0 gth gvm gtd gfl grd gnv gac grc gim) H := hP
        have hD : va_D A (w_X13_voids cy a0 gth gvm gtd gfl grd gnv gac grc gim) := hD
        refine lv_if_eq (tgt := 70) hx hb dX13_voids_64 (by decide) (fun c4 => ?_) (fun c4 => ?_)
        · rw [if_pos c4] at h
          refine lv_iconst (v := (0 : Int32)) hx hb dX13_voids_70 (by decide) ?_
          refine lv_istore (lv' := [(4, .int (0 : Int32)), (0, .ref (a0 0)), (1, .int x1), (2, .int x2), (3, .int x3)]) hx hb dX13_voids_71 hl (by decide) rfl (fun ls hl => ?_)
          refine lv_iconst (v := (0 : Int32)) hx hb dX13_voids_73 (by decide) ?_
          refine lv_istore (lv' := [(5, .int (0 : Int32)), (4, .int (0 : Int32)), (0, .ref (a0 0)), (1, .int x1), (2, .int x2), (3, .int x3)]) hx hb dX13_voids_74 hl (by decide) rfl (fun ls hl => ?_)
          exact c76 fu gth x2 x3 (0 : Int32) (0 : Int32) H locs ls h hP hD hS (lv_sub hl [2, 4, 5, 1, 0] rfl)
        · rw [if_neg c4] at h
          refine lv_goto (tgt := 136) hx hb dX13_voids_67 (by decide) ?_
          refine lv_iinc (v := (x3 + (-1 : Int32))) (lv' := [(3, .int (x3 + (-1 : Int32))), (0, .ref (a0 0)), (1, .int x1), (2, .int x2)]) hx hb dX13_voids_136 hl (k := 3) rfl rfl (by decide) rfl (fun ls hl => ?_)
          refine lv_goto (tgt := 53) hx hb dX13_voids_139 (by decide) ?_
          exact ih gth x1 x2 (x3 + (-1 : Int32)) H locs ls h hP hD hS (lv_sub hl [1, 2, 3, 0] rfl)
  have c28 : ∀ (_u : Unit), ∀ (gth : Int32) (x1 : Int32) (x2 : Int32) (t1 : Int32) (H : Heap) (locs : List Loc) (ls : Array Slot), p_X13_voids_28 gvm gth x1 x2 t1 = some R0 → va_P (dC, dI) vwCl (w_X13_voids cy a0 gth gvm gtd gfl grd gnv gac grc gim) H → va_D A (w_X13_voids cy a0 gth gvm gtd gfl grd gnv gac grc gim) → va_S A s.heap H locs → lv_has ls 6 [(0, .ref (a0 0)), (1, .int x1), (2, .int x2)] → W p l e rm_X13_voids s m aa below meth c H locs 0 0 (MQ below qq aa s 0 0 A) (F0 m 28 ls [.int t1, .ref (a0 0)]) := by
    intro _ gth x1 x2 t1 H locs ls h hP hD hS hl
    unfold p_X13_voids_28 at h
    refine lv_iconst (v := (1 : Int32)) hx hb dX13_voids_28 (by decide) ?_
    obtain ⟨v1, hv2, h⟩ := ok_bind h
    refine cl_vi (w2 := fun (u : (Int32)) => w_X13_voids cy a0 u gvm gtd gfl grd gnv gac grc gim) (As := [.int t1, .int (1 : Int32)]) (rest := []) ⟨hx, hb, hml, hown, hts⟩ (c_X13_right l dC dI cy a0 gth gvm gtd gfl grd gnv gac grc gim t1 (1 : Int32) H.size v1 hv2) (cwV 2 hts gX13_voids_X13_right rfl rfl rfl (by decide +kernel) ⟨Nat.le_of_ble_eq_true rfl, Nat.le_of_ble_eq_true rfl⟩) (va_recv hK hP (ci := 11) (q0 := 0) rfl rfl) cl_blind (cl_pre hK hP hD [0] (by decide) rfl) hP hD hS hA [0] rfl rfl hl.1 rfl (lv_room (Nat.le_of_ble_eq_true rfl)) dX13_voids_29 ⟨Nat.le_of_ble_eq_true rfl, Nat.le_of_ble_eq_true rfl⟩ ⟨rfl, rfl⟩ (fun _ => updM [0] [1, 2, 3, 4, 5, 6, 7, 8, 9] [(a0 1, .inl (cy 1, 5, .inl (gvm.2.2.2.1))), (a0 2, .inl (cy 1, 5, .inl (gvm.2.2.2.2.1))), (a0 3, .inl (cy 1, 5, .inl (gvm.2.2.2.2.2.1))), (a0 4, .inl (cy 1, 25, .inl (gvm.2.2.2.2.2.2.1))), (a0 5, .inl (cy 1, 10, .inl (gvm.2.2.2.2.2.2.2.1))), (a0 6, .inl (cy 1, 10, .inl (gvm.2.2.2.2.2.2.2.2.1))), (a0 7, .inl (cy 1, 10, .inl (gvm.2.2.2.2.2.2.2.2.2.1))), (a0 8, .inl (cy 1, 10, .inl (gvm.2.2.2.2.2.2.2.2.2.2.1))), (a0 9, .inl (cy 1, 50, .inl (gvm.2.2.2.2.2.2.2.2.2.2.2)))] 10 rfl rfl rfl rfl rfl (by decide +kernel) (by decide +kernel) rfl) (fun r u H locs hw hP hD hS => ?_)
    obtain ⟨rfl, rfl⟩ := hw
    have hP : va_P (dC, dI) vwCl (w_X13_voids cy a0 v1.2 gvm gtd gfl grd gnv gac grc gim) H := hP
    have hD : va_D A (w_X13_voids cy a0 v1.2 gvm gtd gfl grd gnv gac grc gim) := hD
    refine lv_if_ne (tgt := 37) hx hb dX13_voids_32 (by decide) (fun c3 => ?_) (fun c3 => ?_)
    · rw [if_neg c3] at h
      refine lv_aload_n hx hb dX13_voids_37 rfl (lv_at hl 0 rfl) ?_
      refine va_get (D := (dC, dI)) (ci := 11) (v := .int gvm.2.1) (C := RX13) (T := TX13) (N := 64) hx hb hts in_X13 hown hK hP 0 rfl rfl 2 (by decide) lk3 (fun _ h9 => h9) rfl dX13_voids_38 ?_
      refine lv_if_eq (tgt := 46) hx hb dX13_voids_41 (by decide) (fun c4 => ?_) (fun c4 => ?_)
      · rw [if_pos c4] at h
        refine lv_aload_n hx hb dX13_voids_46 rfl (lv_at hl 0 rfl) ?_
        refine va_get (D := (dC, dI)) (ci := 11) (v := .int gvm.2.2.1) (C := RX13) (T := TX13) (N := 64) hx hb hts in_X13 hown hK hP 0 rfl rfl 3 (by decide) lk1 (fun _ h9 => h9) rfl dX13_voids_47 ?_
        refine lv_iconst (v := (1 : Int32)) hx hb dX13_voids_50 (by decide) ?_
        refine lv_isub hx hb dX13_voids_51 ?_
        refine lv_istore_n (lv' := [(3, .int (gvm.2.2.1 - (1 : Int32))), (0, .ref (a0 0)), (1, .int x1), (2, .int x2)]) hx hb dX13_voids_52 rfl hl (by decide) rfl (fun ls hl => ?_)
        exact c53 fu v1.2 x1 x2 (gvm.2.2.1 - (1 : Int32)) H locs ls h hP hD hS (lv_sub hl [1, 2, 3, 0] rfl)
      · rw [if_neg c4] at h
        refine lv_iconst (v := (-1 : Int32)) hx hb dX13_voids_44 (by decide) ?_
        exact W.iret (v := (-1 : Int32)) hx hb hr (fun t ht hW => by rw [hqq]; have hh := Option.some.inj h; exact ⟨⟨(-1 : Int32), (v1.2), rfl, ⟨fst_of hh, snd_of hh⟩, by rw [ht]; exact hP, va_K.moved hW.alike hK⟩, hS.F ht⟩) hS.2.2 dX13_voids_45
    · rw [if_pos c3] at h
      refine lv_iconst (v := (0 : Int32)) hx hb dX13_voids_35 (by decide) ?_
      exact W.iret (v := (0 : Int32)) hx hb hr (fun t ht hW => by rw [hqq]; have hh := Option.some.inj h; exact ⟨⟨(0 : Int32), (v1.2), rfl, ⟨fst_of hh, snd_of hh⟩, by rw [ht]; exact hP, va_K.moved hW.alike hK⟩, hS.F ht⟩) hS.2.2 dX13_voids_36
  have c23 : ∀ (_u : Unit), ∀ (gth : Int32) (x1 : Int32) (x2 : Int32) (H : Heap) (locs : List Loc) (ls : Array Slot), p_X13_voids_23 gvm gth x1 x2 = some R0 → va_P (dC, dI) vwCl (w_X13_voids cy a0 gth gvm gtd gfl grd gnv gac grc gim) H → va_D A (w_X13_voids cy a0 gth gvm gtd gfl grd gnv gac grc gim) → va_S A s.heap H locs → lv_has ls 6 [(0, .ref (a0 0)), (1, .int x1), (2, .int x2)] → W p l e rm_X13_voids s m aa below meth c H locs 0 0 (MQ below qq aa s 0 0 A) (F0 m 23 ls [.ref (a0 0)]) := by
    intro _ gth x1 x2 H locs ls h hP hD hS hl
    unfold p_X13_voids_23 at h
    refine lv_iconst (v := (1 : Int32)) hx hb dX13_voids_23 (by decide) ?_
    refine lv_goto (tgt := 28) hx hb dX13_voids_24 (by decide) ?_
    exact c28 () gth x1 x2 (1 : Int32) H locs ls h hP hD hS (lv_sub hl [0, 1, 2] rfl)
  obtain ⟨H, hH⟩ : ∃ H : Heap, H = s.heap := ⟨_, rfl⟩
  obtain ⟨locs, hlocs⟩ : ∃ locs : List Loc, locs = [] := ⟨_, rfl⟩
  have hS : va_S A s.heap H locs := by rw [hH, hlocs]; exact hS
  rw [← hH] at hP
  suffices hg : W p l e rm_X13_voids s m aa below meth c H locs 0 0 (MQ below qq aa s 0 0 A) (F0 m 0 ls []) by subst hH; subst hlocs; exact hg
  unfold p_X13_voids at h
  refine lv_aload_n hx hb dX13_voids_0 rfl (lv_at hl 0 rfl) ?_
  refine lv_iconst (v := (0 : Int32)) hx hb dX13_voids_1 (by decide) ?_
  refine va_put (D := (dC, dI)) (ci := 11) (v := .int (0 : Int32)) (ty := .int) (C := RX13) (T := TX13) (N := 64) hx hb hts in_X13 tyX13 tyX13_ok nmX13 hown hK hP hD hS 0 rfl rfl 0 (by decide) lk4 (fun _ h9 => h9) rfl (by decide +kernel) rfl rfl (Nat.le_of_ble_eq_true rfl) dX13_voids_2 (fun H locs hP hD hS => ?_)
  have hP : va_P (dC, dI) vwCl (w_X13_voids cy a0 ((0 : Int32)) gvm gtd gfl grd gnv gac grc gim) H := hP
  have hD : va_D A (w_X13_voids cy a0 ((0 : Int32)) gvm gtd gfl grd gnv gac grc gim) := hD
  refine lv_aload_n hx hb dX13_voids_5 rfl (lv_at hl 0 rfl) ?_
  refine lv_iload_n hx hb dX13_voids_6 rfl (lv_at hl 1 rfl) ?_
  obtain ⟨v1, hv2, h⟩ := ok_bind h
  refine cl_vi (w2 := fun (u : (Int32)) => w_X13_voids cy a0 u gvm gtd gfl grd gnv gac grc gim) (As := [.int x1]) (rest := []) ⟨hx, hb, hml, hown, hts⟩ (c_X13_isDoor l dC dI cy a0 (0 : Int32) gvm gtd gfl grd gnv gac grc gim x1 H.size v1 hv2) (cwV 1 hts gX13_voids_X13_isDoor rfl rfl rfl (by decide +kernel) ⟨Nat.le_of_ble_eq_true rfl, Nat.le_of_ble_eq_true rfl⟩) (va_recv hK hP (ci := 11) (q0 := 0) rfl rfl) cl_blind (cl_pre hK hP hD [0, 1, 2, 3, 4, 5, 6, 7, 8, 9] (by decide) rfl) hP hD hS hA [0, 1, 2, 3, 4, 5, 6, 7, 8, 9] rfl rfl hl.1 rfl (lv_room (Nat.le_of_ble_eq_true rfl)) dX13_voids_7 ⟨Nat.le_of_ble_eq_true rfl, Nat.le_of_ble_eq_true rfl⟩ ⟨rfl, rfl⟩ (fun _ => updM [0, 1, 2, 3, 4, 5, 6, 7, 8, 9] [] [] 10 rfl rfl rfl rfl rfl (by decide +kernel) (by decide +kernel) rfl) (fun r u H locs hw hP hD hS => ?_)
  obtain ⟨rfl, rfl⟩ := hw
  have hP : va_P (dC, dI) vwCl (w_X13_voids cy a0 v1.2 gvm gtd gfl grd gnv gac grc gim) H := hP
  have hD : va_D A (w_X13_voids cy a0 v1.2 gvm gtd gfl grd gnv gac grc gim) := hD
  refine lv_if_eq (tgt := 35) hx hb dX13_voids_10 (by decide) (fun c3 => ?_) (fun c3 => ?_)
  · rw [if_pos c3] at h
    refine lv_iconst (v := (0 : Int32)) hx hb dX13_voids_35 (by decide) ?_
    exact W.iret (v := (0 : Int32)) hx hb hr (fun t ht hW => by rw [hqq]; have hh := Option.some.inj h; exact ⟨⟨(0 : Int32), (v1.2), rfl, ⟨fst_of hh, snd_of hh⟩, by rw [ht]; exact hP, va_K.moved hW.alike hK⟩, hS.F ht⟩) hS.2.2 dX13_voids_36
  · rw [if_neg c3] at h
    refine lv_aload_n hx hb dX13_voids_13 rfl (lv_at hl 0 rfl) ?_
    refine lv_iload_n hx hb dX13_voids_14 rfl (lv_at hl 2 rfl) ?_
    refine lv_if_eq (tgt := 23) hx hb dX13_voids_15 (by decide) (fun c4 => ?_) (fun c4 => ?_)
    · rw [if_pos c4] at h
      exact c23 () v1.2 x1 x2 H locs ls h hP hD hS (lv_sub hl [0, 1, 2] rfl)
    · rw [if_neg c4] at h
      refine lv_iload_n hx hb dX13_voids_18 rfl (lv_at hl 2 rfl) ?_
      refine lv_iconst (v := (1 : Int32)) hx hb dX13_voids_19 (by decide) ?_
      refine lv_icmp_ne (tgt := 27) hx hb dX13_voids_20 (by decide) (fun c5 => ?_) (fun c5 => ?_)
      · rw [if_neg c5] at h
        refine lv_iconst (v := (0 : Int32)) hx hb dX13_voids_27 (by decide) ?_
        exact c28 () v1.2 x1 x2 (0 : Int32) H locs ls h hP hD hS (lv_sub hl [0, 1, 2] rfl)
      · rw [if_pos c5] at h
        exact c23 () v1.2 x1 x2 H locs ls h hP hD hS (lv_sub hl [0, 1, 2] rfl)

abbrev w_X13_meanOf (cy : Nat → ClassId) (a0 : Nat → Nat) (gth : Int32) (gvm : Int32 × Int32 × Int32 × (Nat → Int32) × (Nat → Int32) × (Nat → Int32) × (Nat → Int32) × (Nat → Int32) × (Nat → Int32) × (Nat → Int32) × (Nat → Int32) × (Nat → Int32)) (gtd : Int32) (gfl : Int32 × Int32) (grd : Int32 × Int32 × Int32 × Int32 × Int32 × Int32 × Int64 × (Nat → Int32)) (gnv : Int32 × Int32 × Int32 × Int32 × Int32 × (Nat → Int32) × (Nat → Int32) × (Nat → Int32) × (Nat → Int32) × (Nat → Int32) × (Nat → Int32)) (gac : Int32 × (Nat → Int32) × (Nat → Int32)) (grc : Int32 × (Nat → Int32)) (god : (Nat → Int64) × (Nat → Int64)) (gim : Int32 × Int32 × Int32 × (Nat → Int32) × (Nat → Int32) × (Nat → Int32) × (Nat → Int32) × (Nat → Int32) × (Nat → Int32) × (Nat → Int32) × (Nat → Int32) × (Nat → Int32)) : va_W := [(a0 0, .inr (11, [.int (gth), .int (gvm.1), .int (gvm.2.1), .int (gvm.2.2.1), .ref (a0 1), .ref (a0 2), .ref (a0 3), .ref (a0 4), .ref (a0 5), .ref (a0 6), .ref (a0 7), .ref (a0 8), .ref (a0 9), .ref (a0 10), .int (gtd), .int (gfl.1), .int (gfl.2), .ref (a0 11), .int (grd.1), .int (grd.2.1), .int (grd.2.2.1), .int (grd.2.2.2.1), .int (grd.2.2.2.2.1), .int (grd.2.2.2.2.2.1), .long (grd.2.2.2.2.2.2.1), .ref (a0 12), .int (gnv.1), .int (gnv.2.1), .int (gnv.2.2.1), .int (gnv.2.2.2.1), .int (gnv.2.2.2.2.1), .ref (a0 13), .ref (a0 14), .ref (a0 15), .ref (a0 16), .ref (a0 17), .ref (a0 18), .int (gac.1), .ref (a0 19), .ref (a0 20), .ref (a0 21), .ref (a0 22), .ref (a0 23), .ref (a0 24), .ref (a0 25), .ref (a0 26), .ref (a0 27), .int (grc.1), .ref (a0 28), .ref (a0 29), .ref (a0 30), .ref (a0 31), .int (gim.1), .int (gim.2.1), .int (gim.2.2.1), .ref (a0 32), .ref (a0 33), .ref (a0 34), .ref (a0 35), .ref (a0 36), .ref (a0 37), .ref (a0 38), .ref (a0 39), .ref (a0 40)])), (a0 1, .inl (cy 1, 5, .inl (gvm.2.2.2.1))), (a0 2, .inl (cy 1, 5, .inl (gvm.2.2.2.2.1))), (a0 3, .inl (cy 1, 5, .inl (gvm.2.2.2.2.2.1))), (a0 4, .inl (cy 1, 25, .inl (gvm.2.2.2.2.2.2.1))), (a0 5, .inl (cy 1, 10, .inl (gvm.2.2.2.2.2.2.2.1))), (a0 6, .inl (cy 1, 10, .inl (gvm.2.2.2.2.2.2.2.2.1))), (a0 7, .inl (cy 1, 10, .inl (gvm.2.2.2.2.2.2.2.2.2.1))), (a0 8, .inl (cy 1, 10, .inl (gvm.2.2.2.2.2.2.2.2.2.2.1))), (a0 9, .inl (cy 1, 50, .inl (gvm.2.2.2.2.2.2.2.2.2.2.2))), (a0 29, .inl (cy 2, 62, .inr (.inl (god.1)))), (a0 30, .inl (cy 2, 62, .inr (.inl (god.2))))]
abbrev rm_X13_meanOf : Room := { frames := 1, cells := 0, slots := 0, locals := 27 }
set_option maxHeartbeats 1000000 in
set_option maxRecDepth 100000 in
theorem c_X13_meanOf (l : Launch) (dC : Nat → ClassId) (dI : Nat → Nat → Nat) (cy : Nat → ClassId) (a0 : Nat → Nat) (gth : Int32) (gvm : Int32 × Int32 × Int32 × (Nat → Int32) × (Nat → Int32) × (Nat → Int32) × (Nat → Int32) × (Nat → Int32) × (Nat → Int32) × (Nat → Int32) × (Nat → Int32) × (Nat → Int32)) (gtd : Int32) (gfl : Int32 × Int32) (grd : Int32 × Int32 × Int32 × Int32 × Int32 × Int32 × Int64 × (Nat → Int32)) (gnv : Int32 × Int32 × Int32 × Int32 × Int32 × (Nat → Int32) × (Nat → Int32) × (Nat → Int32) × (Nat → Int32) × (Nat → Int32) × (Nat → Int32)) (gac : Int32 × (Nat → Int32) × (Nat → Int32)) (grc : Int32 × (Nat → Int32)) (god : (Nat → Int64) × (Nat → Int64)) (gim : Int32 × Int32 × Int32 × (Nat → Int32) × (Nat → Int32) × (Nat → Int32) × (Nat → Int32) × (Nat → Int32) × (Nat → Int32) × (Nat → Int32) × (Nat → Int32) × (Nat → Int32)) (x1 : Int32) (x2 : Int32) (x3 : Int32) (x4 : Int32) (sz : Nat) (R0 : Int32 × ((Nat → Int64) × (Nat → Int64))) (h : p_X13_meanOf gvm god x1 x2 x3 x4 = some R0) : Met l yX13_meanOf wsX13_meanOf rm_X13_meanOf (va_Pc [.ref (a0 0), .int x1, .int x2, .int x3, .int x4] (prC dC dI cy (w_X13_meanOf cy a0 gth gvm gtd gfl grd gnv gac grc god gim) sz)) (va_Qi (fun (r : Int32) (u : ((Nat → Int64) × (Nat → Int64))) => r = R0.1 ∧ u = R0.2) (fun (u : ((Nat → Int64) × (Nat → Int64))) t => poC dC dI cy (w_X13_meanOf cy a0 gth gvm gtd gfl grd gnv gac grc u gim) t) (va_A (w_X13_meanOf cy a0 gth gvm gtd gfl grd gnv gac grc god gim) sz)) 0 0 (va_A (w_X13_meanOf cy a0 gth gvm gtd gfl grd gnv gac grc god gim) sz) := by
  refine Met.ofW (cc := cX13_meanOf) (maxL := 10) (ret := (some .int)) (by decide) rfl ?_
  intro p e s m aa below meth c s₁ B hml hv
  obtain ⟨haa, hsz, hP, hK, hD0⟩ := hv
  have hx := B.exec
  have hb := B.bytes
  have hr := B.returns
  have hts := atoms_spec (ws := wsX13_meanOf) B.pre
  have hown : s.vm.findClass RX13 = some m.cls := findClass_of_methodNamed B.named
  have hlocks := B.notSynchronized
  subst hsz
  have hD := hD0.self (sz := s.heap.size)
  obtain ⟨qq, hqq⟩ : ∃ qq, qq = (va_Qi (fun (r : Int32) (u : ((Nat → Int64) × (Nat → Int64))) => r = R0.1 ∧ u = R0.2) (fun (u : ((Nat → Int64) × (Nat → Int64))) t => poC dC dI cy (w_X13_meanOf cy a0 gth gvm gtd gfl grd gnv gac grc u gim) t) (va_A (w_X13_meanOf cy a0 gth gvm gtd gfl grd gnv gac grc god gim) s.heap.size)) := ⟨_, rfl⟩
  rw [← hqq]
  generalize hAe : va_A (w_X13_meanOf cy a0 gth gvm gtd gfl grd gnv gac grc god gim) s.heap.size = A at hD hqq ⊢
  have hA : ∀ q : Nat, s.heap.size ≤ q → A q := fun q h => by rw [← hAe]; exact Or.inr h
  have hS : va_S A s.heap s.heap [] := va_S.rf
  have hl := lv_entry ([.ref (a0 0), .int x1, .int x2, .int x3, .int x4]) (n := 10) (Nat.le_of_ble_eq_true rfl)
  have hE : entryFrame m aa 10 = F0 m 0 ((lg_sl ([.ref (a0 0), .int x1, .int x2, .int x3, .int x4]) ++ List.replicate (10 - (lg_sl ([.ref (a0 0), .int x1, .int x2, .int x3, .int x4])).length) Slot.unset).toArray) [] := by rw [haa]; exact lg_entry_eq m _ 10
  refine W.eq hE ?_
  generalize (lg_sl ([.ref (a0 0), .int x1, .int x2, .int x3, .int x4]) ++ List.replicate (10 - (lg_sl ([.ref (a0 0), .int x1, .int x2, .int x3, .int x4])).length) Slot.unset).toArray = ls at hl ⊢
  have hl : lv_has ls 10 [(0, .ref (a0 0)), (1, .int x1), (2, .int x2), (3, .int x3), (4, .int x4)] := hl
  change W p l e rm_X13_meanOf s m aa below meth c s.heap [] 0 0 (MQ below qq aa s 0 0 A) (F0 m 0 ls [])
  have hS0 := hS
  have lk0 := hts (.fieldLink RX13 98 "GoatDoorsModel" "odds" "[J") (by decide +kernel)
  have lk1 := hts (.constantLong RX13 362 (10 : Int64)) (by decide +kernel)
  have lk2 := hts (.fieldLink RX13 102 "GoatDoorsModel" "oddsThen" "[J") (by decide +kernel)
  have lk3 := hts (.fieldLink RX13 251 "GoatDoorsModel" "base" "I") (by decide +kernel)
  have in_X13 : ∀ w ∈ wsX130, w ∈ wsX13_meanOf := by decide +kernel
  have c259 : ∀ (k219 : ((Nat → Int64) × (Nat → Int64)) → Int32 → Int64 → Int64 → Int32 → Option (Int32 × ((Nat → Int64) × (Nat → Int64)))) (hk219 : ∀ (god : (Nat → Int64) × (Nat → Int64)) (x1 : Int32) (x5 : Int64) (x7 : Int64) (x9 : Int32) (H : Heap) (locs : List Loc) (ls : Array Slot), k219 god x1 x5 x7 x9 = some R0 → va_P (dC, dI) vwCl (w_X13_meanOf cy a0 gth gvm gtd gfl grd gnv gac grc god gim) H → va_D A (w_X13_meanOf cy a0 gth gvm gtd gfl grd gnv gac grc god gim) → va_S A s.heap H locs → lv_has ls 10 [(0, .ref (a0 0)), (1, .int x1), (5, .long x5), (7, .long x7), (9, .int x9)] → W p l e rm_X13_meanOf s m aa below meth c H locs 0 0 (MQ below qq aa s 0 0 A) (F0 m 219 ls [])), ∀ (god : (Nat → Int64) × (Nat → Int64)) (x1 : Int32) (x5 : Int64) (x7 : Int64) (x9 : Int32) (H : Heap) (locs : List Loc) (ls : Array Slot), p_X13_meanOf_259 k219 gvm god x1 x5 x7 x9 = some R0 → va_P (dC, dI) vwCl (w_X13_meanOf cy a0 gth gvm gtd gfl grd gnv gac grc god gim) H → va_D A (w_X13_meanOf cy a0 gth gvm gtd gfl grd gnv gac grc god gim) → va_S A s.heap H locs → lv_has ls 10 [(0, .ref (a0 0)), (1, .int x1), (5, .long x5), (7, .long x7), (9, .int x9)] → W p l e rm_X13_meanOf s m aa below meth c H locs 0 0 (MQ below qq aa s 0 0 A) (F0 m 259 ls []) := by
    intro k219 hk219 god x1 x5 x7 x9 H locs ls h hP hD hS hl
    unfold p_X13_meanOf_259 at h
    refine lv_iinc (v := (x9 + (1 : Int32))) (lv' := [(9, .int (x9 + (1 : Int32))), (0, .ref (a0 0)), (1, .int x1), (5, .long x5), (7, .long x7)]) hx hb dX13_meanOf_259 hl (k := 4) rfl rfl (by decide) rfl (fun ls hl => ?_)
    refine lv_goto (tgt := 219) hx hb dX13_meanOf_262 (by decide) ?_
    exact hk219 god x1 x5 x7 (x9 + (1 : Int32)) H locs ls h hP hD hS (lv_sub hl [1, 2, 3, 4, 0] rfl)
  have c219 : ∀ (n : Nat), ∀ (god : (Nat → Int64) × (Nat → Int64)) (x1 : Int32) (x5 : Int64) (x7 : Int64) (x9 : Int32) (H : Heap) (locs : List Loc) (ls : Array Slot), p_X13_meanOf_219 gvm n god x1 x5 x7 x9 = some R0 → va_P (dC, dI) vwCl (w_X13_meanOf cy a0 gth gvm gtd gfl grd gnv gac grc god gim) H → va_D A (w_X13_meanOf cy a0 gth gvm gtd gfl grd gnv gac grc god gim) → va_S A s.heap H locs → lv_has ls 10 [(0, .ref (a0 0)), (1, .int x1), (5, .long x5), (7, .long x7), (9, .int x9)] → W p l e rm_X13_meanOf s m aa below meth c H locs 0 0 (MQ below qq aa s 0 0 A) (F0 m 219 ls []) := by
    intro  n
    induction n with
    | zero => intro god x1 x5 x7 x9 H locs ls h; exact no_some h
    | succ n ih =>
      intro god x1 x5 x7 x9 H locs ls h hP hD hS hl
      rw [p_X13_meanOf_219.eq_2] at h
      refine lv_iload hx hb dX13_meanOf_219 (lv_at hl 4 rfl) ?_
      refine lv_bipush (v := (62 : Int32)) hx hb dX13_meanOf_221 (by decide) ?_
      refine lv_icmp_ge (tgt := 265) hx hb dX13_meanOf_223 (by decide) (fun c1 => ?_) (fun c1 => ?_)
      · rw [if_pos c1] at h
        refine lv_lload hx hb dX13_meanOf_265 (lv_at hl 3 rfl) ?_
        refine lv_lload hx hb dX13_meanOf_267 (lv_at hl 2 rfl) ?_
        obtain ⟨hz2, h⟩ := ok_if h
        refine lv_ldiv hx hb dX13_meanOf_269 hz2 ?_
        refine lv_l2i hx hb dX13_meanOf_270 rfl ?_
        exact W.iret (v := (x7 / x5).toInt32) hx hb hr (fun t ht hW => by rw [hqq]; have hh := Option.some.inj h; exact ⟨⟨((x7 / x5).toInt32), (god), rfl, ⟨fst_of hh, snd_of hh⟩, by rw [ht]; exact hP, va_K.moved hW.alike hK⟩, hS.F ht⟩) hS.2.2 dX13_meanOf_271
      · rw [if_neg c1] at h
        refine lv_aload_n hx hb dX13_meanOf_226 rfl (lv_at hl 0 rfl) ?_
        refine va_get (D := (dC, dI)) (ci := 11) (v := .ref (a0 29)) (C := RX13) (T := TX13) (N := 64) hx hb hts in_X13 hown hK hP 0 rfl rfl 49 (by decide) lk0 (fun _ h9 => h9) rfl dX13_meanOf_227 ?_
        refine lv_iload hx hb dX13_meanOf_230 (lv_at hl 4 rfl) ?_
        obtain ⟨hi3, h⟩ := ok_if h
        refine va_lald hx hb hK hP 10 2 rfl rfl (ix_in hi3) dX13_meanOf_232 ?_
        refine lv_lconst (v := (0 : Int64)) hx hb dX13_meanOf_233 (by decide) ?_
        refine W.lcmp hx hb dX13_meanOf_234 ?_
        refine lv_if_le (tgt := 259) hx hb dX13_meanOf_235 (by decide) (fun c4 => ?_) (fun c4 => ?_)
        · rw [if_pos c4] at h
          exact c259 (p_X13_meanOf_219 gvm n) ih god x1 x5 x7 x9 H locs ls h hP hD hS (lv_sub hl [0, 1, 2, 3, 4] rfl)
        · rw [if_neg c4] at h
          refine lv_lload hx hb dX13_meanOf_238 (lv_at hl 3 rfl) ?_
          refine lv_aload_n hx hb dX13_meanOf_240 rfl (lv_at hl 0 rfl) ?_
          refine va_get (D := (dC, dI)) (ci := 11) (v := .ref (a0 29)) (C := RX13) (T := TX13) (N := 64) hx hb hts in_X13 hown hK hP 0 rfl rfl 49 (by decide) lk0 (fun _ h9 => h9) rfl dX13_meanOf_241 ?_
          refine lv_iload hx hb dX13_meanOf_244 (lv_at hl 4 rfl) ?_
          obtain ⟨hi5, h⟩ := ok_if h
          refine va_lald hx hb hK hP 10 2 rfl rfl (ix_in hi5) dX13_meanOf_246 ?_
          refine lv_aload_n hx hb dX13_meanOf_247 rfl (lv_at hl 0 rfl) ?_
          refine lv_iload_n hx hb dX13_meanOf_248 rfl (lv_at hl 1 rfl) ?_
          refine lv_iload hx hb dX13_meanOf_249 (lv_at hl 4 rfl) ?_
          obtain ⟨v6, hv7, h⟩ := ok_bind h
          refine cl_vi (w2 := fun (_ : Unit) => w_X13_meanOf cy a0 gth gvm gtd gfl grd gnv gac grc god gim) (As := [.int x1, .int x9]) (rest := [.long (god.1 x9.toNatClampNeg), .long x7]) ⟨hx, hb, hml, hown, hts⟩ (c_X13_worthOf l dC dI cy a0 gth gvm gtd gfl grd gnv gac grc gim x1 x9 H.size v6 hv7) (cwV 2 hts gX13_meanOf_X13_worthOf rfl rfl rfl (by decide +kernel) ⟨Nat.le_of_ble_eq_true rfl, Nat.le_of_ble_eq_true rfl⟩) (va_recv hK hP (ci := 11) (q0 := 0) rfl rfl) cl_blind (cl_pre hK hP hD [0, 1, 2, 3, 4, 5, 6, 7, 8, 9] (by decide) rfl) hP hD hS hA [0, 1, 2, 3, 4, 5, 6, 7, 8, 9] rfl rfl hl.1 rfl (lv_room (Nat.le_of_ble_eq_true rfl)) dX13_meanOf_251 ⟨Nat.le_of_ble_eq_true rfl, Nat.le_of_ble_eq_true rfl⟩ ⟨rfl, rfl⟩ (fun _ => updR [0, 1, 2, 3, 4, 5, 6, 7, 8, 9] rfl) (fun r u H locs hw hP hD hS => ?_)
          have hw := hw.symm
          subst hw
          have hP : va_P (dC, dI) vwCl (w_X13_meanOf cy a0 gth gvm gtd gfl grd gnv gac grc god gim) H := hP
          have hD : va_D A (w_X13_meanOf cy a0 gth gvm gtd gfl grd gnv gac grc god gim) := hD
          refine lv_i2l hx hb dX13_meanOf_254 rfl ?_
          refine lv_lmul hx hb dX13_meanOf_255 ?_
          refine lv_ladd hx hb dX13_meanOf_256 ?_
          refine lv_lstore (lv' := [(7, .long (x7 + ((god.1 x9.toNatClampNeg) * v6.toInt64))), (0, .ref (a0 0)), (1, .int x1), (5, .long x5), (9, .int x9)]) hx hb dX13_meanOf_257 hl (by decide) rfl (fun ls hl => ?_)
          exact c259 (p_X13_meanOf_219 gvm n) ih god x1 x5 (x7 + ((god.1 x9.toNatClampNeg) * v6.toInt64)) x9 H locs ls h hP hD hS (lv_sub hl [1, 2, 3, 0, 4] rfl)
  have c172 : ∀ (k43 : ((Nat → Int64) × (Nat → Int64)) → Int32 → Int32 → Int32 → Int32 → Int64 → Int32 → Option (Int32 × ((Nat → Int64) × (Nat → Int64)))) (hk43 : ∀ (god : (Nat → Int64) × (Nat → Int64)) (x1 : Int32) (x2 : Int32) (x3 : Int32) (x4 : Int32) (x5 : Int64) (x7 : Int32) (H : Heap) (locs : List Loc) (ls : Array Slot), k43 god x1 x2 x3 x4 x5 x7 = some R0 → va_P (dC, dI) vwCl (w_X13_meanOf cy a0 gth gvm gtd gfl grd gnv gac grc god gim) H → va_D A (w_X13_meanOf cy a0 gth gvm gtd gfl grd gnv gac grc god gim) → va_S A s.heap H locs → lv_has ls 10 [(0, .ref (a0 0)), (1, .int x1), (2, .int x2), (3, .int x3), (4, .int x4), (5, .long x5), (7, .int x7)] → W p l e rm_X13_meanOf s m aa below meth c H locs 0 0 (MQ below qq aa s 0 0 A) (F0 m 43 ls [])) (n : Nat), ∀ (god : (Nat → Int64) × (Nat → Int64)) (x1 : Int32) (x2 : Int32) (x3 : Int32) (x4 : Int32) (x5 : Int64) (x7 : Int32) (x8 : Int32) (H : Heap) (locs : List Loc) (ls : Array Slot), p_X13_meanOf_172 k43 gvm n god x1 x2 x3 x4 x5 x7 x8 = some R0 → va_P (dC, dI) vwCl (w_X13_meanOf cy a0 gth gvm gtd gfl grd gnv gac grc god gim) H → va_D A (w_X13_meanOf cy a0 gth gvm gtd gfl grd gnv gac grc god gim) → va_S A s.heap H locs → lv_has ls 10 [(0, .ref (a0 0)), (1, .int x1), (2, .int x2), (3, .int x3), (4, .int x4), (5, .long x5), (7, .int x7), (8, .int x8)] → W p l e rm_X13_meanOf s m aa below meth c H locs 0 0 (MQ below qq aa s 0 0 A) (F0 m 172 ls []) := by
    intro k43 hk43 n
    induction n with
    | zero => intro god x1 x2 x3 x4 x5 x7 x8 H locs ls h; exact no_some h
    | succ n ih =>
      intro god x1 x2 x3 x4 x5 x7 x8 H locs ls h hP hD hS hl
      rw [p_X13_meanOf_172.eq_2] at h
      refine lv_iload hx hb dX13_meanOf_172 (lv_at hl 7 rfl) ?_
      refine lv_bipush (v := (62 : Int32)) hx hb dX13_meanOf_174 (by decide) ?_
      refine lv_icmp_ge (tgt := 199) hx hb dX13_meanOf_176 (by decide) (fun c1 => ?_) (fun c1 => ?_)
      · rw [if_pos c1] at h
        refine lv_lload hx hb dX13_meanOf_199 (lv_at hl 5 rfl) ?_
        refine lv_ldc2 hx hb hown lk1 dX13_meanOf_201 ?_
        refine lv_lmul hx hb dX13_meanOf_204 ?_
        refine lv_lstore (lv' := [(5, .long (x5 * (10 : Int64))), (0, .ref (a0 0)), (1, .int x1), (2, .int x2), (3, .int x3), (4, .int x4), (7, .int x7), (8, .int x8)]) hx hb dX13_meanOf_205 hl (by decide) rfl (fun ls hl => ?_)
        refine lv_iinc (v := (x7 + (1 : Int32))) (lv' := [(7, .int (x7 + (1 : Int32))), (5, .long (x5 * (10 : Int64))), (0, .ref (a0 0)), (1, .int x1), (2, .int x2), (3, .int x3), (4, .int x4), (8, .int x8)]) hx hb dX13_meanOf_207 hl (k := 6) rfl rfl (by decide) rfl (fun ls hl => ?_)
        refine lv_goto (tgt := 43) hx hb dX13_meanOf_210 (by decide) ?_
        exact hk43 god x1 x2 x3 x4 (x5 * (10 : Int64)) (x7 + (1 : Int32)) H locs ls h hP hD hS (lv_sub hl [2, 3, 4, 5, 6, 1, 0] rfl)
      · rw [if_neg c1] at h
        refine lv_aload_n hx hb dX13_meanOf_179 rfl (lv_at hl 0 rfl) ?_
        refine va_get (D := (dC, dI)) (ci := 11) (v := .ref (a0 29)) (C := RX13) (T := TX13) (N := 64) hx hb hts in_X13 hown hK hP 0 rfl rfl 49 (by decide) lk0 (fun _ h9 => h9) rfl dX13_meanOf_180 ?_
        refine lv_iload hx hb dX13_meanOf_183 (lv_at hl 7 rfl) ?_
        refine lv_aload_n hx hb dX13_meanOf_185 rfl (lv_at hl 0 rfl) ?_
        refine va_get (D := (dC, dI)) (ci := 11) (v := .ref (a0 30)) (C := RX13) (T := TX13) (N := 64) hx hb hts in_X13 hown hK hP 0 rfl rfl 50 (by decide) lk2 (fun _ h9 => h9) rfl dX13_meanOf_186 ?_
        refine lv_iload hx hb dX13_meanOf_189 (lv_at hl 7 rfl) ?_
        obtain ⟨hi2, h⟩ := ok_if h
        refine va_lald hx hb hK hP 11 2 rfl rfl (ix_in hi2) dX13_meanOf_191 ?_
        obtain ⟨hi3, h⟩ := ok_if h
        refine va_last hx hb hK hP hD hS 10 2 rfl rfl (ix_in hi3) dX13_meanOf_192 (fun H locs hP hD hS => ?_)
        have hP : va_P (dC, dI) vwCl (w_X13_meanOf cy a0 gth gvm gtd gfl grd gnv gac grc (((vp_updL god.1 x8.toNatClampNeg (god.2 x8.toNatClampNeg)), god.2)) gim) H := hP
        have hD : va_D A (w_X13_meanOf cy a0 gth gvm gtd gfl grd gnv gac grc (((vp_updL god.1 x8.toNatClampNeg (god.2 x8.toNatClampNeg)), god.2)) gim) := hD
        refine lv_iinc (v := (x8 + (1 : Int32))) (lv' := [(8, .int (x8 + (1 : Int32))), (0, .ref (a0 0)), (1, .int x1), (2, .int x2), (3, .int x3), (4, .int x4), (5, .long x5), (7, .int x7)]) hx hb dX13_meanOf_193 hl (k := 7) rfl rfl (by decide) rfl (fun ls hl => ?_)
        refine lv_goto (tgt := 172) hx hb dX13_meanOf_196 (by decide) ?_
        exact ih ((vp_updL god.1 x8.toNatClampNeg (god.2 x8.toNatClampNeg)), god.2) x1 x2 x3 x4 x5 x7 (x8 + (1 : Int32)) H locs ls h hP hD hS (lv_sub hl [1, 2, 3, 4, 5, 6, 7, 0] rfl)
  have c122 : ∀ (k43 : ((Nat → Int64) × (Nat → Int64)) → Int32 → Int32 → Int32 → Int32 → Int64 → Int32 → Option (Int32 × ((Nat → Int64) × (Nat → Int64)))) (hk43 : ∀ (god : (Nat → Int64) × (Nat → Int64)) (x1 : Int32) (x2 : Int32) (x3 : Int32) (x4 : Int32) (x5 : Int64) (x7 : Int32) (H : Heap) (locs : List Loc) (ls : Array Slot), k43 god x1 x2 x3 x4 x5 x7 = some R0 → va_P (dC, dI) vwCl (w_X13_meanOf cy a0 gth gvm gtd gfl grd gnv gac grc god gim) H → va_D A (w_X13_meanOf cy a0 gth gvm gtd gfl grd gnv gac grc god gim) → va_S A s.heap H locs → lv_has ls 10 [(0, .ref (a0 0)), (1, .int x1), (2, .int x2), (3, .int x3), (4, .int x4), (5, .long x5), (7, .int x7)] → W p l e rm_X13_meanOf s m aa below meth c H locs 0 0 (MQ below qq aa s 0 0 A) (F0 m 43 ls [])) (k76 : ((Nat → Int64) × (Nat → Int64)) → Int32 → Int32 → Int32 → Int32 → Int64 → Int32 → Int32 → Option (Int32 × ((Nat → Int64) × (Nat → Int64)))) (hk76 : ∀ (god : (Nat → Int64) × (Nat → Int64)) (x1 : Int32) (x2 : Int32) (x3 : Int32) (x4 : Int32) (x5 : Int64) (x7 : Int32) (x8 : Int32) (H : Heap) (locs : List Loc) (ls : Array Slot), k76 god x1 x2 x3 x4 x5 x7 x8 = some R0 → va_P (dC, dI) vwCl (w_X13_meanOf cy a0 gth gvm gtd gfl grd gnv gac grc god gim) H → va_D A (w_X13_meanOf cy a0 gth gvm gtd gfl grd gnv gac grc god gim) → va_S A s.heap H locs → lv_has ls 10 [(0, .ref (a0 0)), (1, .int x1), (2, .int x2), (3, .int x3), (4, .int x4), (5, .long x5), (7, .int x7), (8, .int x8)] → W p l e rm_X13_meanOf s m aa below meth c H locs 0 0 (MQ below qq aa s 0 0 A) (F0 m 76 ls [])), ∀ (god : (Nat → Int64) × (Nat → Int64)) (x1 : Int32) (x2 : Int32) (x3 : Int32) (x4 : Int32) (x5 : Int64) (x7 : Int32) (x8 : Int32) (t1 : Int32) (H : Heap) (locs : List Loc) (ls : Array Slot), p_X13_meanOf_122 k43 k76 gvm god x1 x2 x3 x4 x5 x7 x8 t1 = some R0 → va_P (dC, dI) vwCl (w_X13_meanOf cy a0 gth gvm gtd gfl grd gnv gac grc god gim) H → va_D A (w_X13_meanOf cy a0 gth gvm gtd gfl grd gnv gac grc god gim) → va_S A s.heap H locs → lv_has ls 10 [(0, .ref (a0 0)), (1, .int x1), (2, .int x2), (3, .int x3), (4, .int x4), (5, .long x5), (7, .int x7), (8, .int x8)] → W p l e rm_X13_meanOf s m aa below meth c H locs 0 0 (MQ below qq aa s 0 0 A) (F0 m 122 ls [.int t1, .ref (a0 30)]) := by
    intro k43 hk43 k76 hk76 god x1 x2 x3 x4 x5 x7 x8 t1 H locs ls h hP hD hS hl
    unfold p_X13_meanOf_122 at h
    refine lv_dup2_11 hx hb dX13_meanOf_122 rfl rfl ?_
    obtain ⟨hi1, h⟩ := ok_if h
    refine va_lald hx hb hK hP 11 2 rfl rfl (ix_in hi1) dX13_meanOf_123 ?_
    refine lv_aload_n hx hb dX13_meanOf_124 rfl (lv_at hl 0 rfl) ?_
    refine va_get (D := (dC, dI)) (ci := 11) (v := .ref (a0 29)) (C := RX13) (T := TX13) (N := 64) hx hb hts in_X13 hown hK hP 0 rfl rfl 49 (by decide) lk0 (fun _ h9 => h9) rfl dX13_meanOf_125 ?_
    refine lv_iload hx hb dX13_meanOf_128 (lv_at hl 7 rfl) ?_
    obtain ⟨hi2, h⟩ := ok_if h
    refine va_lald hx hb hK hP 10 2 rfl rfl (ix_in hi2) dX13_meanOf_130 ?_
    refine lv_iload hx hb dX13_meanOf_131 (lv_at hl 4 rfl) ?_
    refine lv_i2l hx hb dX13_meanOf_133 rfl ?_
    refine lv_lmul hx hb dX13_meanOf_134 ?_
    refine lv_ladd hx hb dX13_meanOf_135 ?_
    obtain ⟨hi3, h⟩ := ok_if h
    refine va_last hx hb hK hP hD hS 11 2 rfl rfl (ix_in hi3) dX13_meanOf_136 (fun H locs hP hD hS => ?_)
    have hP : va_P (dC, dI) vwCl (w_X13_meanOf cy a0 gth gvm gtd gfl grd gnv gac grc ((god.1, (vp_updL god.2 t1.toNatClampNeg ((god.2 t1.toNatClampNeg) + ((god.1 x8.toNatClampNeg) * x4.toInt64))))) gim) H := hP
    have hD : va_D A (w_X13_meanOf cy a0 gth gvm gtd gfl grd gnv gac grc ((god.1, (vp_updL god.2 t1.toNatClampNeg ((god.2 t1.toNatClampNeg) + ((god.1 x8.toNatClampNeg) * x4.toInt64))))) gim) := hD
    refine lv_aload_n hx hb dX13_meanOf_137 rfl (lv_at hl 0 rfl) ?_
    refine va_get (D := (dC, dI)) (ci := 11) (v := .ref (a0 30)) (C := RX13) (T := TX13) (N := 64) hx hb hts in_X13 hown hK hP 0 rfl rfl 50 (by decide) lk2 (fun _ h9 => h9) rfl dX13_meanOf_138 ?_
    refine lv_iload hx hb dX13_meanOf_141 (lv_at hl 7 rfl) ?_
    refine lv_dup2_11 hx hb dX13_meanOf_143 rfl rfl ?_
    obtain ⟨hi4, h⟩ := ok_if h
    refine va_lald hx hb hK hP 11 2 rfl rfl (ix_in hi4) dX13_meanOf_144 ?_
    refine lv_aload_n hx hb dX13_meanOf_145 rfl (lv_at hl 0 rfl) ?_
    refine va_get (D := (dC, dI)) (ci := 11) (v := .ref (a0 29)) (C := RX13) (T := TX13) (N := 64) hx hb hts in_X13 hown hK hP 0 rfl rfl 49 (by decide) lk0 (fun _ h9 => h9) rfl dX13_meanOf_146 ?_
    refine lv_iload hx hb dX13_meanOf_149 (lv_at hl 7 rfl) ?_
    obtain ⟨hi5, h⟩ := ok_if h
    refine va_lald hx hb hK hP 10 2 rfl rfl (ix_in hi5) dX13_meanOf_151 ?_
    refine lv_bipush (v := (10 : Int32)) hx hb dX13_meanOf_152 (by decide) ?_
    refine lv_iload_n hx hb dX13_meanOf_154 rfl (lv_at hl 3 rfl) ?_
    refine lv_isub hx hb dX13_meanOf_155 ?_
    refine lv_iload hx hb dX13_meanOf_156 (lv_at hl 4 rfl) ?_
    refine lv_isub hx hb dX13_meanOf_158 ?_
    refine lv_i2l hx hb dX13_meanOf_159 rfl ?_
    refine lv_lmul hx hb dX13_meanOf_160 ?_
    refine lv_ladd hx hb dX13_meanOf_161 ?_
    obtain ⟨hi6, h⟩ := ok_if h
    refine va_last hx hb hK hP hD hS 11 2 rfl rfl (ix_in hi6) dX13_meanOf_162 (fun H locs hP hD hS => ?_)
    have hP : va_P (dC, dI) vwCl (w_X13_meanOf cy a0 gth gvm gtd gfl grd gnv gac grc ((god.1, (vp_updL (vp_updL god.2 t1.toNatClampNeg ((god.2 t1.toNatClampNeg) + ((god.1 x8.toNatClampNeg) * x4.toInt64))) x8.toNatClampNeg (((vp_updL god.2 t1.toNatClampNeg ((god.2 t1.toNatClampNeg) + ((god.1 x8.toNatClampNeg) * x4.toInt64))) x8.toNatClampNeg) + ((god.1 x8.toNatClampNeg) * (((10 : Int32) - x3) - x4).toInt64))))) gim) H := hP
    have hD : va_D A (w_X13_meanOf cy a0 gth gvm gtd gfl grd gnv gac grc ((god.1, (vp_updL (vp_updL god.2 t1.toNatClampNeg ((god.2 t1.toNatClampNeg) + ((god.1 x8.toNatClampNeg) * x4.toInt64))) x8.toNatClampNeg (((vp_updL god.2 t1.toNatClampNeg ((god.2 t1.toNatClampNeg) + ((god.1 x8.toNatClampNeg) * x4.toInt64))) x8.toNatClampNeg) + ((god.1 x8.toNatClampNeg) * (((10 : Int32) - x3) - x4).toInt64))))) gim) := hD
    refine lv_iinc (v := (x8 + (1 : Int32))) (lv' := [(8, .int (x8 + (1 : Int32))), (0, .ref (a0 0)), (1, .int x1), (2, .int x2), (3, .int x3), (4, .int x4), (5, .long x5), (7, .int x7)]) hx hb dX13_meanOf_163 hl (k := 7) rfl rfl (by decide) rfl (fun ls hl => ?_)
    refine lv_goto (tgt := 76) hx hb dX13_meanOf_166 (by decide) ?_
    exact hk76 (god.1, (vp_updL (vp_updL god.2 t1.toNatClampNeg ((god.2 t1.toNatClampNeg) + ((god.1 x8.toNatClampNeg) * x4.toInt64))) x8.toNatClampNeg (((vp_updL god.2 t1.toNatClampNeg ((god.2 t1.toNatClampNeg) + ((god.1 x8.toNatClampNeg) * x4.toInt64))) x8.toNatClampNeg) + ((god.1 x8.toNatClampNeg) * (((10 : Int32) - x3) - x4).toInt64)))) x1 x2 x3 x4 x5 x7 (x8 + (1 : Int32)) H locs ls h hP hD hS (lv_sub hl [1, 2, 3, 4, 5, 6, 7, 0] rfl)
  have c76 : ∀ (k43 : ((Nat → Int64) × (Nat → Int64)) → Int32 → Int32 → Int32 → Int32 → Int64 → Int32 → Option (Int32 × ((Nat → Int64) × (Nat → Int64)))) (hk43 : ∀ (god : (Nat → Int64) × (Nat → Int64)) (x1 : Int32) (x2 : Int32) (x3 : Int32) (x4 : Int32) (x5 : Int64) (x7 : Int32) (H : Heap) (locs : List Loc) (ls : Array Slot), k43 god x1 x2 x3 x4 x5 x7 = some R0 → va_P (dC, dI) vwCl (w_X13_meanOf cy a0 gth gvm gtd gfl grd gnv gac grc god gim) H → va_D A (w_X13_meanOf cy a0 gth gvm gtd gfl grd gnv gac grc god gim) → va_S A s.heap H locs → lv_has ls 10 [(0, .ref (a0 0)), (1, .int x1), (2, .int x2), (3, .int x3), (4, .int x4), (5, .long x5), (7, .int x7)] → W p l e rm_X13_meanOf s m aa below meth c H locs 0 0 (MQ below qq aa s 0 0 A) (F0 m 43 ls [])) (n : Nat), ∀ (god : (Nat → Int64) × (Nat → Int64)) (x1 : Int32) (x2 : Int32) (x3 : Int32) (x4 : Int32) (x5 : Int64) (x7 : Int32) (x8 : Int32) (H : Heap) (locs : List Loc) (ls : Array Slot), p_X13_meanOf_76 k43 gvm n god x1 x2 x3 x4 x5 x7 x8 = some R0 → va_P (dC, dI) vwCl (w_X13_meanOf cy a0 gth gvm gtd gfl grd gnv gac grc god gim) H → va_D A (w_X13_meanOf cy a0 gth gvm gtd gfl grd gnv gac grc god gim) → va_S A s.heap H locs → lv_has ls 10 [(0, .ref (a0 0)), (1, .int x1), (2, .int x2), (3, .int x3), (4, .int x4), (5, .long x5), (7, .int x7), (8, .int x8)] → W p l e rm_X13_meanOf s m aa below meth c H locs 0 0 (MQ below qq aa s 0 0 A) (F0 m 76 ls []) := by
    intro k43 hk43 n
    induction n with
    | zero => intro god x1 x2 x3 x4 x5 x7 x8 H locs ls h; exact no_some h
    | succ n ih =>
      intro god x1 x2 x3 x4 x5 x7 x8 H locs ls h hP hD hS hl
      rw [p_X13_meanOf_76.eq_2] at h
      refine lv_iload hx hb dX13_meanOf_76 (lv_at hl 7 rfl) ?_
      refine lv_bipush (v := (61 : Int32)) hx hb dX13_meanOf_78 (by decide) ?_
      refine lv_icmp_ge (tgt := 169) hx hb dX13_meanOf_80 (by decide) (fun c1 => ?_) (fun c1 => ?_)
      · rw [if_pos c1] at h
        refine lv_iconst (v := (0 : Int32)) hx hb dX13_meanOf_169 (by decide) ?_
        refine lv_istore (lv' := [(8, .int (0 : Int32)), (0, .ref (a0 0)), (1, .int x1), (2, .int x2), (3, .int x3), (4, .int x4), (5, .long x5), (7, .int x7)]) hx hb dX13_meanOf_170 hl (by decide) rfl (fun ls hl => ?_)
        exact c172 k43 hk43 fu god x1 x2 x3 x4 x5 x7 (0 : Int32) H locs ls h hP hD hS (lv_sub hl [1, 2, 3, 4, 5, 6, 7, 0] rfl)
      · rw [if_neg c1] at h
        refine lv_aload_n hx hb dX13_meanOf_83 rfl (lv_at hl 0 rfl) ?_
        refine va_get (D := (dC, dI)) (ci := 11) (v := .ref (a0 30)) (C := RX13) (T := TX13) (N := 64) hx hb hts in_X13 hown hK hP 0 rfl rfl 50 (by decide) lk2 (fun _ h9 => h9) rfl dX13_meanOf_84 ?_
        refine lv_iload hx hb dX13_meanOf_87 (lv_at hl 7 rfl) ?_
        refine lv_iconst (v := (1 : Int32)) hx hb dX13_meanOf_89 (by decide) ?_
        refine lv_iadd hx hb dX13_meanOf_90 ?_
        refine lv_dup2_11 hx hb dX13_meanOf_91 rfl rfl ?_
        obtain ⟨hi2, h⟩ := ok_if h
        refine va_lald hx hb hK hP 11 2 rfl rfl (ix_in hi2) dX13_meanOf_92 ?_
        refine lv_aload_n hx hb dX13_meanOf_93 rfl (lv_at hl 0 rfl) ?_
        refine va_get (D := (dC, dI)) (ci := 11) (v := .ref (a0 29)) (C := RX13) (T := TX13) (N := 64) hx hb hts in_X13 hown hK hP 0 rfl rfl 49 (by decide) lk0 (fun _ h9 => h9) rfl dX13_meanOf_94 ?_
        refine lv_iload hx hb dX13_meanOf_97 (lv_at hl 7 rfl) ?_
        obtain ⟨hi3, h⟩ := ok_if h
        refine va_lald hx hb hK hP 10 2 rfl rfl (ix_in hi3) dX13_meanOf_99 ?_
        refine lv_iload_n hx hb dX13_meanOf_100 rfl (lv_at hl 3 rfl) ?_
        refine lv_i2l hx hb dX13_meanOf_101 rfl ?_
        refine lv_lmul hx hb dX13_meanOf_102 ?_
        refine lv_ladd hx hb dX13_meanOf_103 ?_
        obtain ⟨hi4, h⟩ := ok_if h
        refine va_last hx hb hK hP hD hS 11 2 rfl rfl (ix_in hi4) dX13_meanOf_104 (fun H locs hP hD hS => ?_)
        have hP : va_P (dC, dI) vwCl (w_X13_meanOf cy a0 gth gvm gtd gfl grd gnv gac grc ((god.1, (vp_updL god.2 (x8 + (1 : Int32)).toNatClampNeg ((god.2 (x8 + (1 : Int32)).toNatClampNeg) + ((god.1 x8.toNatClampNeg) * x3.toInt64))))) gim) H := hP
        have hD : va_D A (w_X13_meanOf cy a0 gth gvm gtd gfl grd gnv gac grc ((god.1, (vp_updL god.2 (x8 + (1 : Int32)).toNatClampNeg ((god.2 (x8 + (1 : Int32)).toNatClampNeg) + ((god.1 x8.toNatClampNeg) * x3.toInt64))))) gim) := hD
        refine lv_aload_n hx hb dX13_meanOf_105 rfl (lv_at hl 0 rfl) ?_
        refine va_get (D := (dC, dI)) (ci := 11) (v := .ref (a0 30)) (C := RX13) (T := TX13) (N := 64) hx hb hts in_X13 hown hK hP 0 rfl rfl 50 (by decide) lk2 (fun _ h9 => h9) rfl dX13_meanOf_106 ?_
        refine lv_iload hx hb dX13_meanOf_109 (lv_at hl 7 rfl) ?_
        refine lv_if_le (tgt := 121) hx hb dX13_meanOf_111 (by decide) (fun c5 => ?_) (fun c5 => ?_)
        · rw [if_pos c5] at h
          refine lv_iconst (v := (0 : Int32)) hx hb dX13_meanOf_121 (by decide) ?_
          exact c122 k43 hk43 (p_X13_meanOf_76 k43 gvm n) ih (god.1, (vp_updL god.2 (x8 + (1 : Int32)).toNatClampNeg ((god.2 (x8 + (1 : Int32)).toNatClampNeg) + ((god.1 x8.toNatClampNeg) * x3.toInt64)))) x1 x2 x3 x4 x5 x7 x8 (0 : Int32) H locs ls h hP hD hS (lv_sub hl [0, 1, 2, 3, 4, 5, 6, 7] rfl)
        · rw [if_neg c5] at h
          refine lv_iload hx hb dX13_meanOf_114 (lv_at hl 7 rfl) ?_
          refine lv_iconst (v := (1 : Int32)) hx hb dX13_meanOf_116 (by decide) ?_
          refine lv_isub hx hb dX13_meanOf_117 ?_
          refine lv_goto (tgt := 122) hx hb dX13_meanOf_118 (by decide) ?_
          exact c122 k43 hk43 (p_X13_meanOf_76 k43 gvm n) ih (god.1, (vp_updL god.2 (x8 + (1 : Int32)).toNatClampNeg ((god.2 (x8 + (1 : Int32)).toNatClampNeg) + ((god.1 x8.toNatClampNeg) * x3.toInt64)))) x1 x2 x3 x4 x5 x7 x8 (x8 - (1 : Int32)) H locs ls h hP hD hS (lv_sub hl [0, 1, 2, 3, 4, 5, 6, 7] rfl)
  have c52 : ∀ (k43 : ((Nat → Int64) × (Nat → Int64)) → Int32 → Int32 → Int32 → Int32 → Int64 → Int32 → Option (Int32 × ((Nat → Int64) × (Nat → Int64)))) (hk43 : ∀ (god : (Nat → Int64) × (Nat → Int64)) (x1 : Int32) (x2 : Int32) (x3 : Int32) (x4 : Int32) (x5 : Int64) (x7 : Int32) (H : Heap) (locs : List Loc) (ls : Array Slot), k43 god x1 x2 x3 x4 x5 x7 = some R0 → va_P (dC, dI) vwCl (w_X13_meanOf cy a0 gth gvm gtd gfl grd gnv gac grc god gim) H → va_D A (w_X13_meanOf cy a0 gth gvm gtd gfl grd gnv gac grc god gim) → va_S A s.heap H locs → lv_has ls 10 [(0, .ref (a0 0)), (1, .int x1), (2, .int x2), (3, .int x3), (4, .int x4), (5, .long x5), (7, .int x7)] → W p l e rm_X13_meanOf s m aa below meth c H locs 0 0 (MQ below qq aa s 0 0 A) (F0 m 43 ls [])) (n : Nat), ∀ (god : (Nat → Int64) × (Nat → Int64)) (x1 : Int32) (x2 : Int32) (x3 : Int32) (x4 : Int32) (x5 : Int64) (x7 : Int32) (x8 : Int32) (H : Heap) (locs : List Loc) (ls : Array Slot), p_X13_meanOf_52 k43 gvm n god x1 x2 x3 x4 x5 x7 x8 = some R0 → va_P (dC, dI) vwCl (w_X13_meanOf cy a0 gth gvm gtd gfl grd gnv gac grc god gim) H → va_D A (w_X13_meanOf cy a0 gth gvm gtd gfl grd gnv gac grc god gim) → va_S A s.heap H locs → lv_has ls 10 [(0, .ref (a0 0)), (1, .int x1), (2, .int x2), (3, .int x3), (4, .int x4), (5, .long x5), (7, .int x7), (8, .int x8)] → W p l e rm_X13_meanOf s m aa below meth c H locs 0 0 (MQ below qq aa s 0 0 A) (F0 m 52 ls []) := by
    intro k43 hk43 n
    induction n with
    | zero => intro god x1 x2 x3 x4 x5 x7 x8 H locs ls h; exact no_some h
    | succ n ih =>
      intro god x1 x2 x3 x4 x5 x7 x8 H locs ls h hP hD hS hl
      rw [p_X13_meanOf_52.eq_2] at h
      refine lv_iload hx hb dX13_meanOf_52 (lv_at hl 7 rfl) ?_
      refine lv_bipush (v := (62 : Int32)) hx hb dX13_meanOf_54 (by decide) ?_
      refine lv_icmp_ge (tgt := 73) hx hb dX13_meanOf_56 (by decide) (fun c1 => ?_) (fun c1 => ?_)
      · rw [if_pos c1] at h
        refine lv_iconst (v := (0 : Int32)) hx hb dX13_meanOf_73 (by decide) ?_
        refine lv_istore (lv' := [(8, .int (0 : Int32)), (0, .ref (a0 0)), (1, .int x1), (2, .int x2), (3, .int x3), (4, .int x4), (5, .long x5), (7, .int x7)]) hx hb dX13_meanOf_74 hl (by decide) rfl (fun ls hl => ?_)
        exact c76 k43 hk43 fu god x1 x2 x3 x4 x5 x7 (0 : Int32) H locs ls h hP hD hS (lv_sub hl [1, 2, 3, 4, 5, 6, 7, 0] rfl)
      · rw [if_neg c1] at h
        refine lv_aload_n hx hb dX13_meanOf_59 rfl (lv_at hl 0 rfl) ?_
        refine va_get (D := (dC, dI)) (ci := 11) (v := .ref (a0 30)) (C := RX13) (T := TX13) (N := 64) hx hb hts in_X13 hown hK hP 0 rfl rfl 50 (by decide) lk2 (fun _ h9 => h9) rfl dX13_meanOf_60 ?_
        refine lv_iload hx hb dX13_meanOf_63 (lv_at hl 7 rfl) ?_
        refine lv_lconst (v := (0 : Int64)) hx hb dX13_meanOf_65 (by decide) ?_
        obtain ⟨hi2, h⟩ := ok_if h
        refine va_last hx hb hK hP hD hS 11 2 rfl rfl (ix_in hi2) dX13_meanOf_66 (fun H locs hP hD hS => ?_)
        have hP : va_P (dC, dI) vwCl (w_X13_meanOf cy a0 gth gvm gtd gfl grd gnv gac grc ((god.1, (vp_updL god.2 x8.toNatClampNeg (0 : Int64)))) gim) H := hP
        have hD : va_D A (w_X13_meanOf cy a0 gth gvm gtd gfl grd gnv gac grc ((god.1, (vp_updL god.2 x8.toNatClampNeg (0 : Int64)))) gim) := hD
        refine lv_iinc (v := (x8 + (1 : Int32))) (lv' := [(8, .int (x8 + (1 : Int32))), (0, .ref (a0 0)), (1, .int x1), (2, .int x2), (3, .int x3), (4, .int x4), (5, .long x5), (7, .int x7)]) hx hb dX13_meanOf_67 hl (k := 7) rfl rfl (by decide) rfl (fun ls hl => ?_)
        refine lv_goto (tgt := 52) hx hb dX13_meanOf_70 (by decide) ?_
        exact ih (god.1, (vp_updL god.2 x8.toNatClampNeg (0 : Int64))) x1 x2 x3 x4 x5 x7 (x8 + (1 : Int32)) H locs ls h hP hD hS (lv_sub hl [1, 2, 3, 4, 5, 6, 7, 0] rfl)
  have c43 : ∀ (n : Nat), ∀ (god : (Nat → Int64) × (Nat → Int64)) (x1 : Int32) (x2 : Int32) (x3 : Int32) (x4 : Int32) (x5 : Int64) (x7 : Int32) (H : Heap) (locs : List Loc) (ls : Array Slot), p_X13_meanOf_43 gvm n god x1 x2 x3 x4 x5 x7 = some R0 → va_P (dC, dI) vwCl (w_X13_meanOf cy a0 gth gvm gtd gfl grd gnv gac grc god gim) H → va_D A (w_X13_meanOf cy a0 gth gvm gtd gfl grd gnv gac grc god gim) → va_S A s.heap H locs → lv_has ls 10 [(0, .ref (a0 0)), (1, .int x1), (2, .int x2), (3, .int x3), (4, .int x4), (5, .long x5), (7, .int x7)] → W p l e rm_X13_meanOf s m aa below meth c H locs 0 0 (MQ below qq aa s 0 0 A) (F0 m 43 ls []) := by
    intro  n
    induction n with
    | zero => intro god x1 x2 x3 x4 x5 x7 H locs ls h; exact no_some h
    | succ n ih =>
      intro god x1 x2 x3 x4 x5 x7 H locs ls h hP hD hS hl
      rw [p_X13_meanOf_43.eq_2] at h
      refine lv_iload hx hb dX13_meanOf_43 (lv_at hl 6 rfl) ?_
      refine lv_iload_n hx hb dX13_meanOf_45 rfl (lv_at hl 2 rfl) ?_
      refine lv_icmp_ge (tgt := 213) hx hb dX13_meanOf_46 (by decide) (fun c1 => ?_) (fun c1 => ?_)
      · rw [if_pos c1] at h
        refine lv_lconst (v := (0 : Int64)) hx hb dX13_meanOf_213 (by decide) ?_
        refine lv_lstore (lv' := [(7, .long (0 : Int64)), (0, .ref (a0 0)), (1, .int x1), (2, .int x2), (3, .int x3), (4, .int x4), (5, .long x5)]) hx hb dX13_meanOf_214 hl (by decide) rfl (fun ls hl => ?_)
        refine lv_iconst (v := (0 : Int32)) hx hb dX13_meanOf_216 (by decide) ?_
        refine lv_istore (lv' := [(9, .int (0 : Int32)), (7, .long (0 : Int64)), (0, .ref (a0 0)), (1, .int x1), (2, .int x2), (3, .int x3), (4, .int x4), (5, .long x5)]) hx hb dX13_meanOf_217 hl (by decide) rfl (fun ls hl => ?_)
        exact c219 fu god x1 x5 (0 : Int64) (0 : Int32) H locs ls h hP hD hS (lv_sub hl [2, 3, 7, 1, 0] rfl)
      · rw [if_neg c1] at h
        refine lv_iconst (v := (0 : Int32)) hx hb dX13_meanOf_49 (by decide) ?_
        refine lv_istore (lv' := [(8, .int (0 : Int32)), (0, .ref (a0 0)), (1, .int x1), (2, .int x2), (3, .int x3), (4, .int x4), (5, .long x5), (7, .int x7)]) hx hb dX13_meanOf_50 hl (by decide) rfl (fun ls hl => ?_)
        exact c52 (p_X13_meanOf_43 gvm n) ih fu god x1 x2 x3 x4 x5 x7 (0 : Int32) H locs ls h hP hD hS (lv_sub hl [1, 2, 3, 4, 5, 6, 7, 0] rfl)
  have c30 : ∀ (k3 : ((Nat → Int64) × (Nat → Int64)) → Int32 → Int32 → Int32 → Int32 → Int32 → Option (Int32 × ((Nat → Int64) × (Nat → Int64)))) (hk3 : ∀ (god : (Nat → Int64) × (Nat → Int64)) (x1 : Int32) (x2 : Int32) (x3 : Int32) (x4 : Int32) (x5 : Int32) (H : Heap) (locs : List Loc) (ls : Array Slot), k3 god x1 x2 x3 x4 x5 = some R0 → va_P (dC, dI) vwCl (w_X13_meanOf cy a0 gth gvm gtd gfl grd gnv gac grc god gim) H → va_D A (w_X13_meanOf cy a0 gth gvm gtd gfl grd gnv gac grc god gim) → va_S A s.heap H locs → lv_has ls 10 [(0, .ref (a0 0)), (1, .int x1), (2, .int x2), (3, .int x3), (4, .int x4), (5, .int x5)] → W p l e rm_X13_meanOf s m aa below meth c H locs 0 0 (MQ below qq aa s 0 0 A) (F0 m 3 ls [])), ∀ (god : (Nat → Int64) × (Nat → Int64)) (x1 : Int32) (x2 : Int32) (x3 : Int32) (x4 : Int32) (x5 : Int32) (t1 : Int32) (t2 : Int64) (H : Heap) (locs : List Loc) (ls : Array Slot), p_X13_meanOf_30 k3 gvm god x1 x2 x3 x4 x5 t1 t2 = some R0 → va_P (dC, dI) vwCl (w_X13_meanOf cy a0 gth gvm gtd gfl grd gnv gac grc god gim) H → va_D A (w_X13_meanOf cy a0 gth gvm gtd gfl grd gnv gac grc god gim) → va_S A s.heap H locs → lv_has ls 10 [(0, .ref (a0 0)), (1, .int x1), (2, .int x2), (3, .int x3), (4, .int x4), (5, .int x5)] → W p l e rm_X13_meanOf s m aa below meth c H locs 0 0 (MQ below qq aa s 0 0 A) (F0 m 30 ls [.long t2, .int t1, .ref (a0 29)]) := by
    intro k3 hk3 god x1 x2 x3 x4 x5 t1 t2 H locs ls h hP hD hS hl
    unfold p_X13_meanOf_30 at h
    obtain ⟨hi1, h⟩ := ok_if h
    refine va_last hx hb hK hP hD hS 10 2 rfl rfl (ix_in hi1) dX13_meanOf_30 (fun H locs hP hD hS => ?_)
    have hP : va_P (dC, dI) vwCl (w_X13_meanOf cy a0 gth gvm gtd gfl grd gnv gac grc (((vp_updL god.1 t1.toNatClampNeg t2), god.2)) gim) H := hP
    have hD : va_D A (w_X13_meanOf cy a0 gth gvm gtd gfl grd gnv gac grc (((vp_updL god.1 t1.toNatClampNeg t2), god.2)) gim) := hD
    refine lv_iinc (v := (x5 + (1 : Int32))) (lv' := [(5, .int (x5 + (1 : Int32))), (0, .ref (a0 0)), (1, .int x1), (2, .int x2), (3, .int x3), (4, .int x4)]) hx hb dX13_meanOf_31 hl (k := 5) rfl rfl (by decide) rfl (fun ls hl => ?_)
    refine lv_goto (tgt := 3) hx hb dX13_meanOf_34 (by decide) ?_
    exact hk3 ((vp_updL god.1 t1.toNatClampNeg t2), god.2) x1 x2 x3 x4 (x5 + (1 : Int32)) H locs ls h hP hD hS (lv_sub hl [1, 2, 3, 4, 5, 0] rfl)
  have c3 : ∀ (n : Nat), ∀ (god : (Nat → Int64) × (Nat → Int64)) (x1 : Int32) (x2 : Int32) (x3 : Int32) (x4 : Int32) (x5 : Int32) (H : Heap) (locs : List Loc) (ls : Array Slot), p_X13_meanOf_3 gvm n god x1 x2 x3 x4 x5 = some R0 → va_P (dC, dI) vwCl (w_X13_meanOf cy a0 gth gvm gtd gfl grd gnv gac grc god gim) H → va_D A (w_X13_meanOf cy a0 gth gvm gtd gfl grd gnv gac grc god gim) → va_S A s.heap H locs → lv_has ls 10 [(0, .ref (a0 0)), (1, .int x1), (2, .int x2), (3, .int x3), (4, .int x4), (5, .int x5)] → W p l e rm_X13_meanOf s m aa below meth c H locs 0 0 (MQ below qq aa s 0 0 A) (F0 m 3 ls []) := by
    intro  n
    induction n with
    | zero => intro god x1 x2 x3 x4 x5 H locs ls h; exact no_some h
    | succ n ih =>
      intro god x1 x2 x3 x4 x5 H locs ls h hP hD hS hl
      rw [p_X13_meanOf_3.eq_2] at h
      refine lv_iload hx hb dX13_meanOf_3 (lv_at hl 5 rfl) ?_
      refine lv_bipush (v := (62 : Int32)) hx hb dX13_meanOf_5 (by decide) ?_
      refine lv_icmp_ge (tgt := 37) hx hb dX13_meanOf_7 (by decide) (fun c1 => ?_) (fun c1 => ?_)
      · rw [if_pos c1] at h
        refine lv_lconst (v := (1 : Int64)) hx hb dX13_meanOf_37 (by decide) ?_
        refine lv_lstore (lv' := [(5, .long (1 : Int64)), (0, .ref (a0 0)), (1, .int x1), (2, .int x2), (3, .int x3), (4, .int x4)]) hx hb dX13_meanOf_38 hl (by decide) rfl (fun ls hl => ?_)
        refine lv_iconst (v := (0 : Int32)) hx hb dX13_meanOf_40 (by decide) ?_
        refine lv_istore (lv' := [(7, .int (0 : Int32)), (5, .long (1 : Int64)), (0, .ref (a0 0)), (1, .int x1), (2, .int x2), (3, .int x3), (4, .int x4)]) hx hb dX13_meanOf_41 hl (by decide) rfl (fun ls hl => ?_)
        exact c43 fu god x1 x2 x3 x4 (1 : Int64) (0 : Int32) H locs ls h hP hD hS (lv_sub hl [2, 3, 4, 5, 6, 1, 0] rfl)
      · rw [if_neg c1] at h
        refine lv_aload_n hx hb dX13_meanOf_10 rfl (lv_at hl 0 rfl) ?_
        refine va_get (D := (dC, dI)) (ci := 11) (v := .ref (a0 29)) (C := RX13) (T := TX13) (N := 64) hx hb hts in_X13 hown hK hP 0 rfl rfl 49 (by decide) lk0 (fun _ h9 => h9) rfl dX13_meanOf_11 ?_
        refine lv_iload hx hb dX13_meanOf_14 (lv_at hl 5 rfl) ?_
        refine lv_iload hx hb dX13_meanOf_16 (lv_at hl 5 rfl) ?_
        refine lv_aload_n hx hb dX13_meanOf_18 rfl (lv_at hl 0 rfl) ?_
        refine va_get (D := (dC, dI)) (ci := 11) (v := .int gvm.2.2.1) (C := RX13) (T := TX13) (N := 64) hx hb hts in_X13 hown hK hP 0 rfl rfl 3 (by decide) lk3 (fun _ h9 => h9) rfl dX13_meanOf_19 ?_
        refine lv_icmp_ne (tgt := 29) hx hb dX13_meanOf_22 (by decide) (fun c2 => ?_) (fun c2 => ?_)
        · rw [if_neg c2] at h
          refine lv_lconst (v := (0 : Int64)) hx hb dX13_meanOf_29 (by decide) ?_
          exact c30 (p_X13_meanOf_3 gvm n) ih god x1 x2 x3 x4 x5 x5 (0 : Int64) H locs ls h hP hD hS (lv_sub hl [0, 1, 2, 3, 4, 5] rfl)
        · rw [if_pos c2] at h
          refine lv_lconst (v := (1 : Int64)) hx hb dX13_meanOf_25 (by decide) ?_
          refine lv_goto (tgt := 30) hx hb dX13_meanOf_26 (by decide) ?_
          exact c30 (p_X13_meanOf_3 gvm n) ih god x1 x2 x3 x4 x5 x5 (1 : Int64) H locs ls h hP hD hS (lv_sub hl [0, 1, 2, 3, 4, 5] rfl)
  obtain ⟨H, hH⟩ : ∃ H : Heap, H = s.heap := ⟨_, rfl⟩
  obtain ⟨locs, hlocs⟩ : ∃ locs : List Loc, locs = [] := ⟨_, rfl⟩
  have hS : va_S A s.heap H locs := by rw [hH, hlocs]; exact hS
  rw [← hH] at hP
  suffices hg : W p l e rm_X13_meanOf s m aa below meth c H locs 0 0 (MQ below qq aa s 0 0 A) (F0 m 0 ls []) by subst hH; subst hlocs; exact hg
  unfold p_X13_meanOf at h
  refine lv_iconst (v := (0 : Int32)) hx hb dX13_meanOf_0 (by decide) ?_
  refine lv_istore (lv' := [(5, .int (0 : Int32)), (0, .ref (a0 0)), (1, .int x1), (2, .int x2), (3, .int x3), (4, .int x4)]) hx hb dX13_meanOf_1 hl (by decide) rfl (fun ls hl => ?_)
  exact c3 fu god x1 x2 x3 x4 (0 : Int32) H locs ls h hP hD hS (lv_sub hl [1, 2, 3, 4, 5, 0] rfl)

abbrev w_X13_isTenths (cy : Nat → ClassId) (a0 : Nat → Nat) (gth : Int32) (gvm : Int32 × Int32 × Int32 × (Nat → Int32) × (Nat → Int32) × (Nat → Int32) × (Nat → Int32) × (Nat → Int32) × (Nat → Int32) × (Nat → Int32) × (Nat → Int32) × (Nat → Int32)) (gtd : Int32) (gfl : Int32 × Int32) (grd : Int32 × Int32 × Int32 × Int32 × Int32 × Int32 × Int64 × (Nat → Int32)) (gnv : Int32 × Int32 × Int32 × Int32 × Int32 × (Nat → Int32) × (Nat → Int32) × (Nat → Int32) × (Nat → Int32) × (Nat → Int32) × (Nat → Int32)) (gac : Int32 × (Nat → Int32) × (Nat → Int32)) (grc : Int32 × (Nat → Int32)) (gim : Int32 × Int32 × Int32 × (Nat → Int32) × (Nat → Int32) × (Nat → Int32) × (Nat → Int32) × (Nat → Int32) × (Nat → Int32) × (Nat → Int32) × (Nat → Int32) × (Nat → Int32)) : va_W := [(a0 0, .inr (11, [.int (gth), .int (gvm.1), .int (gvm.2.1), .int (gvm.2.2.1), .ref (a0 1), .ref (a0 2), .ref (a0 3), .ref (a0 4), .ref (a0 5), .ref (a0 6), .ref (a0 7), .ref (a0 8), .ref (a0 9), .ref (a0 10), .int (gtd), .int (gfl.1), .int (gfl.2), .ref (a0 11), .int (grd.1), .int (grd.2.1), .int (grd.2.2.1), .int (grd.2.2.2.1), .int (grd.2.2.2.2.1), .int (grd.2.2.2.2.2.1), .long (grd.2.2.2.2.2.2.1), .ref (a0 12), .int (gnv.1), .int (gnv.2.1), .int (gnv.2.2.1), .int (gnv.2.2.2.1), .int (gnv.2.2.2.2.1), .ref (a0 13), .ref (a0 14), .ref (a0 15), .ref (a0 16), .ref (a0 17), .ref (a0 18), .int (gac.1), .ref (a0 19), .ref (a0 20), .ref (a0 21), .ref (a0 22), .ref (a0 23), .ref (a0 24), .ref (a0 25), .ref (a0 26), .ref (a0 27), .int (grc.1), .ref (a0 28), .ref (a0 29), .ref (a0 30), .ref (a0 31), .int (gim.1), .int (gim.2.1), .int (gim.2.2.1), .ref (a0 32), .ref (a0 33), .ref (a0 34), .ref (a0 35), .ref (a0 36), .ref (a0 37), .ref (a0 38), .ref (a0 39), .ref (a0 40)]))]
abbrev rm_X13_isTenths : Room := { frames := 1, cells := 0, slots := 0, locals := 22 }
set_option maxHeartbeats 1000000 in
set_option maxRecDepth 100000 in
theorem c_X13_isTenths (l : Launch) (dC : Nat → ClassId) (dI : Nat → Nat → Nat) (cy : Nat → ClassId) (a0 : Nat → Nat) (gth : Int32) (gvm : Int32 × Int32 × Int32 × (Nat → Int32) × (Nat → Int32) × (Nat → Int32) × (Nat → Int32) × (Nat → Int32) × (Nat → Int32) × (Nat → Int32) × (Nat → Int32) × (Nat → Int32)) (gtd : Int32) (gfl : Int32 × Int32) (grd : Int32 × Int32 × Int32 × Int32 × Int32 × Int32 × Int64 × (Nat → Int32)) (gnv : Int32 × Int32 × Int32 × Int32 × Int32 × (Nat → Int32) × (Nat → Int32) × (Nat → Int32) × (Nat → Int32) × (Nat → Int32) × (Nat → Int32)) (gac : Int32 × (Nat → Int32) × (Nat → Int32)) (grc : Int32 × (Nat → Int32)) (gim : Int32 × Int32 × Int32 × (Nat → Int32) × (Nat → Int32) × (Nat → Int32) × (Nat → Int32) × (Nat → Int32) × (Nat → Int32) × (Nat → Int32) × (Nat → Int32) × (Nat → Int32)) (x1 : Int32) (x2 : Int32) (sz : Nat) (R0 : Int32 × (Int32)) (h : p_X13_isTenths gth x1 x2 = some R0) : Met l yX13_isTenths wsX13_isTenths rm_X13_isTenths (va_Pc [.ref (a0 0), .int x1, .int x2] (prC dC dI cy (w_X13_isTenths cy a0 gth gvm gtd gfl grd gnv gac grc gim) sz)) (va_Qi (fun (r : Int32) (u : (Int32)) => r = R0.1 ∧ u = R0.2) (fun (u : (Int32)) t => poC dC dI cy (w_X13_isTenths cy a0 u gvm gtd gfl grd gnv gac grc gim) t) (va_A (w_X13_isTenths cy a0 gth gvm gtd gfl grd gnv gac grc gim) sz)) 0 0 (va_A (w_X13_isTenths cy a0 gth gvm gtd gfl grd gnv gac grc gim) sz) := by
  refine Met.ofW (cc := cX13_isTenths) (maxL := 3) (ret := (some .boolean)) (by decide) rfl ?_
  intro p e s m aa below meth c s₁ B hml hv
  obtain ⟨haa, hsz, hP, hK, hD0⟩ := hv
  have hx := B.exec
  have hb := B.bytes
  have hr := B.returns
  have hts := atoms_spec (ws := wsX13_isTenths) B.pre
  have hown : s.vm.findClass RX13 = some m.cls := findClass_of_methodNamed B.named
  have hlocks := B.notSynchronized
  subst hsz
  have hD := hD0.self (sz := s.heap.size)
  obtain ⟨qq, hqq⟩ : ∃ qq, qq = (va_Qi (fun (r : Int32) (u : (Int32)) => r = R0.1 ∧ u = R0.2) (fun (u : (Int32)) t => poC dC dI cy (w_X13_isTenths cy a0 u gvm gtd gfl grd gnv gac grc gim) t) (va_A (w_X13_isTenths cy a0 gth gvm gtd gfl grd gnv gac grc gim) s.heap.size)) := ⟨_, rfl⟩
  rw [← hqq]
  generalize hAe : va_A (w_X13_isTenths cy a0 gth gvm gtd gfl grd gnv gac grc gim) s.heap.size = A at hD hqq ⊢
  have hA : ∀ q : Nat, s.heap.size ≤ q → A q := fun q h => by rw [← hAe]; exact Or.inr h
  have hS : va_S A s.heap s.heap [] := va_S.rf
  have hl := lv_entry ([.ref (a0 0), .int x1, .int x2]) (n := 3) (Nat.le_of_ble_eq_true rfl)
  have hE : entryFrame m aa 3 = F0 m 0 ((lg_sl ([.ref (a0 0), .int x1, .int x2]) ++ List.replicate (3 - (lg_sl ([.ref (a0 0), .int x1, .int x2])).length) Slot.unset).toArray) [] := by rw [haa]; exact lg_entry_eq m _ 3
  refine W.eq hE ?_
  generalize (lg_sl ([.ref (a0 0), .int x1, .int x2]) ++ List.replicate (3 - (lg_sl ([.ref (a0 0), .int x1, .int x2])).length) Slot.unset).toArray = ls at hl ⊢
  have hl : lv_has ls 3 [(0, .ref (a0 0)), (1, .int x1), (2, .int x2)] := hl
  change W p l e rm_X13_isTenths s m aa below meth c s.heap [] 0 0 (MQ below qq aa s 0 0 A) (F0 m 0 ls [])
  have hS0 := hS
  have c34 : ∀ (_u : Unit), ∀ (gth : Int32) (t1 : Int32) (H : Heap) (locs : List Loc) (ls : Array Slot), p_X13_isTenths_34 gth t1 = some R0 → va_P (dC, dI) vwCl (w_X13_isTenths cy a0 gth gvm gtd gfl grd gnv gac grc gim) H → va_D A (w_X13_isTenths cy a0 gth gvm gtd gfl grd gnv gac grc gim) → va_S A s.heap H locs → lv_has ls 3 [] → W p l e rm_X13_isTenths s m aa below meth c H locs 0 0 (MQ below qq aa s 0 0 A) (F0 m 34 ls [.int t1, .ref (a0 0)]) := by
    intro _ gth t1 H locs ls h hP hD hS hl
    unfold p_X13_isTenths_34 at h
    refine lv_iconst (v := (2 : Int32)) hx hb dX13_isTenths_34 (by decide) ?_
    obtain ⟨v1, hv2, h⟩ := ok_bind h
    refine cl_vi (w2 := fun (u : (Int32)) => w_X13_isTenths cy a0 u gvm gtd gfl grd gnv gac grc gim) (As := [.int t1, .int (2 : Int32)]) (rest := []) ⟨hx, hb, hml, hown, hts⟩ (c_X13_right l dC dI cy a0 gth gvm gtd gfl grd gnv gac grc gim t1 (2 : Int32) H.size v1 hv2) (cwV 2 hts gX13_isTenths_X13_right rfl rfl rfl (by decide +kernel) ⟨Nat.le_of_ble_eq_true rfl, Nat.le_of_ble_eq_true rfl⟩) (va_recv hK hP (ci := 11) (q0 := 0) rfl rfl) cl_blind (cl_pre hK hP hD [0] (by decide) rfl) hP hD hS hA [0] rfl rfl hl.1 rfl (lv_room (Nat.le_of_ble_eq_true rfl)) dX13_isTenths_35 ⟨Nat.le_of_ble_eq_true rfl, Nat.le_of_ble_eq_true rfl⟩ ⟨rfl, rfl⟩ (fun _ => updM [0] [] [] 1 rfl rfl rfl rfl rfl (by decide +kernel) (by decide +kernel) rfl) (fun r u H locs hw hP hD hS => ?_)
    obtain ⟨rfl, rfl⟩ := hw
    have hP : va_P (dC, dI) vwCl (w_X13_isTenths cy a0 v1.2 gvm gtd gfl grd gnv gac grc gim) H := hP
    have hD : va_D A (w_X13_isTenths cy a0 v1.2 gvm gtd gfl grd gnv gac grc gim) := hD
    obtain ⟨hz3, h⟩ := ok_if h
    exact W.zret (v := v1.1) (ty := .boolean) hx hb hr (isZ_nar hz3) (fun t ht hW => by rw [hqq]; have hh := Option.some.inj h; exact ⟨⟨v1.1, (v1.2), rfl, ⟨fst_of hh, snd_of hh⟩, by rw [ht]; exact hP, va_K.moved hW.alike hK⟩, hS.F ht⟩) hS.2.2 dX13_isTenths_38
  have c33 : ∀ (_u : Unit), ∀ (gth : Int32) (H : Heap) (locs : List Loc) (ls : Array Slot), p_X13_isTenths_33 gth = some R0 → va_P (dC, dI) vwCl (w_X13_isTenths cy a0 gth gvm gtd gfl grd gnv gac grc gim) H → va_D A (w_X13_isTenths cy a0 gth gvm gtd gfl grd gnv gac grc gim) → va_S A s.heap H locs → lv_has ls 3 [] → W p l e rm_X13_isTenths s m aa below meth c H locs 0 0 (MQ below qq aa s 0 0 A) (F0 m 33 ls [.ref (a0 0)]) := by
    intro _ gth H locs ls h hP hD hS hl
    unfold p_X13_isTenths_33 at h
    refine lv_iconst (v := (0 : Int32)) hx hb dX13_isTenths_33 (by decide) ?_
    exact c34 () gth (0 : Int32) H locs ls h hP hD hS (lv_sub hl [] rfl)
  obtain ⟨H, hH⟩ : ∃ H : Heap, H = s.heap := ⟨_, rfl⟩
  obtain ⟨locs, hlocs⟩ : ∃ locs : List Loc, locs = [] := ⟨_, rfl⟩
  have hS : va_S A s.heap H locs := by rw [hH, hlocs]; exact hS
  rw [← hH] at hP
  suffices hg : W p l e rm_X13_isTenths s m aa below meth c H locs 0 0 (MQ below qq aa s 0 0 A) (F0 m 0 ls []) by subst hH; subst hlocs; exact hg
  unfold p_X13_isTenths at h
  refine lv_aload_n hx hb dX13_isTenths_0 rfl (lv_at hl 0 rfl) ?_
  refine lv_iload_n hx hb dX13_isTenths_1 rfl (lv_at hl 1 rfl) ?_
  refine lv_iconst (v := (0 : Int32)) hx hb dX13_isTenths_2 (by decide) ?_
  refine lv_bipush (v := (10 : Int32)) hx hb dX13_isTenths_3 (by decide) ?_
  obtain ⟨v1, hv2, h⟩ := ok_bind h
  refine cl_si (w2 := fun (_ : Unit) => w_X13_isTenths cy a0 gth gvm gtd gfl grd gnv gac grc gim) (As := [.int x1, .int (0 : Int32), .int (10 : Int32)]) (rest := [.ref (a0 0)]) ⟨hx, hb, hml, hown, hts⟩ (c_X13_within l dC dI cy  x1 (0 : Int32) (10 : Int32) H.size v1 hv2) (va_cwS 3 hts gX13_isTenths_X13_within rfl rfl rfl (by decide +kernel) ⟨Nat.le_of_ble_eq_true rfl, Nat.le_of_ble_eq_true rfl⟩) cl_blind (cl_pre hK hP hD [] (by decide) rfl) hP hD hS hA [] rfl rfl hl.1 rfl (lv_room (Nat.le_of_ble_eq_true rfl)) dX13_isTenths_5 ⟨Nat.le_of_ble_eq_true rfl, Nat.le_of_ble_eq_true rfl⟩ ⟨rfl, rfl⟩ (fun _ => updR [] rfl) (fun r u H locs hw hP hD hS => ?_)
  have hw := hw.symm
  subst hw
  have hP : va_P (dC, dI) vwCl (w_X13_isTenths cy a0 gth gvm gtd gfl grd gnv gac grc gim) H := hP
  have hD : va_D A (w_X13_isTenths cy a0 gth gvm gtd gfl grd gnv gac grc gim) := hD
  refine lv_if_eq (tgt := 33) hx hb dX13_isTenths_8 (by decide) (fun c3 => ?_) (fun c3 => ?_)
  · rw [if_pos c3] at h
    exact c33 () gth H locs ls h hP hD hS (lv_sub hl [] rfl)
  · rw [if_neg c3] at h
    refine lv_iload_n hx hb dX13_isTenths_11 rfl (lv_at hl 2 rfl) ?_
    refine lv_iconst (v := (0 : Int32)) hx hb dX13_isTenths_12 (by decide) ?_
    refine lv_bipush (v := (10 : Int32)) hx hb dX13_isTenths_13 (by decide) ?_
    obtain ⟨v4, hv5, h⟩ := ok_bind h
    refine cl_si (w2 := fun (_ : Unit) => w_X13_isTenths cy a0 gth gvm gtd gfl grd gnv gac grc gim) (As := [.int x2, .int (0 : Int32), .int (10 : Int32)]) (rest := [.ref (a0 0)]) ⟨hx, hb, hml, hown, hts⟩ (c_X13_within l dC dI cy  x2 (0 : Int32) (10 : Int32) H.size v4 hv5) (va_cwS 3 hts gX13_isTenths_X13_within rfl rfl rfl (by decide +kernel) ⟨Nat.le_of_ble_eq_true rfl, Nat.le_of_ble_eq_true rfl⟩) cl_blind (cl_pre hK hP hD [] (by decide) rfl) hP hD hS hA [] rfl rfl hl.1 rfl (lv_room (Nat.le_of_ble_eq_true rfl)) dX13_isTenths_15 ⟨Nat.le_of_ble_eq_true rfl, Nat.le_of_ble_eq_true rfl⟩ ⟨rfl, rfl⟩ (fun _ => updR [] rfl) (fun r u H locs hw hP hD hS => ?_)
    have hw := hw.symm
    subst hw
    have hP : va_P (dC, dI) vwCl (w_X13_isTenths cy a0 gth gvm gtd gfl grd gnv gac grc gim) H := hP
    have hD : va_D A (w_X13_isTenths cy a0 gth gvm gtd gfl grd gnv gac grc gim) := hD
    refine lv_if_eq (tgt := 33) hx hb dX13_isTenths_18 (by decide) (fun c6 => ?_) (fun c6 => ?_)
    · rw [if_pos c6] at h
      exact c33 () gth H locs ls h hP hD hS (lv_sub hl [] rfl)
    · rw [if_neg c6] at h
      refine lv_iload_n hx hb dX13_isTenths_21 rfl (lv_at hl 1 rfl) ?_
      refine lv_iload_n hx hb dX13_isTenths_22 rfl (lv_at hl 2 rfl) ?_
      refine lv_iadd hx hb dX13_isTenths_23 ?_
      refine lv_bipush (v := (10 : Int32)) hx hb dX13_isTenths_24 (by decide) ?_
      refine lv_icmp_gt (tgt := 33) hx hb dX13_isTenths_26 (by decide) (fun c7 => ?_) (fun c7 => ?_)
      · rw [if_pos c7] at h
        exact c33 () gth H locs ls h hP hD hS (lv_sub hl [] rfl)
      · rw [if_neg c7] at h
        refine lv_iconst (v := (1 : Int32)) hx hb dX13_isTenths_29 (by decide) ?_
        refine lv_goto (tgt := 34) hx hb dX13_isTenths_30 (by decide) ?_
        exact c34 () gth (1 : Int32) H locs ls h hP hD hS (lv_sub hl [] rfl)

abbrev w_X13_mean (cy : Nat → ClassId) (a0 : Nat → Nat) (gth : Int32) (gvm : Int32 × Int32 × Int32 × (Nat → Int32) × (Nat → Int32) × (Nat → Int32) × (Nat → Int32) × (Nat → Int32) × (Nat → Int32) × (Nat → Int32) × (Nat → Int32) × (Nat → Int32)) (gtd : Int32) (gfl : Int32 × Int32) (grd : Int32 × Int32 × Int32 × Int32 × Int32 × Int32 × Int64 × (Nat → Int32)) (gnv : Int32 × Int32 × Int32 × Int32 × Int32 × (Nat → Int32) × (Nat → Int32) × (Nat → Int32) × (Nat → Int32) × (Nat → Int32) × (Nat → Int32)) (gac : Int32 × (Nat → Int32) × (Nat → Int32)) (grc : Int32 × (Nat → Int32)) (god : (Nat → Int64) × (Nat → Int64)) (gim : Int32 × Int32 × Int32 × (Nat → Int32) × (Nat → Int32) × (Nat → Int32) × (Nat → Int32) × (Nat → Int32) × (Nat → Int32) × (Nat → Int32) × (Nat → Int32) × (Nat → Int32)) : va_W := [(a0 0, .inr (11, [.int (gth), .int (gvm.1), .int (gvm.2.1), .int (gvm.2.2.1), .ref (a0 1), .ref (a0 2), .ref (a0 3), .ref (a0 4), .ref (a0 5), .ref (a0 6), .ref (a0 7), .ref (a0 8), .ref (a0 9), .ref (a0 10), .int (gtd), .int (gfl.1), .int (gfl.2), .ref (a0 11), .int (grd.1), .int (grd.2.1), .int (grd.2.2.1), .int (grd.2.2.2.1), .int (grd.2.2.2.2.1), .int (grd.2.2.2.2.2.1), .long (grd.2.2.2.2.2.2.1), .ref (a0 12), .int (gnv.1), .int (gnv.2.1), .int (gnv.2.2.1), .int (gnv.2.2.2.1), .int (gnv.2.2.2.2.1), .ref (a0 13), .ref (a0 14), .ref (a0 15), .ref (a0 16), .ref (a0 17), .ref (a0 18), .int (gac.1), .ref (a0 19), .ref (a0 20), .ref (a0 21), .ref (a0 22), .ref (a0 23), .ref (a0 24), .ref (a0 25), .ref (a0 26), .ref (a0 27), .int (grc.1), .ref (a0 28), .ref (a0 29), .ref (a0 30), .ref (a0 31), .int (gim.1), .int (gim.2.1), .int (gim.2.2.1), .ref (a0 32), .ref (a0 33), .ref (a0 34), .ref (a0 35), .ref (a0 36), .ref (a0 37), .ref (a0 38), .ref (a0 39), .ref (a0 40)])), (a0 1, .inl (cy 1, 5, .inl (gvm.2.2.2.1))), (a0 2, .inl (cy 1, 5, .inl (gvm.2.2.2.2.1))), (a0 3, .inl (cy 1, 5, .inl (gvm.2.2.2.2.2.1))), (a0 4, .inl (cy 1, 25, .inl (gvm.2.2.2.2.2.2.1))), (a0 5, .inl (cy 1, 10, .inl (gvm.2.2.2.2.2.2.2.1))), (a0 6, .inl (cy 1, 10, .inl (gvm.2.2.2.2.2.2.2.2.1))), (a0 7, .inl (cy 1, 10, .inl (gvm.2.2.2.2.2.2.2.2.2.1))), (a0 8, .inl (cy 1, 10, .inl (gvm.2.2.2.2.2.2.2.2.2.2.1))), (a0 9, .inl (cy 1, 50, .inl (gvm.2.2.2.2.2.2.2.2.2.2.2))), (a0 29, .inl (cy 2, 62, .inr (.inl (god.1)))), (a0 30, .inl (cy 2, 62, .inr (.inl (god.2))))]
abbrev rm_X13_mean : Room := { frames := 2, cells := 0, slots := 0, locals := 56 }
set_option maxHeartbeats 1000000 in
set_option maxRecDepth 100000 in
theorem c_X13_mean (l : Launch) (dC : Nat → ClassId) (dI : Nat → Nat → Nat) (cy : Nat → ClassId) (a0 : Nat → Nat) (gth : Int32) (gvm : Int32 × Int32 × Int32 × (Nat → Int32) × (Nat → Int32) × (Nat → Int32) × (Nat → Int32) × (Nat → Int32) × (Nat → Int32) × (Nat → Int32) × (Nat → Int32) × (Nat → Int32)) (gtd : Int32) (gfl : Int32 × Int32) (grd : Int32 × Int32 × Int32 × Int32 × Int32 × Int32 × Int64 × (Nat → Int32)) (gnv : Int32 × Int32 × Int32 × Int32 × Int32 × (Nat → Int32) × (Nat → Int32) × (Nat → Int32) × (Nat → Int32) × (Nat → Int32) × (Nat → Int32)) (gac : Int32 × (Nat → Int32) × (Nat → Int32)) (grc : Int32 × (Nat → Int32)) (god : (Nat → Int64) × (Nat → Int64)) (gim : Int32 × Int32 × Int32 × (Nat → Int32) × (Nat → Int32) × (Nat → Int32) × (Nat → Int32) × (Nat → Int32) × (Nat → Int32) × (Nat → Int32) × (Nat → Int32) × (Nat → Int32)) (x1 : Int32) (x2 : Int32) (x3 : Int32) (x4 : Int32) (sz : Nat) (R0 : Int32 × (Int32) × ((Nat → Int64) × (Nat → Int64))) (h : p_X13_mean gth gvm god x1 x2 x3 x4 = some R0) : Met l yX13_mean wsX13_mean rm_X13_mean (va_Pc [.ref (a0 0), .int x1, .int x2, .int x3, .int x4] (prC dC dI cy (w_X13_mean cy a0 gth gvm gtd gfl grd gnv gac grc god gim) sz)) (va_Qi (fun (r : Int32) (u : (Int32) × ((Nat → Int64) × (Nat → Int64))) => r = R0.1 ∧ u = R0.2) (fun (u : (Int32) × ((Nat → Int64) × (Nat → Int64))) t => poC dC dI cy (w_X13_mean cy a0 u.1 gvm gtd gfl grd gnv gac grc u.2 gim) t) (va_A (w_X13_mean cy a0 gth gvm gtd gfl grd gnv gac grc god gim) sz)) 0 0 (va_A (w_X13_mean cy a0 gth gvm gtd gfl grd gnv gac grc god gim) sz) := by
  refine Met.ofW (cc := cX13_mean) (maxL := 5) (ret := (some .int)) (by decide) rfl ?_
  intro p e s m aa below meth c s₁ B hml hv
  obtain ⟨haa, hsz, hP, hK, hD0⟩ := hv
  have hx := B.exec
  have hb := B.bytes
  have hr := B.returns
  have hts := atoms_spec (ws := wsX13_mean) B.pre
  have hown : s.vm.findClass RX13 = some m.cls := findClass_of_methodNamed B.named
  have hlocks := B.notSynchronized
  subst hsz
  have hD := hD0.self (sz := s.heap.size)
  obtain ⟨qq, hqq⟩ : ∃ qq, qq = (va_Qi (fun (r : Int32) (u : (Int32) × ((Nat → Int64) × (Nat → Int64))) => r = R0.1 ∧ u = R0.2) (fun (u : (Int32) × ((Nat → Int64) × (Nat → Int64))) t => poC dC dI cy (w_X13_mean cy a0 u.1 gvm gtd gfl grd gnv gac grc u.2 gim) t) (va_A (w_X13_mean cy a0 gth gvm gtd gfl grd gnv gac grc god gim) s.heap.size)) := ⟨_, rfl⟩
  rw [← hqq]
  generalize hAe : va_A (w_X13_mean cy a0 gth gvm gtd gfl grd gnv gac grc god gim) s.heap.size = A at hD hqq ⊢
  have hA : ∀ q : Nat, s.heap.size ≤ q → A q := fun q h => by rw [← hAe]; exact Or.inr h
  have hS : va_S A s.heap s.heap [] := va_S.rf
  have hl := lv_entry ([.ref (a0 0), .int x1, .int x2, .int x3, .int x4]) (n := 5) (Nat.le_of_ble_eq_true rfl)
  have hE : entryFrame m aa 5 = F0 m 0 ((lg_sl ([.ref (a0 0), .int x1, .int x2, .int x3, .int x4]) ++ List.replicate (5 - (lg_sl ([.ref (a0 0), .int x1, .int x2, .int x3, .int x4])).length) Slot.unset).toArray) [] := by rw [haa]; exact lg_entry_eq m _ 5
  refine W.eq hE ?_
  generalize (lg_sl ([.ref (a0 0), .int x1, .int x2, .int x3, .int x4]) ++ List.replicate (5 - (lg_sl ([.ref (a0 0), .int x1, .int x2, .int x3, .int x4])).length) Slot.unset).toArray = ls at hl ⊢
  have hl : lv_has ls 5 [(0, .ref (a0 0)), (1, .int x1), (2, .int x2), (3, .int x3), (4, .int x4)] := hl
  change W p l e rm_X13_mean s m aa below meth c s.heap [] 0 0 (MQ below qq aa s 0 0 A) (F0 m 0 ls [])
  have hS0 := hS
  have lk0 := hts (.fieldLink RX13 135 "GoatDoorsModel" "thrown" "I") (by decide +kernel)
  have in_X13 : ∀ w ∈ wsX130, w ∈ wsX13_mean := by decide +kernel
  obtain ⟨H, hH⟩ : ∃ H : Heap, H = s.heap := ⟨_, rfl⟩
  obtain ⟨locs, hlocs⟩ : ∃ locs : List Loc, locs = [] := ⟨_, rfl⟩
  have hS : va_S A s.heap H locs := by rw [hH, hlocs]; exact hS
  rw [← hH] at hP
  suffices hg : W p l e rm_X13_mean s m aa below meth c H locs 0 0 (MQ below qq aa s 0 0 A) (F0 m 0 ls []) by subst hH; subst hlocs; exact hg
  unfold p_X13_mean at h
  refine lv_aload_n hx hb dX13_mean_0 rfl (lv_at hl 0 rfl) ?_
  refine lv_iconst (v := (0 : Int32)) hx hb dX13_mean_1 (by decide) ?_
  refine va_put (D := (dC, dI)) (ci := 11) (v := .int (0 : Int32)) (ty := .int) (C := RX13) (T := TX13) (N := 64) hx hb hts in_X13 tyX13 tyX13_ok nmX13 hown hK hP hD hS 0 rfl rfl 0 (by decide) lk0 (fun _ h9 => h9) rfl (by decide +kernel) rfl rfl (Nat.le_of_ble_eq_true rfl) dX13_mean_2 (fun H locs hP hD hS => ?_)
  have hP : va_P (dC, dI) vwCl (w_X13_mean cy a0 ((0 : Int32)) gvm gtd gfl grd gnv gac grc god gim) H := hP
  have hD : va_D A (w_X13_mean cy a0 ((0 : Int32)) gvm gtd gfl grd gnv gac grc god gim) := hD
  refine lv_aload_n hx hb dX13_mean_5 rfl (lv_at hl 0 rfl) ?_
  refine lv_iload_n hx hb dX13_mean_6 rfl (lv_at hl 1 rfl) ?_
  obtain ⟨v1, hv2, h⟩ := ok_bind h
  refine cl_vi (w2 := fun (u : (Int32)) => w_X13_mean cy a0 u gvm gtd gfl grd gnv gac grc god gim) (As := [.int x1]) (rest := []) ⟨hx, hb, hml, hown, hts⟩ (c_X13_isDoor l dC dI cy a0 (0 : Int32) gvm gtd gfl grd gnv gac grc gim x1 H.size v1 hv2) (cwV 1 hts gX13_mean_X13_isDoor rfl rfl rfl (by decide +kernel) ⟨Nat.le_of_ble_eq_true rfl, Nat.le_of_ble_eq_true rfl⟩) (va_recv hK hP (ci := 11) (q0 := 0) rfl rfl) cl_blind (cl_pre hK hP hD [0, 1, 2, 3, 4, 5, 6, 7, 8, 9] (by decide) rfl) hP hD hS hA [0, 1, 2, 3, 4, 5, 6, 7, 8, 9] rfl rfl hl.1 rfl (lv_room (Nat.le_of_ble_eq_true rfl)) dX13_mean_7 ⟨Nat.le_of_ble_eq_true rfl, Nat.le_of_ble_eq_true rfl⟩ ⟨rfl, rfl⟩ (fun _ => updM [0, 1, 2, 3, 4, 5, 6, 7, 8, 9] [10, 11] [(a0 29, .inl (cy 2, 62, .inr (.inl (god.1)))), (a0 30, .inl (cy 2, 62, .inr (.inl (god.2))))] 12 rfl rfl rfl rfl rfl (by decide +kernel) (by decide +kernel) rfl) (fun r u H locs hw hP hD hS => ?_)
  obtain ⟨rfl, rfl⟩ := hw
  have hP : va_P (dC, dI) vwCl (w_X13_mean cy a0 v1.2 gvm gtd gfl grd gnv gac grc god gim) H := hP
  have hD : va_D A (w_X13_mean cy a0 v1.2 gvm gtd gfl grd gnv gac grc god gim) := hD
  refine lv_if_eq (tgt := 38) hx hb dX13_mean_10 (by decide) (fun c3 => ?_) (fun c3 => ?_)
  · rw [if_pos c3] at h
    refine lv_iconst (v := (0 : Int32)) hx hb dX13_mean_38 (by decide) ?_
    exact W.iret (v := (0 : Int32)) hx hb hr (fun t ht hW => by rw [hqq]; have hh := Option.some.inj h; exact ⟨⟨(0 : Int32), ((v1.2, god)), rfl, ⟨fst_of hh, snd_of hh⟩, by rw [ht]; exact hP, va_K.moved hW.alike hK⟩, hS.F ht⟩) hS.2.2 dX13_mean_39
  · rw [if_neg c3] at h
    refine lv_aload_n hx hb dX13_mean_13 rfl (lv_at hl 0 rfl) ?_
    refine lv_iload_n hx hb dX13_mean_14 rfl (lv_at hl 2 rfl) ?_
    refine lv_iconst (v := (0 : Int32)) hx hb dX13_mean_15 (by decide) ?_
    refine lv_bipush (v := (8 : Int32)) hx hb dX13_mean_16 (by decide) ?_
    obtain ⟨v4, hv5, h⟩ := ok_bind h
    refine cl_si (w2 := fun (_ : Unit) => w_X13_mean cy a0 v1.2 gvm gtd gfl grd gnv gac grc god gim) (As := [.int x2, .int (0 : Int32), .int (8 : Int32)]) (rest := [.ref (a0 0)]) ⟨hx, hb, hml, hown, hts⟩ (c_X13_within l dC dI cy  x2 (0 : Int32) (8 : Int32) H.size v4 hv5) (va_cwS 3 hts gX13_mean_X13_within rfl rfl rfl (by decide +kernel) ⟨Nat.le_of_ble_eq_true rfl, Nat.le_of_ble_eq_true rfl⟩) cl_blind (cl_pre hK hP hD [] (by decide) rfl) hP hD hS hA [] rfl rfl hl.1 rfl (lv_room (Nat.le_of_ble_eq_true rfl)) dX13_mean_18 ⟨Nat.le_of_ble_eq_true rfl, Nat.le_of_ble_eq_true rfl⟩ ⟨rfl, rfl⟩ (fun _ => updR [] rfl) (fun r u H locs hw hP hD hS => ?_)
    have hw := hw.symm
    subst hw
    have hP : va_P (dC, dI) vwCl (w_X13_mean cy a0 v1.2 gvm gtd gfl grd gnv gac grc god gim) H := hP
    have hD : va_D A (w_X13_mean cy a0 v1.2 gvm gtd gfl grd gnv gac grc god gim) := hD
    refine lv_iconst (v := (2 : Int32)) hx hb dX13_mean_21 (by decide) ?_
    obtain ⟨v6, hv7, h⟩ := ok_bind h
    refine cl_vi (w2 := fun (u : (Int32)) => w_X13_mean cy a0 u gvm gtd gfl grd gnv gac grc god gim) (As := [.int v4, .int (2 : Int32)]) (rest := []) ⟨hx, hb, hml, hown, hts⟩ (c_X13_right l dC dI cy a0 v1.2 gvm gtd gfl grd gnv gac grc gim v4 (2 : Int32) H.size v6 hv7) (cwV 2 hts gX13_mean_X13_right rfl rfl rfl (by decide +kernel) ⟨Nat.le_of_ble_eq_true rfl, Nat.le_of_ble_eq_true rfl⟩) (va_recv hK hP (ci := 11) (q0 := 0) rfl rfl) cl_blind (cl_pre hK hP hD [0] (by decide) rfl) hP hD hS hA [0] rfl rfl hl.1 rfl (lv_room (Nat.le_of_ble_eq_true rfl)) dX13_mean_22 ⟨Nat.le_of_ble_eq_true rfl, Nat.le_of_ble_eq_true rfl⟩ ⟨rfl, rfl⟩ (fun _ => updM [0] [1, 2, 3, 4, 5, 6, 7, 8, 9, 10, 11] [(a0 1, .inl (cy 1, 5, .inl (gvm.2.2.2.1))), (a0 2, .inl (cy 1, 5, .inl (gvm.2.2.2.2.1))), (a0 3, .inl (cy 1, 5, .inl (gvm.2.2.2.2.2.1))), (a0 4, .inl (cy 1, 25, .inl (gvm.2.2.2.2.2.2.1))), (a0 5, .inl (cy 1, 10, .inl (gvm.2.2.2.2.2.2.2.1))), (a0 6, .inl (cy 1, 10, .inl (gvm.2.2.2.2.2.2.2.2.1))), (a0 7, .inl (cy 1, 10, .inl (gvm.2.2.2.2.2.2.2.2.2.1))), (a0 8, .inl (cy 1, 10, .inl (gvm.2.2.2.2.2.2.2.2.2.2.1))), (a0 9, .inl (cy 1, 50, .inl (gvm.2.2.2.2.2.2.2.2.2.2.2))), (a0 29, .inl (cy 2, 62, .inr (.inl (god.1)))), (a0 30, .inl (cy 2, 62, .inr (.inl (god.2))))] 12 rfl rfl rfl rfl rfl (by decide +kernel) (by decide +kernel) rfl) (fun r u H locs hw hP hD hS => ?_)
    obtain ⟨rfl, rfl⟩ := hw
    have hP : va_P (dC, dI) vwCl (w_X13_mean cy a0 v6.2 gvm gtd gfl grd gnv gac grc god gim) H := hP
    have hD : va_D A (w_X13_mean cy a0 v6.2 gvm gtd gfl grd gnv gac grc god gim) := hD
    refine lv_if_eq (tgt := 38) hx hb dX13_mean_25 (by decide) (fun c8 => ?_) (fun c8 => ?_)
    · rw [if_pos c8] at h
      refine lv_iconst (v := (0 : Int32)) hx hb dX13_mean_38 (by decide) ?_
      exact W.iret (v := (0 : Int32)) hx hb hr (fun t ht hW => by rw [hqq]; have hh := Option.some.inj h; exact ⟨⟨(0 : Int32), ((v6.2, god)), rfl, ⟨fst_of hh, snd_of hh⟩, by rw [ht]; exact hP, va_K.moved hW.alike hK⟩, hS.F ht⟩) hS.2.2 dX13_mean_39
    · rw [if_neg c8] at h
      refine lv_aload_n hx hb dX13_mean_28 rfl (lv_at hl 0 rfl) ?_
      refine lv_iload_n hx hb dX13_mean_29 rfl (lv_at hl 3 rfl) ?_
      refine lv_iload hx hb dX13_mean_30 (lv_at hl 4 rfl) ?_
      obtain ⟨v9, hv10, h⟩ := ok_bind h
      refine cl_vi (w2 := fun (u : (Int32)) => w_X13_mean cy a0 u gvm gtd gfl grd gnv gac grc god gim) (As := [.int x3, .int x4]) (rest := []) ⟨hx, hb, hml, hown, hts⟩ (c_X13_isTenths l dC dI cy a0 v6.2 gvm gtd gfl grd gnv gac grc gim x3 x4 H.size v9 hv10) (cwV 2 hts gX13_mean_X13_isTenths rfl rfl rfl (by decide +kernel) ⟨Nat.le_of_ble_eq_true rfl, Nat.le_of_ble_eq_true rfl⟩) (va_recv hK hP (ci := 11) (q0 := 0) rfl rfl) cl_blind (cl_pre hK hP hD [0] (by decide) rfl) hP hD hS hA [0] rfl rfl hl.1 rfl (lv_room (Nat.le_of_ble_eq_true rfl)) dX13_mean_32 ⟨Nat.le_of_ble_eq_true rfl, Nat.le_of_ble_eq_true rfl⟩ ⟨rfl, rfl⟩ (fun _ => updM [0] [1, 2, 3, 4, 5, 6, 7, 8, 9, 10, 11] [(a0 1, .inl (cy 1, 5, .inl (gvm.2.2.2.1))), (a0 2, .inl (cy 1, 5, .inl (gvm.2.2.2.2.1))), (a0 3, .inl (cy 1, 5, .inl (gvm.2.2.2.2.2.1))), (a0 4, .inl (cy 1, 25, .inl (gvm.2.2.2.2.2.2.1))), (a0 5, .inl (cy 1, 10, .inl (gvm.2.2.2.2.2.2.2.1))), (a0 6, .inl (cy 1, 10, .inl (gvm.2.2.2.2.2.2.2.2.1))), (a0 7, .inl (cy 1, 10, .inl (gvm.2.2.2.2.2.2.2.2.2.1))), (a0 8, .inl (cy 1, 10, .inl (gvm.2.2.2.2.2.2.2.2.2.2.1))), (a0 9, .inl (cy 1, 50, .inl (gvm.2.2.2.2.2.2.2.2.2.2.2))), (a0 29, .inl (cy 2, 62, .inr (.inl (god.1)))), (a0 30, .inl (cy 2, 62, .inr (.inl (god.2))))] 12 rfl rfl rfl rfl rfl (by decide +kernel) (by decide +kernel) rfl) (fun r u H locs hw hP hD hS => ?_)
      obtain ⟨rfl, rfl⟩ := hw
      have hP : va_P (dC, dI) vwCl (w_X13_mean cy a0 v9.2 gvm gtd gfl grd gnv gac grc god gim) H := hP
      have hD : va_D A (w_X13_mean cy a0 v9.2 gvm gtd gfl grd gnv gac grc god gim) := hD
      refine lv_if_ne (tgt := 40) hx hb dX13_mean_35 (by decide) (fun c11 => ?_) (fun c11 => ?_)
      · rw [if_neg c11] at h
        refine lv_aload_n hx hb dX13_mean_40 rfl (lv_at hl 0 rfl) ?_
        refine lv_iload_n hx hb dX13_mean_41 rfl (lv_at hl 1 rfl) ?_
        refine lv_iload_n hx hb dX13_mean_42 rfl (lv_at hl 2 rfl) ?_
        refine lv_iload_n hx hb dX13_mean_43 rfl (lv_at hl 3 rfl) ?_
        refine lv_iload hx hb dX13_mean_44 (lv_at hl 4 rfl) ?_
        obtain ⟨v12, hv13, h⟩ := ok_bind h
        refine cl_vi (w2 := fun (u : ((Nat → Int64) × (Nat → Int64))) => w_X13_mean cy a0 v9.2 gvm gtd gfl grd gnv gac grc u gim) (As := [.int x1, .int x2, .int x3, .int x4]) (rest := []) ⟨hx, hb, hml, hown, hts⟩ (c_X13_meanOf l dC dI cy a0 v9.2 gvm gtd gfl grd gnv gac grc god gim x1 x2 x3 x4 H.size v12 hv13) (cwV 4 hts gX13_mean_X13_meanOf rfl rfl rfl (by decide +kernel) ⟨Nat.le_of_ble_eq_true rfl, Nat.le_of_ble_eq_true rfl⟩) (va_recv hK hP (ci := 11) (q0 := 0) rfl rfl) cl_blind (cl_pre hK hP hD [0, 1, 2, 3, 4, 5, 6, 7, 8, 9, 10, 11] (by decide) rfl) hP hD hS hA [0, 1, 2, 3, 4, 5, 6, 7, 8, 9, 10, 11] rfl rfl hl.1 rfl (lv_room (Nat.le_of_ble_eq_true rfl)) dX13_mean_46 ⟨Nat.le_of_ble_eq_true rfl, Nat.le_of_ble_eq_true rfl⟩ ⟨rfl, rfl⟩ (fun _ => updM [0, 1, 2, 3, 4, 5, 6, 7, 8, 9, 10, 11] [] [] 12 rfl rfl rfl rfl rfl (by decide +kernel) (by decide +kernel) rfl) (fun r u H locs hw hP hD hS => ?_)
        obtain ⟨rfl, rfl⟩ := hw
        have hP : va_P (dC, dI) vwCl (w_X13_mean cy a0 v9.2 gvm gtd gfl grd gnv gac grc v12.2 gim) H := hP
        have hD : va_D A (w_X13_mean cy a0 v9.2 gvm gtd gfl grd gnv gac grc v12.2 gim) := hD
        exact W.iret (v := v12.1) hx hb hr (fun t ht hW => by rw [hqq]; have hh := Option.some.inj h; exact ⟨⟨v12.1, ((v9.2, v12.2)), rfl, ⟨fst_of hh, snd_of hh⟩, by rw [ht]; exact hP, va_K.moved hW.alike hK⟩, hS.F ht⟩) hS.2.2 dX13_mean_49
      · rw [if_pos c11] at h
        refine lv_iconst (v := (0 : Int32)) hx hb dX13_mean_38 (by decide) ?_
        exact W.iret (v := (0 : Int32)) hx hb hr (fun t ht hW => by rw [hqq]; have hh := Option.some.inj h; exact ⟨⟨(0 : Int32), ((v9.2, god)), rfl, ⟨fst_of hh, snd_of hh⟩, by rw [ht]; exact hP, va_K.moved hW.alike hK⟩, hS.F ht⟩) hS.2.2 dX13_mean_39

abbrev w_X13_pay (cy : Nat → ClassId) (a0 : Nat → Nat) (gth : Int32) (gvm : Int32 × Int32 × Int32 × (Nat → Int32) × (Nat → Int32) × (Nat → Int32) × (Nat → Int32) × (Nat → Int32) × (Nat → Int32) × (Nat → Int32) × (Nat → Int32) × (Nat → Int32)) (gtd : Int32) (gfl : Int32 × Int32) (grd : Int32 × Int32 × Int32 × Int32 × Int32 × Int32 × Int64 × (Nat → Int32)) (gnv : Int32 × Int32 × Int32 × Int32 × Int32 × (Nat → Int32) × (Nat → Int32) × (Nat → Int32) × (Nat → Int32) × (Nat → Int32) × (Nat → Int32)) (gac : Int32 × (Nat → Int32) × (Nat → Int32)) (grc : Int32 × (Nat → Int32)) (god : (Nat → Int64) × (Nat → Int64)) (gim : Int32 × Int32 × Int32 × (Nat → Int32) × (Nat → Int32) × (Nat → Int32) × (Nat → Int32) × (Nat → Int32) × (Nat → Int32) × (Nat → Int32) × (Nat → Int32) × (Nat → Int32)) : va_W := [(a0 0, .inr (11, [.int (gth), .int (gvm.1), .int (gvm.2.1), .int (gvm.2.2.1), .ref (a0 1), .ref (a0 2), .ref (a0 3), .ref (a0 4), .ref (a0 5), .ref (a0 6), .ref (a0 7), .ref (a0 8), .ref (a0 9), .ref (a0 10), .int (gtd), .int (gfl.1), .int (gfl.2), .ref (a0 11), .int (grd.1), .int (grd.2.1), .int (grd.2.2.1), .int (grd.2.2.2.1), .int (grd.2.2.2.2.1), .int (grd.2.2.2.2.2.1), .long (grd.2.2.2.2.2.2.1), .ref (a0 12), .int (gnv.1), .int (gnv.2.1), .int (gnv.2.2.1), .int (gnv.2.2.2.1), .int (gnv.2.2.2.2.1), .ref (a0 13), .ref (a0 14), .ref (a0 15), .ref (a0 16), .ref (a0 17), .ref (a0 18), .int (gac.1), .ref (a0 19), .ref (a0 20), .ref (a0 21), .ref (a0 22), .ref (a0 23), .ref (a0 24), .ref (a0 25), .ref (a0 26), .ref (a0 27), .int (grc.1), .ref (a0 28), .ref (a0 29), .ref (a0 30), .ref (a0 31), .int (gim.1), .int (gim.2.1), .int (gim.2.2.1), .ref (a0 32), .ref (a0 33), .ref (a0 34), .ref (a0 35), .ref (a0 36), .ref (a0 37), .ref (a0 38), .ref (a0 39), .ref (a0 40)])), (a0 1, .inl (cy 1, 5, .inl (gvm.2.2.2.1))), (a0 2, .inl (cy 1, 5, .inl (gvm.2.2.2.2.1))), (a0 3, .inl (cy 1, 5, .inl (gvm.2.2.2.2.2.1))), (a0 4, .inl (cy 1, 25, .inl (gvm.2.2.2.2.2.2.1))), (a0 5, .inl (cy 1, 10, .inl (gvm.2.2.2.2.2.2.2.1))), (a0 6, .inl (cy 1, 10, .inl (gvm.2.2.2.2.2.2.2.2.1))), (a0 7, .inl (cy 1, 10, .inl (gvm.2.2.2.2.2.2.2.2.2.1))), (a0 8, .inl (cy 1, 10, .inl (gvm.2.2.2.2.2.2.2.2.2.2.1))), (a0 9, .inl (cy 1, 50, .inl (gvm.2.2.2.2.2.2.2.2.2.2.2))), (a0 29, .inl (cy 2, 62, .inr (.inl (god.1)))), (a0 30, .inl (cy 2, 62, .inr (.inl (god.2))))]
abbrev rm_X13_pay : Room := { frames := 2, cells := 0, slots := 0, locals := 56 }
set_option maxHeartbeats 1000000 in
set_option maxRecDepth 100000 in
theorem c_X13_pay (l : Launch) (dC : Nat → ClassId) (dI : Nat → Nat → Nat) (cy : Nat → ClassId) (a0 : Nat → Nat) (gth : Int32) (gvm : Int32 × Int32 × Int32 × (Nat → Int32) × (Nat → Int32) × (Nat → Int32) × (Nat → Int32) × (Nat → Int32) × (Nat → Int32) × (Nat → Int32) × (Nat → Int32) × (Nat → Int32)) (gtd : Int32) (gfl : Int32 × Int32) (grd : Int32 × Int32 × Int32 × Int32 × Int32 × Int32 × Int64 × (Nat → Int32)) (gnv : Int32 × Int32 × Int32 × Int32 × Int32 × (Nat → Int32) × (Nat → Int32) × (Nat → Int32) × (Nat → Int32) × (Nat → Int32) × (Nat → Int32)) (gac : Int32 × (Nat → Int32) × (Nat → Int32)) (grc : Int32 × (Nat → Int32)) (god : (Nat → Int64) × (Nat → Int64)) (gim : Int32 × Int32 × Int32 × (Nat → Int32) × (Nat → Int32) × (Nat → Int32) × (Nat → Int32) × (Nat → Int32) × (Nat → Int32) × (Nat → Int32) × (Nat → Int32) × (Nat → Int32)) (x1 : Int32) (x2 : Int32) (x3 : Int32) (sz : Nat) (R0 : Int32 × (Int32) × ((Nat → Int64) × (Nat → Int64))) (h : p_X13_pay gth gvm god x1 x2 x3 = some R0) : Met l yX13_pay wsX13_pay rm_X13_pay (va_Pc [.ref (a0 0), .int x1, .int x2, .int x3] (prC dC dI cy (w_X13_pay cy a0 gth gvm gtd gfl grd gnv gac grc god gim) sz)) (va_Qi (fun (r : Int32) (u : (Int32) × ((Nat → Int64) × (Nat → Int64))) => r = R0.1 ∧ u = R0.2) (fun (u : (Int32) × ((Nat → Int64) × (Nat → Int64))) t => poC dC dI cy (w_X13_pay cy a0 u.1 gvm gtd gfl grd gnv gac grc u.2 gim) t) (va_A (w_X13_pay cy a0 gth gvm gtd gfl grd gnv gac grc god gim) sz)) 0 0 (va_A (w_X13_pay cy a0 gth gvm gtd gfl grd gnv gac grc god gim) sz) := by
  refine Met.ofW (cc := cX13_pay) (maxL := 8) (ret := (some .int)) (by decide) rfl ?_
  intro p e s m aa below meth c s₁ B hml hv
  obtain ⟨haa, hsz, hP, hK, hD0⟩ := hv
  have hx := B.exec
  have hb := B.bytes
  have hr := B.returns
  have hts := atoms_spec (ws := wsX13_pay) B.pre
  have hown : s.vm.findClass RX13 = some m.cls := findClass_of_methodNamed B.named
  have hlocks := B.notSynchronized
  subst hsz
  have hD := hD0.self (sz := s.heap.size)
  obtain ⟨qq, hqq⟩ : ∃ qq, qq = (va_Qi (fun (r : Int32) (u : (Int32) × ((Nat → Int64) × (Nat → Int64))) => r = R0.1 ∧ u = R0.2) (fun (u : (Int32) × ((Nat → Int64) × (Nat → Int64))) t => poC dC dI cy (w_X13_pay cy a0 u.1 gvm gtd gfl grd gnv gac grc u.2 gim) t) (va_A (w_X13_pay cy a0 gth gvm gtd gfl grd gnv gac grc god gim) s.heap.size)) := ⟨_, rfl⟩
  rw [← hqq]
  generalize hAe : va_A (w_X13_pay cy a0 gth gvm gtd gfl grd gnv gac grc god gim) s.heap.size = A at hD hqq ⊢
  have hA : ∀ q : Nat, s.heap.size ≤ q → A q := fun q h => by rw [← hAe]; exact Or.inr h
  have hS : va_S A s.heap s.heap [] := va_S.rf
  have hl := lv_entry ([.ref (a0 0), .int x1, .int x2, .int x3]) (n := 8) (Nat.le_of_ble_eq_true rfl)
  have hE : entryFrame m aa 8 = F0 m 0 ((lg_sl ([.ref (a0 0), .int x1, .int x2, .int x3]) ++ List.replicate (8 - (lg_sl ([.ref (a0 0), .int x1, .int x2, .int x3])).length) Slot.unset).toArray) [] := by rw [haa]; exact lg_entry_eq m _ 8
  refine W.eq hE ?_
  generalize (lg_sl ([.ref (a0 0), .int x1, .int x2, .int x3]) ++ List.replicate (8 - (lg_sl ([.ref (a0 0), .int x1, .int x2, .int x3])).length) Slot.unset).toArray = ls at hl ⊢
  have hl : lv_has ls 8 [(0, .ref (a0 0)), (1, .int x1), (2, .int x2), (3, .int x3)] := hl
  change W p l e rm_X13_pay s m aa below meth c s.heap [] 0 0 (MQ below qq aa s 0 0 A) (F0 m 0 ls [])
  have hS0 := hS
  have lk0 := hts (.fieldLink RX13 135 "GoatDoorsModel" "thrown" "I") (by decide +kernel)
  have in_X13 : ∀ w ∈ wsX130, w ∈ wsX13_pay := by decide +kernel
  have c76 : ∀ (k40 : (Int32) → ((Nat → Int64) × (Nat → Int64)) → Int32 → Int32 → Int32 → Int32 → Int32 → Int32 → Option (Int32 × (Int32) × ((Nat → Int64) × (Nat → Int64)))) (hk40 : ∀ (gth : Int32) (god : (Nat → Int64) × (Nat → Int64)) (x1 : Int32) (x2 : Int32) (x3 : Int32) (x4 : Int32) (x5 : Int32) (x6 : Int32) (H : Heap) (locs : List Loc) (ls : Array Slot), k40 gth god x1 x2 x3 x4 x5 x6 = some R0 → va_P (dC, dI) vwCl (w_X13_pay cy a0 gth gvm gtd gfl grd gnv gac grc god gim) H → va_D A (w_X13_pay cy a0 gth gvm gtd gfl grd gnv gac grc god gim) → va_S A s.heap H locs → lv_has ls 8 [(0, .ref (a0 0)), (1, .int x1), (2, .int x2), (3, .int x3), (4, .int x4), (5, .int x5), (6, .int x6)] → W p l e rm_X13_pay s m aa below meth c H locs 0 0 (MQ below qq aa s 0 0 A) (F0 m 40 ls [])), ∀ (gth : Int32) (god : (Nat → Int64) × (Nat → Int64)) (x1 : Int32) (x2 : Int32) (x3 : Int32) (x4 : Int32) (x5 : Int32) (x6 : Int32) (H : Heap) (locs : List Loc) (ls : Array Slot), p_X13_pay_76 k40 gvm gth god x1 x2 x3 x4 x5 x6 = some R0 → va_P (dC, dI) vwCl (w_X13_pay cy a0 gth gvm gtd gfl grd gnv gac grc god gim) H → va_D A (w_X13_pay cy a0 gth gvm gtd gfl grd gnv gac grc god gim) → va_S A s.heap H locs → lv_has ls 8 [(0, .ref (a0 0)), (1, .int x1), (2, .int x2), (3, .int x3), (4, .int x4), (5, .int x5), (6, .int x6)] → W p l e rm_X13_pay s m aa below meth c H locs 0 0 (MQ below qq aa s 0 0 A) (F0 m 76 ls []) := by
    intro k40 hk40 gth god x1 x2 x3 x4 x5 x6 H locs ls h hP hD hS hl
    unfold p_X13_pay_76 at h
    refine lv_iinc (v := (x6 + (1 : Int32))) (lv' := [(6, .int (x6 + (1 : Int32))), (0, .ref (a0 0)), (1, .int x1), (2, .int x2), (3, .int x3), (4, .int x4), (5, .int x5)]) hx hb dX13_pay_76 hl (k := 6) rfl rfl (by decide) rfl (fun ls hl => ?_)
    refine lv_goto (tgt := 40) hx hb dX13_pay_79 (by decide) ?_
    exact hk40 gth god x1 x2 x3 x4 x5 (x6 + (1 : Int32)) H locs ls h hP hD hS (lv_sub hl [1, 2, 3, 4, 5, 6, 0] rfl)
  have c40 : ∀ (n : Nat), ∀ (gth : Int32) (god : (Nat → Int64) × (Nat → Int64)) (x1 : Int32) (x2 : Int32) (x3 : Int32) (x4 : Int32) (x5 : Int32) (x6 : Int32) (H : Heap) (locs : List Loc) (ls : Array Slot), p_X13_pay_40 gvm n gth god x1 x2 x3 x4 x5 x6 = some R0 → va_P (dC, dI) vwCl (w_X13_pay cy a0 gth gvm gtd gfl grd gnv gac grc god gim) H → va_D A (w_X13_pay cy a0 gth gvm gtd gfl grd gnv gac grc god gim) → va_S A s.heap H locs → lv_has ls 8 [(0, .ref (a0 0)), (1, .int x1), (2, .int x2), (3, .int x3), (4, .int x4), (5, .int x5), (6, .int x6)] → W p l e rm_X13_pay s m aa below meth c H locs 0 0 (MQ below qq aa s 0 0 A) (F0 m 40 ls []) := by
    intro  n
    induction n with
    | zero => intro gth god x1 x2 x3 x4 x5 x6 H locs ls h; exact no_some h
    | succ n ih =>
      intro gth god x1 x2 x3 x4 x5 x6 H locs ls h hP hD hS hl
      rw [p_X13_pay_40.eq_2] at h
      refine lv_iload hx hb dX13_pay_40 (lv_at hl 6 rfl) ?_
      refine lv_bipush (v := (8 : Int32)) hx hb dX13_pay_42 (by decide) ?_
      refine lv_icmp_gt (tgt := 82) hx hb dX13_pay_44 (by decide) (fun c1 => ?_) (fun c1 => ?_)
      · rw [if_pos c1] at h
        refine lv_iload hx hb dX13_pay_82 (lv_at hl 4 rfl) ?_
        exact W.iret (v := x4) hx hb hr (fun t ht hW => by rw [hqq]; have hh := Option.some.inj h; exact ⟨⟨x4, ((gth, god)), rfl, ⟨fst_of hh, snd_of hh⟩, by rw [ht]; exact hP, va_K.moved hW.alike hK⟩, hS.F ht⟩) hS.2.2 dX13_pay_84
      · rw [if_neg c1] at h
        refine lv_aload_n hx hb dX13_pay_47 rfl (lv_at hl 0 rfl) ?_
        refine lv_iload_n hx hb dX13_pay_48 rfl (lv_at hl 1 rfl) ?_
        refine lv_iload hx hb dX13_pay_49 (lv_at hl 6 rfl) ?_
        refine lv_iload_n hx hb dX13_pay_51 rfl (lv_at hl 2 rfl) ?_
        refine lv_iload_n hx hb dX13_pay_52 rfl (lv_at hl 3 rfl) ?_
        obtain ⟨v2, hv3, h⟩ := ok_bind h
        refine cl_vi (w2 := fun (u : ((Nat → Int64) × (Nat → Int64))) => w_X13_pay cy a0 gth gvm gtd gfl grd gnv gac grc u gim) (As := [.int x1, .int x6, .int x2, .int x3]) (rest := []) ⟨hx, hb, hml, hown, hts⟩ (c_X13_meanOf l dC dI cy a0 gth gvm gtd gfl grd gnv gac grc god gim x1 x6 x2 x3 H.size v2 hv3) (cwV 4 hts gX13_pay_X13_meanOf rfl rfl rfl (by decide +kernel) ⟨Nat.le_of_ble_eq_true rfl, Nat.le_of_ble_eq_true rfl⟩) (va_recv hK hP (ci := 11) (q0 := 0) rfl rfl) cl_blind (cl_pre hK hP hD [0, 1, 2, 3, 4, 5, 6, 7, 8, 9, 10, 11] (by decide) rfl) hP hD hS hA [0, 1, 2, 3, 4, 5, 6, 7, 8, 9, 10, 11] rfl rfl hl.1 rfl (lv_room (Nat.le_of_ble_eq_true rfl)) dX13_pay_53 ⟨Nat.le_of_ble_eq_true rfl, Nat.le_of_ble_eq_true rfl⟩ ⟨rfl, rfl⟩ (fun _ => updM [0, 1, 2, 3, 4, 5, 6, 7, 8, 9, 10, 11] [] [] 12 rfl rfl rfl rfl rfl (by decide +kernel) (by decide +kernel) rfl) (fun r u H locs hw hP hD hS => ?_)
        obtain ⟨rfl, rfl⟩ := hw
        have hP : va_P (dC, dI) vwCl (w_X13_pay cy a0 gth gvm gtd gfl grd gnv gac grc v2.2 gim) H := hP
        have hD : va_D A (w_X13_pay cy a0 gth gvm gtd gfl grd gnv gac grc v2.2 gim) := hD
        refine lv_istore (lv' := [(7, .int v2.1), (0, .ref (a0 0)), (1, .int x1), (2, .int x2), (3, .int x3), (4, .int x4), (5, .int x5), (6, .int x6)]) hx hb dX13_pay_56 hl (by decide) rfl (fun ls hl => ?_)
        refine lv_iload hx hb dX13_pay_58 (lv_at hl 0 rfl) ?_
        refine lv_iload hx hb dX13_pay_60 (lv_at hl 6 rfl) ?_
        refine lv_icmp_lt (tgt := 68) hx hb dX13_pay_62 (by decide) (fun c4 => ?_) (fun c4 => ?_)
        · rw [if_pos c4] at h
          refine lv_iload hx hb dX13_pay_68 (lv_at hl 7 rfl) ?_
          refine lv_istore (lv' := [(4, .int x6), (7, .int v2.1), (0, .ref (a0 0)), (1, .int x1), (2, .int x2), (3, .int x3), (5, .int x5), (6, .int x6)]) hx hb dX13_pay_70 hl (by decide) rfl (fun ls hl => ?_)
          refine lv_iload hx hb dX13_pay_72 (lv_at hl 1 rfl) ?_
          refine lv_istore (lv' := [(5, .int v2.1), (4, .int x6), (7, .int v2.1), (0, .ref (a0 0)), (1, .int x1), (2, .int x2), (3, .int x3), (6, .int x6)]) hx hb dX13_pay_74 hl (by decide) rfl (fun ls hl => ?_)
          exact c76 (p_X13_pay_40 gvm n) ih gth v2.2 x1 x2 x3 x6 v2.1 x6 H locs ls h hP hD hS (lv_sub hl [3, 4, 5, 6, 1, 0, 7] rfl)
        · rw [if_neg c4] at h
          refine lv_goto (tgt := 76) hx hb dX13_pay_65 (by decide) ?_
          exact c76 (p_X13_pay_40 gvm n) ih gth v2.2 x1 x2 x3 x4 x5 x6 H locs ls h hP hD hS (lv_sub hl [1, 2, 3, 4, 5, 6, 7] rfl)
  obtain ⟨H, hH⟩ : ∃ H : Heap, H = s.heap := ⟨_, rfl⟩
  obtain ⟨locs, hlocs⟩ : ∃ locs : List Loc, locs = [] := ⟨_, rfl⟩
  have hS : va_S A s.heap H locs := by rw [hH, hlocs]; exact hS
  rw [← hH] at hP
  suffices hg : W p l e rm_X13_pay s m aa below meth c H locs 0 0 (MQ below qq aa s 0 0 A) (F0 m 0 ls []) by subst hH; subst hlocs; exact hg
  unfold p_X13_pay at h
  refine lv_aload_n hx hb dX13_pay_0 rfl (lv_at hl 0 rfl) ?_
  refine lv_iconst (v := (0 : Int32)) hx hb dX13_pay_1 (by decide) ?_
  refine va_put (D := (dC, dI)) (ci := 11) (v := .int (0 : Int32)) (ty := .int) (C := RX13) (T := TX13) (N := 64) hx hb hts in_X13 tyX13 tyX13_ok nmX13 hown hK hP hD hS 0 rfl rfl 0 (by decide) lk0 (fun _ h9 => h9) rfl (by decide +kernel) rfl rfl (Nat.le_of_ble_eq_true rfl) dX13_pay_2 (fun H locs hP hD hS => ?_)
  have hP : va_P (dC, dI) vwCl (w_X13_pay cy a0 ((0 : Int32)) gvm gtd gfl grd gnv gac grc god gim) H := hP
  have hD : va_D A (w_X13_pay cy a0 ((0 : Int32)) gvm gtd gfl grd gnv gac grc god gim) := hD
  refine lv_aload_n hx hb dX13_pay_5 rfl (lv_at hl 0 rfl) ?_
  refine lv_iload_n hx hb dX13_pay_6 rfl (lv_at hl 1 rfl) ?_
  obtain ⟨v1, hv2, h⟩ := ok_bind h
  refine cl_vi (w2 := fun (u : (Int32)) => w_X13_pay cy a0 u gvm gtd gfl grd gnv gac grc god gim) (As := [.int x1]) (rest := []) ⟨hx, hb, hml, hown, hts⟩ (c_X13_isDoor l dC dI cy a0 (0 : Int32) gvm gtd gfl grd gnv gac grc gim x1 H.size v1 hv2) (cwV 1 hts gX13_pay_X13_isDoor rfl rfl rfl (by decide +kernel) ⟨Nat.le_of_ble_eq_true rfl, Nat.le_of_ble_eq_true rfl⟩) (va_recv hK hP (ci := 11) (q0 := 0) rfl rfl) cl_blind (cl_pre hK hP hD [0, 1, 2, 3, 4, 5, 6, 7, 8, 9] (by decide) rfl) hP hD hS hA [0, 1, 2, 3, 4, 5, 6, 7, 8, 9] rfl rfl hl.1 rfl (lv_room (Nat.le_of_ble_eq_true rfl)) dX13_pay_7 ⟨Nat.le_of_ble_eq_true rfl, Nat.le_of_ble_eq_true rfl⟩ ⟨rfl, rfl⟩ (fun _ => updM [0, 1, 2, 3, 4, 5, 6, 7, 8, 9] [10, 11] [(a0 29, .inl (cy 2, 62, .inr (.inl (god.1)))), (a0 30, .inl (cy 2, 62, .inr (.inl (god.2))))] 12 rfl rfl rfl rfl rfl (by decide +kernel) (by decide +kernel) rfl) (fun r u H locs hw hP hD hS => ?_)
  obtain ⟨rfl, rfl⟩ := hw
  have hP : va_P (dC, dI) vwCl (w_X13_pay cy a0 v1.2 gvm gtd gfl grd gnv gac grc god gim) H := hP
  have hD : va_D A (w_X13_pay cy a0 v1.2 gvm gtd gfl grd gnv gac grc god gim) := hD
  refine lv_if_eq (tgt := 22) hx hb dX13_pay_10 (by decide) (fun c3 => ?_) (fun c3 => ?_)
  · rw [if_pos c3] at h
    refine lv_iconst (v := (0 : Int32)) hx hb dX13_pay_22 (by decide) ?_
    exact W.iret (v := (0 : Int32)) hx hb hr (fun t ht hW => by rw [hqq]; have hh := Option.some.inj h; exact ⟨⟨(0 : Int32), ((v1.2, god)), rfl, ⟨fst_of hh, snd_of hh⟩, by rw [ht]; exact hP, va_K.moved hW.alike hK⟩, hS.F ht⟩) hS.2.2 dX13_pay_23
  · rw [if_neg c3] at h
    refine lv_aload_n hx hb dX13_pay_13 rfl (lv_at hl 0 rfl) ?_
    refine lv_iload_n hx hb dX13_pay_14 rfl (lv_at hl 2 rfl) ?_
    refine lv_iload_n hx hb dX13_pay_15 rfl (lv_at hl 3 rfl) ?_
    obtain ⟨v4, hv5, h⟩ := ok_bind h
    refine cl_vi (w2 := fun (u : (Int32)) => w_X13_pay cy a0 u gvm gtd gfl grd gnv gac grc god gim) (As := [.int x2, .int x3]) (rest := []) ⟨hx, hb, hml, hown, hts⟩ (c_X13_isTenths l dC dI cy a0 v1.2 gvm gtd gfl grd gnv gac grc gim x2 x3 H.size v4 hv5) (cwV 2 hts gX13_pay_X13_isTenths rfl rfl rfl (by decide +kernel) ⟨Nat.le_of_ble_eq_true rfl, Nat.le_of_ble_eq_true rfl⟩) (va_recv hK hP (ci := 11) (q0 := 0) rfl rfl) cl_blind (cl_pre hK hP hD [0] (by decide) rfl) hP hD hS hA [0] rfl rfl hl.1 rfl (lv_room (Nat.le_of_ble_eq_true rfl)) dX13_pay_16 ⟨Nat.le_of_ble_eq_true rfl, Nat.le_of_ble_eq_true rfl⟩ ⟨rfl, rfl⟩ (fun _ => updM [0] [1, 2, 3, 4, 5, 6, 7, 8, 9, 10, 11] [(a0 1, .inl (cy 1, 5, .inl (gvm.2.2.2.1))), (a0 2, .inl (cy 1, 5, .inl (gvm.2.2.2.2.1))), (a0 3, .inl (cy 1, 5, .inl (gvm.2.2.2.2.2.1))), (a0 4, .inl (cy 1, 25, .inl (gvm.2.2.2.2.2.2.1))), (a0 5, .inl (cy 1, 10, .inl (gvm.2.2.2.2.2.2.2.1))), (a0 6, .inl (cy 1, 10, .inl (gvm.2.2.2.2.2.2.2.2.1))), (a0 7, .inl (cy 1, 10, .inl (gvm.2.2.2.2.2.2.2.2.2.1))), (a0 8, .inl (cy 1, 10, .inl (gvm.2.2.2.2.2.2.2.2.2.2.1))), (a0 9, .inl (cy 1, 50, .inl (gvm.2.2.2.2.2.2.2.2.2.2.2))), (a0 29, .inl (cy 2, 62, .inr (.inl (god.1)))), (a0 30, .inl (cy 2, 62, .inr (.inl (god.2))))] 12 rfl rfl rfl rfl rfl (by decide +kernel) (by decide +kernel) rfl) (fun r u H locs hw hP hD hS => ?_)
    obtain ⟨rfl, rfl⟩ := hw
    have hP : va_P (dC, dI) vwCl (w_X13_pay cy a0 v4.2 gvm gtd gfl grd gnv gac grc god gim) H := hP
    have hD : va_D A (w_X13_pay cy a0 v4.2 gvm gtd gfl grd gnv gac grc god gim) := hD
    refine lv_if_ne (tgt := 24) hx hb dX13_pay_19 (by decide) (fun c6 => ?_) (fun c6 => ?_)
    · rw [if_neg c6] at h
      refine lv_iconst (v := (0 : Int32)) hx hb dX13_pay_24 (by decide) ?_
      refine lv_istore (lv' := [(4, .int (0 : Int32)), (0, .ref (a0 0)), (1, .int x1), (2, .int x2), (3, .int x3)]) hx hb dX13_pay_25 hl (by decide) rfl (fun ls hl => ?_)
      refine lv_aload_n hx hb dX13_pay_27 rfl (lv_at hl 1 rfl) ?_
      refine lv_iload_n hx hb dX13_pay_28 rfl (lv_at hl 2 rfl) ?_
      refine lv_iconst (v := (0 : Int32)) hx hb dX13_pay_29 (by decide) ?_
      refine lv_iload_n hx hb dX13_pay_30 rfl (lv_at hl 3 rfl) ?_
      refine lv_iload_n hx hb dX13_pay_31 rfl (lv_at hl 4 rfl) ?_
      obtain ⟨v7, hv8, h⟩ := ok_bind h
      refine cl_vi (w2 := fun (u : ((Nat → Int64) × (Nat → Int64))) => w_X13_pay cy a0 v4.2 gvm gtd gfl grd gnv gac grc u gim) (As := [.int x1, .int (0 : Int32), .int x2, .int x3]) (rest := []) ⟨hx, hb, hml, hown, hts⟩ (c_X13_meanOf l dC dI cy a0 v4.2 gvm gtd gfl grd gnv gac grc god gim x1 (0 : Int32) x2 x3 H.size v7 hv8) (cwV 4 hts gX13_pay_X13_meanOf rfl rfl rfl (by decide +kernel) ⟨Nat.le_of_ble_eq_true rfl, Nat.le_of_ble_eq_true rfl⟩) (va_recv hK hP (ci := 11) (q0 := 0) rfl rfl) cl_blind (cl_pre hK hP hD [0, 1, 2, 3, 4, 5, 6, 7, 8, 9, 10, 11] (by decide) rfl) hP hD hS hA [0, 1, 2, 3, 4, 5, 6, 7, 8, 9, 10, 11] rfl rfl hl.1 rfl (lv_room (Nat.le_of_ble_eq_true rfl)) dX13_pay_32 ⟨Nat.le_of_ble_eq_true rfl, Nat.le_of_ble_eq_true rfl⟩ ⟨rfl, rfl⟩ (fun _ => updM [0, 1, 2, 3, 4, 5, 6, 7, 8, 9, 10, 11] [] [] 12 rfl rfl rfl rfl rfl (by decide +kernel) (by decide +kernel) rfl) (fun r u H locs hw hP hD hS => ?_)
      obtain ⟨rfl, rfl⟩ := hw
      have hP : va_P (dC, dI) vwCl (w_X13_pay cy a0 v4.2 gvm gtd gfl grd gnv gac grc v7.2 gim) H := hP
      have hD : va_D A (w_X13_pay cy a0 v4.2 gvm gtd gfl grd gnv gac grc v7.2 gim) := hD
      refine lv_istore (lv' := [(5, .int v7.1), (4, .int (0 : Int32)), (0, .ref (a0 0)), (1, .int x1), (2, .int x2), (3, .int x3)]) hx hb dX13_pay_35 hl (by decide) rfl (fun ls hl => ?_)
      refine lv_iconst (v := (1 : Int32)) hx hb dX13_pay_37 (by decide) ?_
      refine lv_istore (lv' := [(6, .int (1 : Int32)), (5, .int v7.1), (4, .int (0 : Int32)), (0, .ref (a0 0)), (1, .int x1), (2, .int x2), (3, .int x3)]) hx hb dX13_pay_38 hl (by decide) rfl (fun ls hl => ?_)
      exact c40 fu v4.2 v7.2 x1 x2 x3 (0 : Int32) v7.1 (1 : Int32) H locs ls h hP hD hS (lv_sub hl [3, 4, 5, 6, 2, 1, 0] rfl)
    · rw [if_pos c6] at h
      refine lv_iconst (v := (0 : Int32)) hx hb dX13_pay_22 (by decide) ?_
      exact W.iret (v := (0 : Int32)) hx hb hr (fun t ht hW => by rw [hqq]; have hh := Option.some.inj h; exact ⟨⟨(0 : Int32), ((v4.2, god)), rfl, ⟨fst_of hh, snd_of hh⟩, by rw [ht]; exact hP, va_K.moved hW.alike hK⟩, hS.F ht⟩) hS.2.2 dX13_pay_23

abbrev w_X13_off (cy : Nat → ClassId)   : va_W := []
abbrev rm_X13_off : Room := { frames := 0, cells := 0, slots := 0, locals := 0 }
set_option maxHeartbeats 1000000 in
set_option maxRecDepth 100000 in
theorem c_X13_off (l : Launch) (dC : Nat → ClassId) (dI : Nat → Nat → Nat) (cy : Nat → ClassId)   (x0 : Int32) (x1 : Int32) (sz : Nat) (R0 : Int32) (h : p_X13_off x0 x1 = some R0) : Met l yX13_off wsX13_off rm_X13_off (va_Pc [.int x0, .int x1] (prC dC dI cy (w_X13_off cy  ) sz)) (va_Qi (fun (r : Int32) (_ : Unit) => r = R0) (fun (_ : Unit) t => poC dC dI cy (w_X13_off cy  ) t) (va_A (w_X13_off cy  ) sz)) 0 0 (va_A (w_X13_off cy  ) sz) := by
  refine Met.ofW (cc := cX13_off) (maxL := 2) (ret := (some .int)) (by decide) rfl ?_
  intro p e s m aa below meth c s₁ B hml hv
  obtain ⟨haa, hsz, hP, hK, hD0⟩ := hv
  have hx := B.exec
  have hb := B.bytes
  have hr := B.returns
  have hts := atoms_spec (ws := wsX13_off) B.pre
  have hown : s.vm.findClass RX13 = some m.cls := findClass_of_methodNamed B.named
  have hlocks := B.notSynchronized
  subst hsz
  have hD := hD0.self (sz := s.heap.size)
  obtain ⟨qq, hqq⟩ : ∃ qq, qq = (va_Qi (fun (r : Int32) (_ : Unit) => r = R0) (fun (_ : Unit) t => poC dC dI cy (w_X13_off cy  ) t) (va_A (w_X13_off cy  ) s.heap.size)) := ⟨_, rfl⟩
  rw [← hqq]
  generalize hAe : va_A (w_X13_off cy  ) s.heap.size = A at hD hqq ⊢
  have hA : ∀ q : Nat, s.heap.size ≤ q → A q := fun q h => by rw [← hAe]; exact Or.inr h
  have hS : va_S A s.heap s.heap [] := va_S.rf
  have hl := lv_entry ([.int x0, .int x1]) (n := 2) (Nat.le_of_ble_eq_true rfl)
  have hE : entryFrame m aa 2 = F0 m 0 ((lg_sl ([.int x0, .int x1]) ++ List.replicate (2 - (lg_sl ([.int x0, .int x1])).length) Slot.unset).toArray) [] := by rw [haa]; exact lg_entry_eq m _ 2
  refine W.eq hE ?_
  generalize (lg_sl ([.int x0, .int x1]) ++ List.replicate (2 - (lg_sl ([.int x0, .int x1])).length) Slot.unset).toArray = ls at hl ⊢
  have hl : lv_has ls 2 [(0, .int x0), (1, .int x1)] := hl
  change W p l e rm_X13_off s m aa below meth c s.heap [] 0 0 (MQ below qq aa s 0 0 A) (F0 m 0 ls [])
  have hS0 := hS
  obtain ⟨H, hH⟩ : ∃ H : Heap, H = s.heap := ⟨_, rfl⟩
  obtain ⟨locs, hlocs⟩ : ∃ locs : List Loc, locs = [] := ⟨_, rfl⟩
  have hS : va_S A s.heap H locs := by rw [hH, hlocs]; exact hS
  rw [← hH] at hP
  suffices hg : W p l e rm_X13_off s m aa below meth c H locs 0 0 (MQ below qq aa s 0 0 A) (F0 m 0 ls []) by subst hH; subst hlocs; exact hg
  unfold p_X13_off at h
  refine lv_iload_n hx hb dX13_off_0 rfl (lv_at hl 0 rfl) ?_
  refine lv_iload_n hx hb dX13_off_1 rfl (lv_at hl 1 rfl) ?_
  refine lv_icmp_ge (tgt := 11) hx hb dX13_off_2 (by decide) (fun c1 => ?_) (fun c1 => ?_)
  · rw [if_pos c1] at h
    refine lv_iload_n hx hb dX13_off_11 rfl (lv_at hl 0 rfl) ?_
    refine lv_iload_n hx hb dX13_off_12 rfl (lv_at hl 1 rfl) ?_
    refine lv_isub hx hb dX13_off_13 ?_
    exact W.iret (v := (x0 - x1)) hx hb hr (fun t ht hW => by rw [hqq]; have hh := Option.some.inj h; exact ⟨⟨(x0 - x1), (()), rfl, Option.some.inj h, by rw [ht]; exact hP, va_K.moved hW.alike hK⟩, hS.F ht⟩) hS.2.2 dX13_off_14
  · rw [if_neg c1] at h
    refine lv_iload_n hx hb dX13_off_5 rfl (lv_at hl 1 rfl) ?_
    refine lv_iload_n hx hb dX13_off_6 rfl (lv_at hl 0 rfl) ?_
    refine lv_isub hx hb dX13_off_7 ?_
    refine lv_goto (tgt := 14) hx hb dX13_off_8 (by decide) ?_
    exact W.iret (v := (x1 - x0)) hx hb hr (fun t ht hW => by rw [hqq]; have hh := Option.some.inj h; exact ⟨⟨(x1 - x0), (()), rfl, Option.some.inj h, by rw [ht]; exact hP, va_K.moved hW.alike hK⟩, hS.F ht⟩) hS.2.2 dX13_off_14

abbrev w_X13_misread (cy : Nat → ClassId) (a0 : Nat → Nat) (gth : Int32) (gvm : Int32 × Int32 × Int32 × (Nat → Int32) × (Nat → Int32) × (Nat → Int32) × (Nat → Int32) × (Nat → Int32) × (Nat → Int32) × (Nat → Int32) × (Nat → Int32) × (Nat → Int32)) (gtd : Int32) (gfl : Int32 × Int32) (grd : Int32 × Int32 × Int32 × Int32 × Int32 × Int32 × Int64 × (Nat → Int32)) (gnv : Int32 × Int32 × Int32 × Int32 × Int32 × (Nat → Int32) × (Nat → Int32) × (Nat → Int32) × (Nat → Int32) × (Nat → Int32) × (Nat → Int32)) (gac : Int32 × (Nat → Int32) × (Nat → Int32)) (gla : (Nat → Int32)) (grc : Int32 × (Nat → Int32)) (gim : Int32 × Int32 × Int32 × (Nat → Int32) × (Nat → Int32) × (Nat → Int32) × (Nat → Int32) × (Nat → Int32) × (Nat → Int32) × (Nat → Int32) × (Nat → Int32) × (Nat → Int32)) : va_W := [(a0 0, .inr (11, [.int (gth), .int (gvm.1), .int (gvm.2.1), .int (gvm.2.2.1), .ref (a0 1), .ref (a0 2), .ref (a0 3), .ref (a0 4), .ref (a0 5), .ref (a0 6), .ref (a0 7), .ref (a0 8), .ref (a0 9), .ref (a0 10), .int (gtd), .int (gfl.1), .int (gfl.2), .ref (a0 11), .int (grd.1), .int (grd.2.1), .int (grd.2.2.1), .int (grd.2.2.2.1), .int (grd.2.2.2.2.1), .int (grd.2.2.2.2.2.1), .long (grd.2.2.2.2.2.2.1), .ref (a0 12), .int (gnv.1), .int (gnv.2.1), .int (gnv.2.2.1), .int (gnv.2.2.2.1), .int (gnv.2.2.2.2.1), .ref (a0 13), .ref (a0 14), .ref (a0 15), .ref (a0 16), .ref (a0 17), .ref (a0 18), .int (gac.1), .ref (a0 19), .ref (a0 20), .ref (a0 21), .ref (a0 22), .ref (a0 23), .ref (a0 24), .ref (a0 25), .ref (a0 26), .ref (a0 27), .int (grc.1), .ref (a0 28), .ref (a0 29), .ref (a0 30), .ref (a0 31), .int (gim.1), .int (gim.2.1), .int (gim.2.2.1), .ref (a0 32), .ref (a0 33), .ref (a0 34), .ref (a0 35), .ref (a0 36), .ref (a0 37), .ref (a0 38), .ref (a0 39), .ref (a0 40)])), (a0 1, .inl (cy 1, 5, .inl (gvm.2.2.2.1))), (a0 2, .inl (cy 1, 5, .inl (gvm.2.2.2.2.1))), (a0 3, .inl (cy 1, 5, .inl (gvm.2.2.2.2.2.1))), (a0 4, .inl (cy 1, 25, .inl (gvm.2.2.2.2.2.2.1))), (a0 5, .inl (cy 1, 10, .inl (gvm.2.2.2.2.2.2.2.1))), (a0 6, .inl (cy 1, 10, .inl (gvm.2.2.2.2.2.2.2.2.1))), (a0 7, .inl (cy 1, 10, .inl (gvm.2.2.2.2.2.2.2.2.2.1))), (a0 8, .inl (cy 1, 10, .inl (gvm.2.2.2.2.2.2.2.2.2.2.1))), (a0 9, .inl (cy 1, 50, .inl (gvm.2.2.2.2.2.2.2.2.2.2.2))), (a0 21, .inl (cy 1, 620, .inl (gla)))]
abbrev rm_X13_misread : Room := { frames := 1, cells := 0, slots := 0, locals := 21 }
set_option maxHeartbeats 1000000 in
set_option maxRecDepth 100000 in
theorem c_X13_misread (l : Launch) (dC : Nat → ClassId) (dI : Nat → Nat → Nat) (cy : Nat → ClassId) (a0 : Nat → Nat) (gth : Int32) (gvm : Int32 × Int32 × Int32 × (Nat → Int32) × (Nat → Int32) × (Nat → Int32) × (Nat → Int32) × (Nat → Int32) × (Nat → Int32) × (Nat → Int32) × (Nat → Int32) × (Nat → Int32)) (gtd : Int32) (gfl : Int32 × Int32) (grd : Int32 × Int32 × Int32 × Int32 × Int32 × Int32 × Int64 × (Nat → Int32)) (gnv : Int32 × Int32 × Int32 × Int32 × Int32 × (Nat → Int32) × (Nat → Int32) × (Nat → Int32) × (Nat → Int32) × (Nat → Int32) × (Nat → Int32)) (gac : Int32 × (Nat → Int32) × (Nat → Int32)) (gla : (Nat → Int32)) (grc : Int32 × (Nat → Int32)) (gim : Int32 × Int32 × Int32 × (Nat → Int32) × (Nat → Int32) × (Nat → Int32) × (Nat → Int32) × (Nat → Int32) × (Nat → Int32) × (Nat → Int32) × (Nat → Int32) × (Nat → Int32)) (x1 : Int32) (x2 : Int32) (sz : Nat) (R0 : Int32) (h : p_X13_misread gvm gla x1 x2 = some R0) : Met l yX13_misread wsX13_misread rm_X13_misread (va_Pc [.ref (a0 0), .int x1, .int x2] (prC dC dI cy (w_X13_misread cy a0 gth gvm gtd gfl grd gnv gac gla grc gim) sz)) (va_Qi (fun (r : Int32) (_ : Unit) => r = R0) (fun (_ : Unit) t => poC dC dI cy (w_X13_misread cy a0 gth gvm gtd gfl grd gnv gac gla grc gim) t) (va_A (w_X13_misread cy a0 gth gvm gtd gfl grd gnv gac gla grc gim) sz)) 0 0 (va_A (w_X13_misread cy a0 gth gvm gtd gfl grd gnv gac gla grc gim) sz) := by
  refine Met.ofW (cc := cX13_misread) (maxL := 7) (ret := (some .int)) (by decide) rfl ?_
  intro p e s m aa below meth c s₁ B hml hv
  obtain ⟨haa, hsz, hP, hK, hD0⟩ := hv
  have hx := B.exec
  have hb := B.bytes
  have hr := B.returns
  have hts := atoms_spec (ws := wsX13_misread) B.pre
  have hown : s.vm.findClass RX13 = some m.cls := findClass_of_methodNamed B.named
  have hlocks := B.notSynchronized
  subst hsz
  have hD := hD0.self (sz := s.heap.size)
  obtain ⟨qq, hqq⟩ : ∃ qq, qq = (va_Qi (fun (r : Int32) (_ : Unit) => r = R0) (fun (_ : Unit) t => poC dC dI cy (w_X13_misread cy a0 gth gvm gtd gfl grd gnv gac gla grc gim) t) (va_A (w_X13_misread cy a0 gth gvm gtd gfl grd gnv gac gla grc gim) s.heap.size)) := ⟨_, rfl⟩
  rw [← hqq]
  generalize hAe : va_A (w_X13_misread cy a0 gth gvm gtd gfl grd gnv gac gla grc gim) s.heap.size = A at hD hqq ⊢
  have hA : ∀ q : Nat, s.heap.size ≤ q → A q := fun q h => by rw [← hAe]; exact Or.inr h
  have hS : va_S A s.heap s.heap [] := va_S.rf
  have hl := lv_entry ([.ref (a0 0), .int x1, .int x2]) (n := 7) (Nat.le_of_ble_eq_true rfl)
  have hE : entryFrame m aa 7 = F0 m 0 ((lg_sl ([.ref (a0 0), .int x1, .int x2]) ++ List.replicate (7 - (lg_sl ([.ref (a0 0), .int x1, .int x2])).length) Slot.unset).toArray) [] := by rw [haa]; exact lg_entry_eq m _ 7
  refine W.eq hE ?_
  generalize (lg_sl ([.ref (a0 0), .int x1, .int x2]) ++ List.replicate (7 - (lg_sl ([.ref (a0 0), .int x1, .int x2])).length) Slot.unset).toArray = ls at hl ⊢
  have hl : lv_has ls 7 [(0, .ref (a0 0)), (1, .int x1), (2, .int x2)] := hl
  change W p l e rm_X13_misread s m aa below meth c s.heap [] 0 0 (MQ below qq aa s 0 0 A) (F0 m 0 ls [])
  have hS0 := hS
  have lk0 := hts (.fieldLink RX13 74 "GoatDoorsModel" "laid" "[I") (by decide +kernel)
  have lk1 := hts (.fieldLink RX13 251 "GoatDoorsModel" "base" "I") (by decide +kernel)
  have in_X13 : ∀ w ∈ wsX130, w ∈ wsX13_misread := by decide +kernel
  have c98 : ∀ (k5 : Int32 → Int32 → Int32 → Int32 → Option (Int32)) (hk5 : ∀ (x1 : Int32) (x2 : Int32) (x3 : Int32) (x4 : Int32) (H : Heap) (locs : List Loc) (ls : Array Slot), k5 x1 x2 x3 x4 = some R0 → va_P (dC, dI) vwCl (w_X13_misread cy a0 gth gvm gtd gfl grd gnv gac gla grc gim) H → va_D A (w_X13_misread cy a0 gth gvm gtd gfl grd gnv gac gla grc gim) → va_S A s.heap H locs → lv_has ls 7 [(0, .ref (a0 0)), (1, .int x1), (2, .int x2), (3, .int x3), (4, .int x4)] → W p l e rm_X13_misread s m aa below meth c H locs 0 0 (MQ below qq aa s 0 0 A) (F0 m 5 ls [])), ∀ (x1 : Int32) (x2 : Int32) (x4 : Int32) (t0 : Int32) (H : Heap) (locs : List Loc) (ls : Array Slot), p_X13_misread_98 k5 gvm gla x1 x2 x4 t0 = some R0 → va_P (dC, dI) vwCl (w_X13_misread cy a0 gth gvm gtd gfl grd gnv gac gla grc gim) H → va_D A (w_X13_misread cy a0 gth gvm gtd gfl grd gnv gac gla grc gim) → va_S A s.heap H locs → lv_has ls 7 [(0, .ref (a0 0)), (1, .int x1), (2, .int x2), (4, .int x4)] → W p l e rm_X13_misread s m aa below meth c H locs 0 0 (MQ below qq aa s 0 0 A) (F0 m 98 ls [.int t0]) := by
    intro k5 hk5 x1 x2 x4 t0 H locs ls h hP hD hS hl
    unfold p_X13_misread_98 at h
    refine lv_istore_n (lv' := [(3, .int t0), (0, .ref (a0 0)), (1, .int x1), (2, .int x2), (4, .int x4)]) hx hb dX13_misread_98 rfl hl (by decide) rfl (fun ls hl => ?_)
    refine lv_iinc (v := (x4 + (1 : Int32))) (lv' := [(4, .int (x4 + (1 : Int32))), (3, .int t0), (0, .ref (a0 0)), (1, .int x1), (2, .int x2)]) hx hb dX13_misread_99 hl (k := 4) rfl rfl (by decide) rfl (fun ls hl => ?_)
    refine lv_goto (tgt := 5) hx hb dX13_misread_102 (by decide) ?_
    exact hk5 x1 x2 t0 (x4 + (1 : Int32)) H locs ls h hP hD hS (lv_sub hl [2, 3, 4, 1, 0] rfl)
  have c85 : ∀ (k5 : Int32 → Int32 → Int32 → Int32 → Option (Int32)) (hk5 : ∀ (x1 : Int32) (x2 : Int32) (x3 : Int32) (x4 : Int32) (H : Heap) (locs : List Loc) (ls : Array Slot), k5 x1 x2 x3 x4 = some R0 → va_P (dC, dI) vwCl (w_X13_misread cy a0 gth gvm gtd gfl grd gnv gac gla grc gim) H → va_D A (w_X13_misread cy a0 gth gvm gtd gfl grd gnv gac gla grc gim) → va_S A s.heap H locs → lv_has ls 7 [(0, .ref (a0 0)), (1, .int x1), (2, .int x2), (3, .int x3), (4, .int x4)] → W p l e rm_X13_misread s m aa below meth c H locs 0 0 (MQ below qq aa s 0 0 A) (F0 m 5 ls [])), ∀ (x1 : Int32) (x2 : Int32) (x4 : Int32) (x6 : Int32) (t0 : Int32) (H : Heap) (locs : List Loc) (ls : Array Slot), p_X13_misread_85 k5 gvm gla x1 x2 x4 x6 t0 = some R0 → va_P (dC, dI) vwCl (w_X13_misread cy a0 gth gvm gtd gfl grd gnv gac gla grc gim) H → va_D A (w_X13_misread cy a0 gth gvm gtd gfl grd gnv gac gla grc gim) → va_S A s.heap H locs → lv_has ls 7 [(0, .ref (a0 0)), (1, .int x1), (2, .int x2), (4, .int x4), (6, .int x6)] → W p l e rm_X13_misread s m aa below meth c H locs 0 0 (MQ below qq aa s 0 0 A) (F0 m 85 ls [.int t0]) := by
    intro k5 hk5 x1 x2 x4 x6 t0 H locs ls h hP hD hS hl
    unfold p_X13_misread_85 at h
    refine lv_istore_n (lv' := [(3, .int t0), (0, .ref (a0 0)), (1, .int x1), (2, .int x2), (4, .int x4), (6, .int x6)]) hx hb dX13_misread_85 rfl hl (by decide) rfl (fun ls hl => ?_)
    refine lv_iload hx hb dX13_misread_86 (lv_at hl 5 rfl) ?_
    refine lv_iload_n hx hb dX13_misread_88 rfl (lv_at hl 0 rfl) ?_
    refine lv_icmp_le (tgt := 97) hx hb dX13_misread_89 (by decide) (fun c1 => ?_) (fun c1 => ?_)
    · rw [if_pos c1] at h
      refine lv_iload_n hx hb dX13_misread_97 rfl (lv_at hl 0 rfl) ?_
      exact c98 k5 hk5 x1 x2 x4 t0 H locs ls h hP hD hS (lv_sub hl [1, 2, 3, 4] rfl)
    · rw [if_neg c1] at h
      refine lv_iload hx hb dX13_misread_92 (lv_at hl 5 rfl) ?_
      refine lv_goto (tgt := 98) hx hb dX13_misread_94 (by decide) ?_
      exact c98 k5 hk5 x1 x2 x4 x6 H locs ls h hP hD hS (lv_sub hl [1, 2, 3, 4] rfl)
  have c5 : ∀ (n : Nat), ∀ (x1 : Int32) (x2 : Int32) (x3 : Int32) (x4 : Int32) (H : Heap) (locs : List Loc) (ls : Array Slot), p_X13_misread_5 gvm gla n x1 x2 x3 x4 = some R0 → va_P (dC, dI) vwCl (w_X13_misread cy a0 gth gvm gtd gfl grd gnv gac gla grc gim) H → va_D A (w_X13_misread cy a0 gth gvm gtd gfl grd gnv gac gla grc gim) → va_S A s.heap H locs → lv_has ls 7 [(0, .ref (a0 0)), (1, .int x1), (2, .int x2), (3, .int x3), (4, .int x4)] → W p l e rm_X13_misread s m aa below meth c H locs 0 0 (MQ below qq aa s 0 0 A) (F0 m 5 ls []) := by
    intro  n
    induction n with
    | zero => intro x1 x2 x3 x4 H locs ls h; exact no_some h
    | succ n ih =>
      intro x1 x2 x3 x4 H locs ls h hP hD hS hl
      rw [p_X13_misread_5.eq_2] at h
      refine lv_iload hx hb dX13_misread_5 (lv_at hl 4 rfl) ?_
      refine lv_bipush (v := (10 : Int32)) hx hb dX13_misread_7 (by decide) ?_
      refine lv_icmp_ge (tgt := 105) hx hb dX13_misread_9 (by decide) (fun c1 => ?_) (fun c1 => ?_)
      · rw [if_pos c1] at h
        refine lv_iload_n hx hb dX13_misread_105 rfl (lv_at hl 3 rfl) ?_
        exact W.iret (v := x3) hx hb hr (fun t ht hW => by rw [hqq]; have hh := Option.some.inj h; exact ⟨⟨x3, (()), rfl, Option.some.inj h, by rw [ht]; exact hP, va_K.moved hW.alike hK⟩, hS.F ht⟩) hS.2.2 dX13_misread_106
      · rw [if_neg c1] at h
        refine lv_aload_n hx hb dX13_misread_12 rfl (lv_at hl 0 rfl) ?_
        refine va_get (D := (dC, dI)) (ci := 11) (v := .ref (a0 21)) (C := RX13) (T := TX13) (N := 64) hx hb hts in_X13 hown hK hP 0 rfl rfl 40 (by decide) lk0 (fun _ h9 => h9) rfl dX13_misread_13 ?_
        refine lv_bipush (v := (62 : Int32)) hx hb dX13_misread_16 (by decide) ?_
        refine lv_iload hx hb dX13_misread_18 (lv_at hl 4 rfl) ?_
        refine lv_imul hx hb dX13_misread_20 ?_
        refine lv_iload_n hx hb dX13_misread_21 rfl (lv_at hl 1 rfl) ?_
        refine lv_iadd hx hb dX13_misread_22 ?_
        obtain ⟨hi2, h⟩ := ok_if h
        refine va_iald hx hb hK hP 10 1 rfl rfl (ix_in hi2) dX13_misread_23 ?_
        refine lv_aload_n hx hb dX13_misread_24 rfl (lv_at hl 0 rfl) ?_
        refine va_get (D := (dC, dI)) (ci := 11) (v := .ref (a0 21)) (C := RX13) (T := TX13) (N := 64) hx hb hts in_X13 hown hK hP 0 rfl rfl 40 (by decide) lk0 (fun _ h9 => h9) rfl dX13_misread_25 ?_
        refine lv_bipush (v := (62 : Int32)) hx hb dX13_misread_28 (by decide) ?_
        refine lv_iload hx hb dX13_misread_30 (lv_at hl 4 rfl) ?_
        refine lv_imul hx hb dX13_misread_32 ?_
        refine lv_aload_n hx hb dX13_misread_33 rfl (lv_at hl 0 rfl) ?_
        refine va_get (D := (dC, dI)) (ci := 11) (v := .int gvm.2.2.1) (C := RX13) (T := TX13) (N := 64) hx hb hts in_X13 hown hK hP 0 rfl rfl 3 (by decide) lk1 (fun _ h9 => h9) rfl dX13_misread_34 ?_
        refine lv_iadd hx hb dX13_misread_37 ?_
        obtain ⟨hi3, h⟩ := ok_if h
        refine va_iald hx hb hK hP 10 1 rfl rfl (ix_in hi3) dX13_misread_38 ?_
        obtain ⟨v4, hv5, h⟩ := ok_bind h
        refine cl_si (w2 := fun (_ : Unit) => w_X13_misread cy a0 gth gvm gtd gfl grd gnv gac gla grc gim) (As := [.int (gla (((62 : Int32) * x4) + x1).toNatClampNeg), .int (gla (((62 : Int32) * x4) + gvm.2.2.1).toNatClampNeg)]) (rest := []) ⟨hx, hb, hml, hown, hts⟩ (c_X13_off l dC dI cy  (gla (((62 : Int32) * x4) + x1).toNatClampNeg) (gla (((62 : Int32) * x4) + gvm.2.2.1).toNatClampNeg) H.size v4 hv5) (va_cwS 2 hts gX13_misread_X13_off rfl rfl rfl (by decide +kernel) ⟨Nat.le_of_ble_eq_true rfl, Nat.le_of_ble_eq_true rfl⟩) cl_blind (cl_pre hK hP hD [] (by decide) rfl) hP hD hS hA [] rfl rfl hl.1 rfl (lv_room (Nat.le_of_ble_eq_true rfl)) dX13_misread_39 ⟨Nat.le_of_ble_eq_true rfl, Nat.le_of_ble_eq_true rfl⟩ ⟨rfl, rfl⟩ (fun _ => updR [] rfl) (fun r u H locs hw hP hD hS => ?_)
        have hw := hw.symm
        subst hw
        have hP : va_P (dC, dI) vwCl (w_X13_misread cy a0 gth gvm gtd gfl grd gnv gac gla grc gim) H := hP
        have hD : va_D A (w_X13_misread cy a0 gth gvm gtd gfl grd gnv gac gla grc gim) := hD
        refine lv_istore (lv' := [(5, .int v4), (0, .ref (a0 0)), (1, .int x1), (2, .int x2), (3, .int x3), (4, .int x4)]) hx hb dX13_misread_42 hl (by decide) rfl (fun ls hl => ?_)
        refine lv_aload_n hx hb dX13_misread_44 rfl (lv_at hl 1 rfl) ?_
        refine va_get (D := (dC, dI)) (ci := 11) (v := .ref (a0 21)) (C := RX13) (T := TX13) (N := 64) hx hb hts in_X13 hown hK hP 0 rfl rfl 40 (by decide) lk0 (fun _ h9 => h9) rfl dX13_misread_45 ?_
        refine lv_bipush (v := (62 : Int32)) hx hb dX13_misread_48 (by decide) ?_
        refine lv_iload hx hb dX13_misread_50 (lv_at hl 5 rfl) ?_
        refine lv_imul hx hb dX13_misread_52 ?_
        refine lv_iload_n hx hb dX13_misread_53 rfl (lv_at hl 2 rfl) ?_
        refine lv_iadd hx hb dX13_misread_54 ?_
        obtain ⟨hi6, h⟩ := ok_if h
        refine va_iald hx hb hK hP 10 1 rfl rfl (ix_in hi6) dX13_misread_55 ?_
        refine lv_aload_n hx hb dX13_misread_56 rfl (lv_at hl 1 rfl) ?_
        refine va_get (D := (dC, dI)) (ci := 11) (v := .ref (a0 21)) (C := RX13) (T := TX13) (N := 64) hx hb hts in_X13 hown hK hP 0 rfl rfl 40 (by decide) lk0 (fun _ h9 => h9) rfl dX13_misread_57 ?_
        refine lv_bipush (v := (62 : Int32)) hx hb dX13_misread_60 (by decide) ?_
        refine lv_iload hx hb dX13_misread_62 (lv_at hl 5 rfl) ?_
        refine lv_imul hx hb dX13_misread_64 ?_
        refine lv_iload_n hx hb dX13_misread_65 rfl (lv_at hl 3 rfl) ?_
        refine lv_iadd hx hb dX13_misread_66 ?_
        obtain ⟨hi7, h⟩ := ok_if h
        refine va_iald hx hb hK hP 10 1 rfl rfl (ix_in hi7) dX13_misread_67 ?_
        obtain ⟨v8, hv9, h⟩ := ok_bind h
        refine cl_si (w2 := fun (_ : Unit) => w_X13_misread cy a0 gth gvm gtd gfl grd gnv gac gla grc gim) (As := [.int (gla (((62 : Int32) * x4) + x1).toNatClampNeg), .int (gla (((62 : Int32) * x4) + x2).toNatClampNeg)]) (rest := []) ⟨hx, hb, hml, hown, hts⟩ (c_X13_off l dC dI cy  (gla (((62 : Int32) * x4) + x1).toNatClampNeg) (gla (((62 : Int32) * x4) + x2).toNatClampNeg) H.size v8 hv9) (va_cwS 2 hts gX13_misread_X13_off rfl rfl rfl (by decide +kernel) ⟨Nat.le_of_ble_eq_true rfl, Nat.le_of_ble_eq_true rfl⟩) cl_blind (cl_pre hK hP hD [] (by decide) rfl) hP hD hS hA [] rfl rfl hl.1 rfl (lv_room (Nat.le_of_ble_eq_true rfl)) dX13_misread_68 ⟨Nat.le_of_ble_eq_true rfl, Nat.le_of_ble_eq_true rfl⟩ ⟨rfl, rfl⟩ (fun _ => updR [] rfl) (fun r u H locs hw hP hD hS => ?_)
        have hw := hw.symm
        subst hw
        have hP : va_P (dC, dI) vwCl (w_X13_misread cy a0 gth gvm gtd gfl grd gnv gac gla grc gim) H := hP
        have hD : va_D A (w_X13_misread cy a0 gth gvm gtd gfl grd gnv gac gla grc gim) := hD
        refine lv_istore (lv' := [(6, .int v8), (5, .int v4), (0, .ref (a0 0)), (1, .int x1), (2, .int x2), (3, .int x3), (4, .int x4)]) hx hb dX13_misread_71 hl (by decide) rfl (fun ls hl => ?_)
        refine lv_iload hx hb dX13_misread_73 (lv_at hl 1 rfl) ?_
        refine lv_iload_n hx hb dX13_misread_75 rfl (lv_at hl 5 rfl) ?_
        refine lv_icmp_le (tgt := 84) hx hb dX13_misread_76 (by decide) (fun c10 => ?_) (fun c10 => ?_)
        · rw [if_pos c10] at h
          refine lv_iload_n hx hb dX13_misread_84 rfl (lv_at hl 5 rfl) ?_
          exact c85 (p_X13_misread_5 gvm gla n) ih x1 x2 x4 v8 x3 H locs ls h hP hD hS (lv_sub hl [2, 3, 4, 6, 0] rfl)
        · rw [if_neg c10] at h
          refine lv_iload hx hb dX13_misread_79 (lv_at hl 1 rfl) ?_
          refine lv_goto (tgt := 85) hx hb dX13_misread_81 (by decide) ?_
          exact c85 (p_X13_misread_5 gvm gla n) ih x1 x2 x4 v8 v4 H locs ls h hP hD hS (lv_sub hl [2, 3, 4, 6, 0] rfl)
  obtain ⟨H, hH⟩ : ∃ H : Heap, H = s.heap := ⟨_, rfl⟩
  obtain ⟨locs, hlocs⟩ : ∃ locs : List Loc, locs = [] := ⟨_, rfl⟩
  have hS : va_S A s.heap H locs := by rw [hH, hlocs]; exact hS
  rw [← hH] at hP
  suffices hg : W p l e rm_X13_misread s m aa below meth c H locs 0 0 (MQ below qq aa s 0 0 A) (F0 m 0 ls []) by subst hH; subst hlocs; exact hg
  unfold p_X13_misread at h
  refine lv_iconst (v := (0 : Int32)) hx hb dX13_misread_0 (by decide) ?_
  refine lv_istore_n (lv' := [(3, .int (0 : Int32)), (0, .ref (a0 0)), (1, .int x1), (2, .int x2)]) hx hb dX13_misread_1 rfl hl (by decide) rfl (fun ls hl => ?_)
  refine lv_iconst (v := (0 : Int32)) hx hb dX13_misread_2 (by decide) ?_
  refine lv_istore (lv' := [(4, .int (0 : Int32)), (3, .int (0 : Int32)), (0, .ref (a0 0)), (1, .int x1), (2, .int x2)]) hx hb dX13_misread_3 hl (by decide) rfl (fun ls hl => ?_)
  exact c5 fu x1 x2 (0 : Int32) (0 : Int32) H locs ls h hP hD hS (lv_sub hl [2, 3, 4, 1, 0] rfl)

abbrev w_X13_trade (cy : Nat → ClassId) (a0 : Nat → Nat) (gth : Int32) (gvm : Int32 × Int32 × Int32 × (Nat → Int32) × (Nat → Int32) × (Nat → Int32) × (Nat → Int32) × (Nat → Int32) × (Nat → Int32) × (Nat → Int32) × (Nat → Int32) × (Nat → Int32)) (gtd : Int32) (gfl : Int32 × Int32) (grd : Int32 × Int32 × Int32 × Int32 × Int32 × Int32 × Int64 × (Nat → Int32)) (gnv : Int32 × Int32 × Int32 × Int32 × Int32 × (Nat → Int32) × (Nat → Int32) × (Nat → Int32) × (Nat → Int32) × (Nat → Int32) × (Nat → Int32)) (gac : Int32 × (Nat → Int32) × (Nat → Int32)) (gla : (Nat → Int32)) (grc : Int32 × (Nat → Int32)) (gim : Int32 × Int32 × Int32 × (Nat → Int32) × (Nat → Int32) × (Nat → Int32) × (Nat → Int32) × (Nat → Int32) × (Nat → Int32) × (Nat → Int32) × (Nat → Int32) × (Nat → Int32)) : va_W := [(a0 0, .inr (11, [.int (gth), .int (gvm.1), .int (gvm.2.1), .int (gvm.2.2.1), .ref (a0 1), .ref (a0 2), .ref (a0 3), .ref (a0 4), .ref (a0 5), .ref (a0 6), .ref (a0 7), .ref (a0 8), .ref (a0 9), .ref (a0 10), .int (gtd), .int (gfl.1), .int (gfl.2), .ref (a0 11), .int (grd.1), .int (grd.2.1), .int (grd.2.2.1), .int (grd.2.2.2.1), .int (grd.2.2.2.2.1), .int (grd.2.2.2.2.2.1), .long (grd.2.2.2.2.2.2.1), .ref (a0 12), .int (gnv.1), .int (gnv.2.1), .int (gnv.2.2.1), .int (gnv.2.2.2.1), .int (gnv.2.2.2.2.1), .ref (a0 13), .ref (a0 14), .ref (a0 15), .ref (a0 16), .ref (a0 17), .ref (a0 18), .int (gac.1), .ref (a0 19), .ref (a0 20), .ref (a0 21), .ref (a0 22), .ref (a0 23), .ref (a0 24), .ref (a0 25), .ref (a0 26), .ref (a0 27), .int (grc.1), .ref (a0 28), .ref (a0 29), .ref (a0 30), .ref (a0 31), .int (gim.1), .int (gim.2.1), .int (gim.2.2.1), .ref (a0 32), .ref (a0 33), .ref (a0 34), .ref (a0 35), .ref (a0 36), .ref (a0 37), .ref (a0 38), .ref (a0 39), .ref (a0 40)])), (a0 1, .inl (cy 1, 5, .inl (gvm.2.2.2.1))), (a0 2, .inl (cy 1, 5, .inl (gvm.2.2.2.2.1))), (a0 3, .inl (cy 1, 5, .inl (gvm.2.2.2.2.2.1))), (a0 4, .inl (cy 1, 25, .inl (gvm.2.2.2.2.2.2.1))), (a0 5, .inl (cy 1, 10, .inl (gvm.2.2.2.2.2.2.2.1))), (a0 6, .inl (cy 1, 10, .inl (gvm.2.2.2.2.2.2.2.2.1))), (a0 7, .inl (cy 1, 10, .inl (gvm.2.2.2.2.2.2.2.2.2.1))), (a0 8, .inl (cy 1, 10, .inl (gvm.2.2.2.2.2.2.2.2.2.2.1))), (a0 9, .inl (cy 1, 50, .inl (gvm.2.2.2.2.2.2.2.2.2.2.2))), (a0 21, .inl (cy 1, 620, .inl (gla)))]
abbrev rm_X13_trade : Room := { frames := 2, cells := 0, slots := 0, locals := 49 }
set_option maxHeartbeats 1000000 in
set_option maxRecDepth 100000 in
theorem c_X13_trade (l : Launch) (dC : Nat → ClassId) (dI : Nat → Nat → Nat) (cy : Nat → ClassId) (a0 : Nat → Nat) (gth : Int32) (gvm : Int32 × Int32 × Int32 × (Nat → Int32) × (Nat → Int32) × (Nat → Int32) × (Nat → Int32) × (Nat → Int32) × (Nat → Int32) × (Nat → Int32) × (Nat → Int32) × (Nat → Int32)) (gtd : Int32) (gfl : Int32 × Int32) (grd : Int32 × Int32 × Int32 × Int32 × Int32 × Int32 × Int64 × (Nat → Int32)) (gnv : Int32 × Int32 × Int32 × Int32 × Int32 × (Nat → Int32) × (Nat → Int32) × (Nat → Int32) × (Nat → Int32) × (Nat → Int32) × (Nat → Int32)) (gac : Int32 × (Nat → Int32) × (Nat → Int32)) (gla : (Nat → Int32)) (grc : Int32 × (Nat → Int32)) (gim : Int32 × Int32 × Int32 × (Nat → Int32) × (Nat → Int32) × (Nat → Int32) × (Nat → Int32) × (Nat → Int32) × (Nat → Int32) × (Nat → Int32) × (Nat → Int32) × (Nat → Int32)) (x1 : Int32) (x2 : Int32) (sz : Nat) (R0 : Int32 × (Int32) × ((Nat → Int32))) (h : p_X13_trade gth gvm gla x1 x2 = some R0) : Met l yX13_trade wsX13_trade rm_X13_trade (va_Pc [.ref (a0 0), .int x1, .int x2] (prC dC dI cy (w_X13_trade cy a0 gth gvm gtd gfl grd gnv gac gla grc gim) sz)) (va_Qi (fun (r : Int32) (u : (Int32) × ((Nat → Int32))) => r = R0.1 ∧ u = R0.2) (fun (u : (Int32) × ((Nat → Int32))) t => poC dC dI cy (w_X13_trade cy a0 u.1 gvm gtd gfl grd gnv gac u.2 grc gim) t) (va_A (w_X13_trade cy a0 gth gvm gtd gfl grd gnv gac gla grc gim) sz)) 0 0 (va_A (w_X13_trade cy a0 gth gvm gtd gfl grd gnv gac gla grc gim) sz) := by
  refine Met.ofW (cc := cX13_trade) (maxL := 5) (ret := (some .int)) (by decide) rfl ?_
  intro p e s m aa below meth c s₁ B hml hv
  obtain ⟨haa, hsz, hP, hK, hD0⟩ := hv
  have hx := B.exec
  have hb := B.bytes
  have hr := B.returns
  have hts := atoms_spec (ws := wsX13_trade) B.pre
  have hown : s.vm.findClass RX13 = some m.cls := findClass_of_methodNamed B.named
  have hlocks := B.notSynchronized
  subst hsz
  have hD := hD0.self (sz := s.heap.size)
  obtain ⟨qq, hqq⟩ : ∃ qq, qq = (va_Qi (fun (r : Int32) (u : (Int32) × ((Nat → Int32))) => r = R0.1 ∧ u = R0.2) (fun (u : (Int32) × ((Nat → Int32))) t => poC dC dI cy (w_X13_trade cy a0 u.1 gvm gtd gfl grd gnv gac u.2 grc gim) t) (va_A (w_X13_trade cy a0 gth gvm gtd gfl grd gnv gac gla grc gim) s.heap.size)) := ⟨_, rfl⟩
  rw [← hqq]
  generalize hAe : va_A (w_X13_trade cy a0 gth gvm gtd gfl grd gnv gac gla grc gim) s.heap.size = A at hD hqq ⊢
  have hA : ∀ q : Nat, s.heap.size ≤ q → A q := fun q h => by rw [← hAe]; exact Or.inr h
  have hS : va_S A s.heap s.heap [] := va_S.rf
  have hl := lv_entry ([.ref (a0 0), .int x1, .int x2]) (n := 5) (Nat.le_of_ble_eq_true rfl)
  have hE : entryFrame m aa 5 = F0 m 0 ((lg_sl ([.ref (a0 0), .int x1, .int x2]) ++ List.replicate (5 - (lg_sl ([.ref (a0 0), .int x1, .int x2])).length) Slot.unset).toArray) [] := by rw [haa]; exact lg_entry_eq m _ 5
  refine W.eq hE ?_
  generalize (lg_sl ([.ref (a0 0), .int x1, .int x2]) ++ List.replicate (5 - (lg_sl ([.ref (a0 0), .int x1, .int x2])).length) Slot.unset).toArray = ls at hl ⊢
  have hl : lv_has ls 5 [(0, .ref (a0 0)), (1, .int x1), (2, .int x2)] := hl
  change W p l e rm_X13_trade s m aa below meth c s.heap [] 0 0 (MQ below qq aa s 0 0 A) (F0 m 0 ls [])
  have hS0 := hS
  have lk0 := hts (.fieldLink RX13 135 "GoatDoorsModel" "thrown" "I") (by decide +kernel)
  have in_X13 : ∀ w ∈ wsX130, w ∈ wsX13_trade := by decide +kernel
  have c73 : ∀ (k47 : (Int32) → ((Nat → Int32)) → Int32 → Int32 → Int32 → Int32 → Option (Int32 × (Int32) × ((Nat → Int32)))) (hk47 : ∀ (gth : Int32) (gla : (Nat → Int32)) (x1 : Int32) (x2 : Int32) (x3 : Int32) (x4 : Int32) (H : Heap) (locs : List Loc) (ls : Array Slot), k47 gth gla x1 x2 x3 x4 = some R0 → va_P (dC, dI) vwCl (w_X13_trade cy a0 gth gvm gtd gfl grd gnv gac gla grc gim) H → va_D A (w_X13_trade cy a0 gth gvm gtd gfl grd gnv gac gla grc gim) → va_S A s.heap H locs → lv_has ls 5 [(0, .ref (a0 0)), (1, .int x1), (2, .int x2), (3, .int x3), (4, .int x4)] → W p l e rm_X13_trade s m aa below meth c H locs 0 0 (MQ below qq aa s 0 0 A) (F0 m 47 ls [])), ∀ (gth : Int32) (gla : (Nat → Int32)) (x1 : Int32) (x2 : Int32) (x3 : Int32) (x4 : Int32) (H : Heap) (locs : List Loc) (ls : Array Slot), p_X13_trade_73 k47 gvm gth gla x1 x2 x3 x4 = some R0 → va_P (dC, dI) vwCl (w_X13_trade cy a0 gth gvm gtd gfl grd gnv gac gla grc gim) H → va_D A (w_X13_trade cy a0 gth gvm gtd gfl grd gnv gac gla grc gim) → va_S A s.heap H locs → lv_has ls 5 [(0, .ref (a0 0)), (1, .int x1), (2, .int x2), (3, .int x3), (4, .int x4)] → W p l e rm_X13_trade s m aa below meth c H locs 0 0 (MQ below qq aa s 0 0 A) (F0 m 73 ls []) := by
    intro k47 hk47 gth gla x1 x2 x3 x4 H locs ls h hP hD hS hl
    unfold p_X13_trade_73 at h
    refine lv_iinc (v := (x4 + (1 : Int32))) (lv' := [(4, .int (x4 + (1 : Int32))), (0, .ref (a0 0)), (1, .int x1), (2, .int x2), (3, .int x3)]) hx hb dX13_trade_73 hl (k := 4) rfl rfl (by decide) rfl (fun ls hl => ?_)
    refine lv_goto (tgt := 47) hx hb dX13_trade_76 (by decide) ?_
    exact hk47 gth gla x1 x2 x3 (x4 + (1 : Int32)) H locs ls h hP hD hS (lv_sub hl [1, 2, 3, 4, 0] rfl)
  have c47 : ∀ (n : Nat), ∀ (gth : Int32) (gla : (Nat → Int32)) (x1 : Int32) (x2 : Int32) (x3 : Int32) (x4 : Int32) (H : Heap) (locs : List Loc) (ls : Array Slot), p_X13_trade_47 gvm n gth gla x1 x2 x3 x4 = some R0 → va_P (dC, dI) vwCl (w_X13_trade cy a0 gth gvm gtd gfl grd gnv gac gla grc gim) H → va_D A (w_X13_trade cy a0 gth gvm gtd gfl grd gnv gac gla grc gim) → va_S A s.heap H locs → lv_has ls 5 [(0, .ref (a0 0)), (1, .int x1), (2, .int x2), (3, .int x3), (4, .int x4)] → W p l e rm_X13_trade s m aa below meth c H locs 0 0 (MQ below qq aa s 0 0 A) (F0 m 47 ls []) := by
    intro  n
    induction n with
    | zero => intro gth gla x1 x2 x3 x4 H locs ls h; exact no_some h
    | succ n ih =>
      intro gth gla x1 x2 x3 x4 H locs ls h hP hD hS hl
      rw [p_X13_trade_47.eq_2] at h
      refine lv_iload hx hb dX13_trade_47 (lv_at hl 4 rfl) ?_
      refine lv_bipush (v := (40 : Int32)) hx hb dX13_trade_49 (by decide) ?_
      refine lv_icmp_gt (tgt := 79) hx hb dX13_trade_51 (by decide) (fun c1 => ?_) (fun c1 => ?_)
      · rw [if_pos c1] at h
        refine lv_iload_n hx hb dX13_trade_79 rfl (lv_at hl 2 rfl) ?_
        refine lv_if_ne (tgt := 87) hx hb dX13_trade_80 (by decide) (fun c2 => ?_) (fun c2 => ?_)
        · rw [if_neg c2] at h
          refine lv_aload_n hx hb dX13_trade_87 rfl (lv_at hl 0 rfl) ?_
          refine lv_iload_n hx hb dX13_trade_88 rfl (lv_at hl 3 rfl) ?_
          refine lv_iload_n hx hb dX13_trade_89 rfl (lv_at hl 1 rfl) ?_
          obtain ⟨v3, hv4, h⟩ := ok_bind h
          refine cl_vi (w2 := fun (_ : Unit) => w_X13_trade cy a0 gth gvm gtd gfl grd gnv gac gla grc gim) (As := [.int x3, .int x1]) (rest := []) ⟨hx, hb, hml, hown, hts⟩ (c_X13_misread l dC dI cy a0 gth gvm gtd gfl grd gnv gac gla grc gim x3 x1 H.size v3 hv4) (cwV 2 hts gX13_trade_X13_misread rfl rfl rfl (by decide +kernel) ⟨Nat.le_of_ble_eq_true rfl, Nat.le_of_ble_eq_true rfl⟩) (va_recv hK hP (ci := 11) (q0 := 0) rfl rfl) cl_blind (cl_pre hK hP hD [0, 1, 2, 3, 4, 5, 6, 7, 8, 9, 10] (by decide) rfl) hP hD hS hA [0, 1, 2, 3, 4, 5, 6, 7, 8, 9, 10] rfl rfl hl.1 rfl (lv_room (Nat.le_of_ble_eq_true rfl)) dX13_trade_90 ⟨Nat.le_of_ble_eq_true rfl, Nat.le_of_ble_eq_true rfl⟩ ⟨rfl, rfl⟩ (fun _ => updR [0, 1, 2, 3, 4, 5, 6, 7, 8, 9, 10] rfl) (fun r u H locs hw hP hD hS => ?_)
          have hw := hw.symm
          subst hw
          have hP : va_P (dC, dI) vwCl (w_X13_trade cy a0 gth gvm gtd gfl grd gnv gac gla grc gim) H := hP
          have hD : va_D A (w_X13_trade cy a0 gth gvm gtd gfl grd gnv gac gla grc gim) := hD
          exact W.iret (v := v3) hx hb hr (fun t ht hW => by rw [hqq]; have hh := Option.some.inj h; exact ⟨⟨v3, ((gth, gla)), rfl, ⟨fst_of hh, snd_of hh⟩, by rw [ht]; exact hP, va_K.moved hW.alike hK⟩, hS.F ht⟩) hS.2.2 dX13_trade_93
        · rw [if_pos c2] at h
          refine lv_iload_n hx hb dX13_trade_83 rfl (lv_at hl 3 rfl) ?_
          refine lv_goto (tgt := 93) hx hb dX13_trade_84 (by decide) ?_
          exact W.iret (v := x3) hx hb hr (fun t ht hW => by rw [hqq]; have hh := Option.some.inj h; exact ⟨⟨x3, ((gth, gla)), rfl, ⟨fst_of hh, snd_of hh⟩, by rw [ht]; exact hP, va_K.moved hW.alike hK⟩, hS.F ht⟩) hS.2.2 dX13_trade_93
      · rw [if_neg c1] at h
        refine lv_aload_n hx hb dX13_trade_54 rfl (lv_at hl 0 rfl) ?_
        refine lv_iload hx hb dX13_trade_55 (lv_at hl 4 rfl) ?_
        refine lv_iload_n hx hb dX13_trade_57 rfl (lv_at hl 1 rfl) ?_
        obtain ⟨v5, hv6, h⟩ := ok_bind h
        refine cl_vi (w2 := fun (_ : Unit) => w_X13_trade cy a0 gth gvm gtd gfl grd gnv gac gla grc gim) (As := [.int x4, .int x1]) (rest := []) ⟨hx, hb, hml, hown, hts⟩ (c_X13_misread l dC dI cy a0 gth gvm gtd gfl grd gnv gac gla grc gim x4 x1 H.size v5 hv6) (cwV 2 hts gX13_trade_X13_misread rfl rfl rfl (by decide +kernel) ⟨Nat.le_of_ble_eq_true rfl, Nat.le_of_ble_eq_true rfl⟩) (va_recv hK hP (ci := 11) (q0 := 0) rfl rfl) cl_blind (cl_pre hK hP hD [0, 1, 2, 3, 4, 5, 6, 7, 8, 9, 10] (by decide) rfl) hP hD hS hA [0, 1, 2, 3, 4, 5, 6, 7, 8, 9, 10] rfl rfl hl.1 rfl (lv_room (Nat.le_of_ble_eq_true rfl)) dX13_trade_58 ⟨Nat.le_of_ble_eq_true rfl, Nat.le_of_ble_eq_true rfl⟩ ⟨rfl, rfl⟩ (fun _ => updR [0, 1, 2, 3, 4, 5, 6, 7, 8, 9, 10] rfl) (fun r u H locs hw hP hD hS => ?_)
        have hw := hw.symm
        subst hw
        have hP : va_P (dC, dI) vwCl (w_X13_trade cy a0 gth gvm gtd gfl grd gnv gac gla grc gim) H := hP
        have hD : va_D A (w_X13_trade cy a0 gth gvm gtd gfl grd gnv gac gla grc gim) := hD
        refine lv_aload_n hx hb dX13_trade_61 rfl (lv_at hl 0 rfl) ?_
        refine lv_iload_n hx hb dX13_trade_62 rfl (lv_at hl 3 rfl) ?_
        refine lv_iload_n hx hb dX13_trade_63 rfl (lv_at hl 1 rfl) ?_
        obtain ⟨v7, hv8, h⟩ := ok_bind h
        refine cl_vi (w2 := fun (_ : Unit) => w_X13_trade cy a0 gth gvm gtd gfl grd gnv gac gla grc gim) (As := [.int x3, .int x1]) (rest := [.int v5]) ⟨hx, hb, hml, hown, hts⟩ (c_X13_misread l dC dI cy a0 gth gvm gtd gfl grd gnv gac gla grc gim x3 x1 H.size v7 hv8) (cwV 2 hts gX13_trade_X13_misread rfl rfl rfl (by decide +kernel) ⟨Nat.le_of_ble_eq_true rfl, Nat.le_of_ble_eq_true rfl⟩) (va_recv hK hP (ci := 11) (q0 := 0) rfl rfl) cl_blind (cl_pre hK hP hD [0, 1, 2, 3, 4, 5, 6, 7, 8, 9, 10] (by decide) rfl) hP hD hS hA [0, 1, 2, 3, 4, 5, 6, 7, 8, 9, 10] rfl rfl hl.1 rfl (lv_room (Nat.le_of_ble_eq_true rfl)) dX13_trade_64 ⟨Nat.le_of_ble_eq_true rfl, Nat.le_of_ble_eq_true rfl⟩ ⟨rfl, rfl⟩ (fun _ => updR [0, 1, 2, 3, 4, 5, 6, 7, 8, 9, 10] rfl) (fun r u H locs hw hP hD hS => ?_)
        have hw := hw.symm
        subst hw
        have hP : va_P (dC, dI) vwCl (w_X13_trade cy a0 gth gvm gtd gfl grd gnv gac gla grc gim) H := hP
        have hD : va_D A (w_X13_trade cy a0 gth gvm gtd gfl grd gnv gac gla grc gim) := hD
        refine lv_icmp_ge (tgt := 73) hx hb dX13_trade_67 (by decide) (fun c9 => ?_) (fun c9 => ?_)
        · rw [if_pos c9] at h
          exact c73 (p_X13_trade_47 gvm n) ih gth gla x1 x2 x3 x4 H locs ls h hP hD hS (lv_sub hl [0, 1, 2, 3, 4] rfl)
        · rw [if_neg c9] at h
          refine lv_iload hx hb dX13_trade_70 (lv_at hl 4 rfl) ?_
          refine lv_istore_n (lv' := [(3, .int x4), (0, .ref (a0 0)), (1, .int x1), (2, .int x2), (4, .int x4)]) hx hb dX13_trade_72 rfl hl (by decide) rfl (fun ls hl => ?_)
          exact c73 (p_X13_trade_47 gvm n) ih gth gla x1 x2 x4 x4 H locs ls h hP hD hS (lv_sub hl [1, 2, 3, 0, 4] rfl)
  have c20 : ∀ (_u : Unit), ∀ (gth : Int32) (gla : (Nat → Int32)) (x1 : Int32) (x2 : Int32) (t1 : Int32) (H : Heap) (locs : List Loc) (ls : Array Slot), p_X13_trade_20 gvm gth gla x1 x2 t1 = some R0 → va_P (dC, dI) vwCl (w_X13_trade cy a0 gth gvm gtd gfl grd gnv gac gla grc gim) H → va_D A (w_X13_trade cy a0 gth gvm gtd gfl grd gnv gac gla grc gim) → va_S A s.heap H locs → lv_has ls 5 [(0, .ref (a0 0)), (1, .int x1), (2, .int x2)] → W p l e rm_X13_trade s m aa below meth c H locs 0 0 (MQ below qq aa s 0 0 A) (F0 m 20 ls [.int t1, .ref (a0 0)]) := by
    intro _ gth gla x1 x2 t1 H locs ls h hP hD hS hl
    unfold p_X13_trade_20 at h
    refine lv_iconst (v := (1 : Int32)) hx hb dX13_trade_20 (by decide) ?_
    obtain ⟨v1, hv2, h⟩ := ok_bind h
    refine cl_vi (w2 := fun (u : (Int32)) => w_X13_trade cy a0 u gvm gtd gfl grd gnv gac gla grc gim) (As := [.int t1, .int (1 : Int32)]) (rest := []) ⟨hx, hb, hml, hown, hts⟩ (c_X13_right l dC dI cy a0 gth gvm gtd gfl grd gnv gac grc gim t1 (1 : Int32) H.size v1 hv2) (cwV 2 hts gX13_trade_X13_right rfl rfl rfl (by decide +kernel) ⟨Nat.le_of_ble_eq_true rfl, Nat.le_of_ble_eq_true rfl⟩) (va_recv hK hP (ci := 11) (q0 := 0) rfl rfl) cl_blind (cl_pre hK hP hD [0] (by decide) rfl) hP hD hS hA [0] rfl rfl hl.1 rfl (lv_room (Nat.le_of_ble_eq_true rfl)) dX13_trade_21 ⟨Nat.le_of_ble_eq_true rfl, Nat.le_of_ble_eq_true rfl⟩ ⟨rfl, rfl⟩ (fun _ => updM [0] [1, 2, 3, 4, 5, 6, 7, 8, 9, 10] [(a0 1, .inl (cy 1, 5, .inl (gvm.2.2.2.1))), (a0 2, .inl (cy 1, 5, .inl (gvm.2.2.2.2.1))), (a0 3, .inl (cy 1, 5, .inl (gvm.2.2.2.2.2.1))), (a0 4, .inl (cy 1, 25, .inl (gvm.2.2.2.2.2.2.1))), (a0 5, .inl (cy 1, 10, .inl (gvm.2.2.2.2.2.2.2.1))), (a0 6, .inl (cy 1, 10, .inl (gvm.2.2.2.2.2.2.2.2.1))), (a0 7, .inl (cy 1, 10, .inl (gvm.2.2.2.2.2.2.2.2.2.1))), (a0 8, .inl (cy 1, 10, .inl (gvm.2.2.2.2.2.2.2.2.2.2.1))), (a0 9, .inl (cy 1, 50, .inl (gvm.2.2.2.2.2.2.2.2.2.2.2))), (a0 21, .inl (cy 1, 620, .inl (gla)))] 11 rfl rfl rfl rfl rfl (by decide +kernel) (by decide +kernel) rfl) (fun r u H locs hw hP hD hS => ?_)
    obtain ⟨rfl, rfl⟩ := hw
    have hP : va_P (dC, dI) vwCl (w_X13_trade cy a0 v1.2 gvm gtd gfl grd gnv gac gla grc gim) H := hP
    have hD : va_D A (w_X13_trade cy a0 v1.2 gvm gtd gfl grd gnv gac gla grc gim) := hD
    refine lv_if_eq (tgt := 36) hx hb dX13_trade_24 (by decide) (fun c3 => ?_) (fun c3 => ?_)
    · rw [if_pos c3] at h
      refine lv_iconst (v := (0 : Int32)) hx hb dX13_trade_36 (by decide) ?_
      exact W.iret (v := (0 : Int32)) hx hb hr (fun t ht hW => by rw [hqq]; have hh := Option.some.inj h; exact ⟨⟨(0 : Int32), ((v1.2, gla)), rfl, ⟨fst_of hh, snd_of hh⟩, by rw [ht]; exact hP, va_K.moved hW.alike hK⟩, hS.F ht⟩) hS.2.2 dX13_trade_37
    · rw [if_neg c3] at h
      refine lv_aload_n hx hb dX13_trade_27 rfl (lv_at hl 0 rfl) ?_
      refine lv_iload_n hx hb dX13_trade_28 rfl (lv_at hl 1 rfl) ?_
      refine lv_iconst (v := (2 : Int32)) hx hb dX13_trade_29 (by decide) ?_
      obtain ⟨v4, hv5, h⟩ := ok_bind h
      refine cl_vi (w2 := fun (u : (Int32)) => w_X13_trade cy a0 u gvm gtd gfl grd gnv gac gla grc gim) (As := [.int x1, .int (2 : Int32)]) (rest := []) ⟨hx, hb, hml, hown, hts⟩ (c_X13_isBase l dC dI cy a0 v1.2 gvm gtd gfl grd gnv gac grc gim x1 (2 : Int32) H.size v4 hv5) (cwV 2 hts gX13_trade_X13_isBase rfl rfl rfl (by decide +kernel) ⟨Nat.le_of_ble_eq_true rfl, Nat.le_of_ble_eq_true rfl⟩) (va_recv hK hP (ci := 11) (q0 := 0) rfl rfl) cl_blind (cl_pre hK hP hD [0] (by decide) rfl) hP hD hS hA [0] rfl rfl hl.1 rfl (lv_room (Nat.le_of_ble_eq_true rfl)) dX13_trade_30 ⟨Nat.le_of_ble_eq_true rfl, Nat.le_of_ble_eq_true rfl⟩ ⟨rfl, rfl⟩ (fun _ => updM [0] [1, 2, 3, 4, 5, 6, 7, 8, 9, 10] [(a0 1, .inl (cy 1, 5, .inl (gvm.2.2.2.1))), (a0 2, .inl (cy 1, 5, .inl (gvm.2.2.2.2.1))), (a0 3, .inl (cy 1, 5, .inl (gvm.2.2.2.2.2.1))), (a0 4, .inl (cy 1, 25, .inl (gvm.2.2.2.2.2.2.1))), (a0 5, .inl (cy 1, 10, .inl (gvm.2.2.2.2.2.2.2.1))), (a0 6, .inl (cy 1, 10, .inl (gvm.2.2.2.2.2.2.2.2.1))), (a0 7, .inl (cy 1, 10, .inl (gvm.2.2.2.2.2.2.2.2.2.1))), (a0 8, .inl (cy 1, 10, .inl (gvm.2.2.2.2.2.2.2.2.2.2.1))), (a0 9, .inl (cy 1, 50, .inl (gvm.2.2.2.2.2.2.2.2.2.2.2))), (a0 21, .inl (cy 1, 620, .inl (gla)))] 11 rfl rfl rfl rfl rfl (by decide +kernel) (by decide +kernel) rfl) (fun r u H locs hw hP hD hS => ?_)
      obtain ⟨rfl, rfl⟩ := hw
      have hP : va_P (dC, dI) vwCl (w_X13_trade cy a0 v4.2 gvm gtd gfl grd gnv gac gla grc gim) H := hP
      have hD : va_D A (w_X13_trade cy a0 v4.2 gvm gtd gfl grd gnv gac gla grc gim) := hD
      refine lv_if_ne (tgt := 38) hx hb dX13_trade_33 (by decide) (fun c6 => ?_) (fun c6 => ?_)
      · rw [if_neg c6] at h
        refine lv_aload_n hx hb dX13_trade_38 rfl (lv_at hl 0 rfl) ?_
        obtain ⟨v7, hv8, h⟩ := ok_bind h
        refine cl_vv (w2 := fun (u : ((Nat → Int32))) => w_X13_trade cy a0 v4.2 gvm gtd gfl grd gnv gac u grc gim) (As := []) (rest := []) ⟨hx, hb, hml, hown, hts⟩ (c_X13_lay l dC dI cy a0 v4.2 gvm gtd gfl grd gnv gac gla grc gim H.size v7 hv8) (cwV 0 hts gX13_trade_X13_lay rfl rfl rfl (by decide +kernel) ⟨Nat.le_of_ble_eq_true rfl, Nat.le_of_ble_eq_true rfl⟩) (va_recv hK hP (ci := 11) (q0 := 0) rfl rfl) cl_blind (cl_pre hK hP hD [0, 1, 2, 3, 4, 5, 6, 7, 8, 9, 10] (by decide) rfl) hP hD hS hA [0, 1, 2, 3, 4, 5, 6, 7, 8, 9, 10] rfl rfl hl.1 rfl (lv_room (Nat.le_of_ble_eq_true rfl)) dX13_trade_39 ⟨Nat.le_of_ble_eq_true rfl, Nat.le_of_ble_eq_true rfl⟩ ⟨rfl, rfl⟩ (fun _ => updM [0, 1, 2, 3, 4, 5, 6, 7, 8, 9, 10] [] [] 11 rfl rfl rfl rfl rfl (by decide +kernel) (by decide +kernel) rfl) (fun u H locs hw hP hD hS => ?_)
        have hw := hw.symm
        subst hw
        have hP : va_P (dC, dI) vwCl (w_X13_trade cy a0 v4.2 gvm gtd gfl grd gnv gac v7 grc gim) H := hP
        have hD : va_D A (w_X13_trade cy a0 v4.2 gvm gtd gfl grd gnv gac v7 grc gim) := hD
        refine lv_iconst (v := (0 : Int32)) hx hb dX13_trade_42 (by decide) ?_
        refine lv_istore_n (lv' := [(3, .int (0 : Int32)), (0, .ref (a0 0)), (1, .int x1), (2, .int x2)]) hx hb dX13_trade_43 rfl hl (by decide) rfl (fun ls hl => ?_)
        refine lv_iconst (v := (1 : Int32)) hx hb dX13_trade_44 (by decide) ?_
        refine lv_istore (lv' := [(4, .int (1 : Int32)), (3, .int (0 : Int32)), (0, .ref (a0 0)), (1, .int x1), (2, .int x2)]) hx hb dX13_trade_45 hl (by decide) rfl (fun ls hl => ?_)
        exact c47 fu v4.2 v7 x1 x2 (0 : Int32) (1 : Int32) H locs ls h hP hD hS (lv_sub hl [2, 3, 4, 1, 0] rfl)
      · rw [if_pos c6] at h
        refine lv_iconst (v := (0 : Int32)) hx hb dX13_trade_36 (by decide) ?_
        exact W.iret (v := (0 : Int32)) hx hb hr (fun t ht hW => by rw [hqq]; have hh := Option.some.inj h; exact ⟨⟨(0 : Int32), ((v4.2, gla)), rfl, ⟨fst_of hh, snd_of hh⟩, by rw [ht]; exact hP, va_K.moved hW.alike hK⟩, hS.F ht⟩) hS.2.2 dX13_trade_37
  have c15 : ∀ (_u : Unit), ∀ (gth : Int32) (gla : (Nat → Int32)) (x1 : Int32) (x2 : Int32) (H : Heap) (locs : List Loc) (ls : Array Slot), p_X13_trade_15 gvm gth gla x1 x2 = some R0 → va_P (dC, dI) vwCl (w_X13_trade cy a0 gth gvm gtd gfl grd gnv gac gla grc gim) H → va_D A (w_X13_trade cy a0 gth gvm gtd gfl grd gnv gac gla grc gim) → va_S A s.heap H locs → lv_has ls 5 [(0, .ref (a0 0)), (1, .int x1), (2, .int x2)] → W p l e rm_X13_trade s m aa below meth c H locs 0 0 (MQ below qq aa s 0 0 A) (F0 m 15 ls [.ref (a0 0)]) := by
    intro _ gth gla x1 x2 H locs ls h hP hD hS hl
    unfold p_X13_trade_15 at h
    refine lv_iconst (v := (1 : Int32)) hx hb dX13_trade_15 (by decide) ?_
    refine lv_goto (tgt := 20) hx hb dX13_trade_16 (by decide) ?_
    exact c20 () gth gla x1 x2 (1 : Int32) H locs ls h hP hD hS (lv_sub hl [0, 1, 2] rfl)
  obtain ⟨H, hH⟩ : ∃ H : Heap, H = s.heap := ⟨_, rfl⟩
  obtain ⟨locs, hlocs⟩ : ∃ locs : List Loc, locs = [] := ⟨_, rfl⟩
  have hS : va_S A s.heap H locs := by rw [hH, hlocs]; exact hS
  rw [← hH] at hP
  suffices hg : W p l e rm_X13_trade s m aa below meth c H locs 0 0 (MQ below qq aa s 0 0 A) (F0 m 0 ls []) by subst hH; subst hlocs; exact hg
  unfold p_X13_trade at h
  refine lv_aload_n hx hb dX13_trade_0 rfl (lv_at hl 0 rfl) ?_
  refine lv_iconst (v := (0 : Int32)) hx hb dX13_trade_1 (by decide) ?_
  refine va_put (D := (dC, dI)) (ci := 11) (v := .int (0 : Int32)) (ty := .int) (C := RX13) (T := TX13) (N := 64) hx hb hts in_X13 tyX13 tyX13_ok nmX13 hown hK hP hD hS 0 rfl rfl 0 (by decide) lk0 (fun _ h9 => h9) rfl (by decide +kernel) rfl rfl (Nat.le_of_ble_eq_true rfl) dX13_trade_2 (fun H locs hP hD hS => ?_)
  have hP : va_P (dC, dI) vwCl (w_X13_trade cy a0 ((0 : Int32)) gvm gtd gfl grd gnv gac gla grc gim) H := hP
  have hD : va_D A (w_X13_trade cy a0 ((0 : Int32)) gvm gtd gfl grd gnv gac gla grc gim) := hD
  refine lv_aload_n hx hb dX13_trade_5 rfl (lv_at hl 0 rfl) ?_
  refine lv_iload_n hx hb dX13_trade_6 rfl (lv_at hl 2 rfl) ?_
  refine lv_if_eq (tgt := 15) hx hb dX13_trade_7 (by decide) (fun c1 => ?_) (fun c1 => ?_)
  · rw [if_pos c1] at h
    exact c15 () (0 : Int32) gla x1 x2 H locs ls h hP hD hS (lv_sub hl [0, 1, 2] rfl)
  · rw [if_neg c1] at h
    refine lv_iload_n hx hb dX13_trade_10 rfl (lv_at hl 2 rfl) ?_
    refine lv_iconst (v := (1 : Int32)) hx hb dX13_trade_11 (by decide) ?_
    refine lv_icmp_ne (tgt := 19) hx hb dX13_trade_12 (by decide) (fun c2 => ?_) (fun c2 => ?_)
    · rw [if_neg c2] at h
      refine lv_iconst (v := (0 : Int32)) hx hb dX13_trade_19 (by decide) ?_
      exact c20 () (0 : Int32) gla x1 x2 (0 : Int32) H locs ls h hP hD hS (lv_sub hl [0, 1, 2] rfl)
    · rw [if_pos c2] at h
      exact c15 () (0 : Int32) gla x1 x2 H locs ls h hP hD hS (lv_sub hl [0, 1, 2] rfl)

abbrev w_X13_tax (cy : Nat → ClassId) (a0 : Nat → Nat) (gth : Int32) (gvm : Int32 × Int32 × Int32 × (Nat → Int32) × (Nat → Int32) × (Nat → Int32) × (Nat → Int32) × (Nat → Int32) × (Nat → Int32) × (Nat → Int32) × (Nat → Int32) × (Nat → Int32)) (gtd : Int32) (gfl : Int32 × Int32) (grd : Int32 × Int32 × Int32 × Int32 × Int32 × Int32 × Int64 × (Nat → Int32)) (gnv : Int32 × Int32 × Int32 × Int32 × Int32 × (Nat → Int32) × (Nat → Int32) × (Nat → Int32) × (Nat → Int32) × (Nat → Int32) × (Nat → Int32)) (gac : Int32 × (Nat → Int32) × (Nat → Int32)) (grc : Int32 × (Nat → Int32)) (gim : Int32 × Int32 × Int32 × (Nat → Int32) × (Nat → Int32) × (Nat → Int32) × (Nat → Int32) × (Nat → Int32) × (Nat → Int32) × (Nat → Int32) × (Nat → Int32) × (Nat → Int32)) : va_W := [(a0 0, .inr (11, [.int (gth), .int (gvm.1), .int (gvm.2.1), .int (gvm.2.2.1), .ref (a0 1), .ref (a0 2), .ref (a0 3), .ref (a0 4), .ref (a0 5), .ref (a0 6), .ref (a0 7), .ref (a0 8), .ref (a0 9), .ref (a0 10), .int (gtd), .int (gfl.1), .int (gfl.2), .ref (a0 11), .int (grd.1), .int (grd.2.1), .int (grd.2.2.1), .int (grd.2.2.2.1), .int (grd.2.2.2.2.1), .int (grd.2.2.2.2.2.1), .long (grd.2.2.2.2.2.2.1), .ref (a0 12), .int (gnv.1), .int (gnv.2.1), .int (gnv.2.2.1), .int (gnv.2.2.2.1), .int (gnv.2.2.2.2.1), .ref (a0 13), .ref (a0 14), .ref (a0 15), .ref (a0 16), .ref (a0 17), .ref (a0 18), .int (gac.1), .ref (a0 19), .ref (a0 20), .ref (a0 21), .ref (a0 22), .ref (a0 23), .ref (a0 24), .ref (a0 25), .ref (a0 26), .ref (a0 27), .int (grc.1), .ref (a0 28), .ref (a0 29), .ref (a0 30), .ref (a0 31), .int (gim.1), .int (gim.2.1), .int (gim.2.2.1), .ref (a0 32), .ref (a0 33), .ref (a0 34), .ref (a0 35), .ref (a0 36), .ref (a0 37), .ref (a0 38), .ref (a0 39), .ref (a0 40)])), (a0 1, .inl (cy 1, 5, .inl (gvm.2.2.2.1))), (a0 2, .inl (cy 1, 5, .inl (gvm.2.2.2.2.1))), (a0 3, .inl (cy 1, 5, .inl (gvm.2.2.2.2.2.1))), (a0 4, .inl (cy 1, 25, .inl (gvm.2.2.2.2.2.2.1))), (a0 5, .inl (cy 1, 10, .inl (gvm.2.2.2.2.2.2.2.1))), (a0 6, .inl (cy 1, 10, .inl (gvm.2.2.2.2.2.2.2.2.1))), (a0 7, .inl (cy 1, 10, .inl (gvm.2.2.2.2.2.2.2.2.2.1))), (a0 8, .inl (cy 1, 10, .inl (gvm.2.2.2.2.2.2.2.2.2.2.1))), (a0 9, .inl (cy 1, 50, .inl (gvm.2.2.2.2.2.2.2.2.2.2.2)))]
abbrev rm_X13_tax : Room := { frames := 2, cells := 0, slots := 0, locals := 43 }
set_option maxHeartbeats 1000000 in
set_option maxRecDepth 100000 in
theorem c_X13_tax (l : Launch) (dC : Nat → ClassId) (dI : Nat → Nat → Nat) (cy : Nat → ClassId) (a0 : Nat → Nat) (gth : Int32) (gvm : Int32 × Int32 × Int32 × (Nat → Int32) × (Nat → Int32) × (Nat → Int32) × (Nat → Int32) × (Nat → Int32) × (Nat → Int32) × (Nat → Int32) × (Nat → Int32) × (Nat → Int32)) (gtd : Int32) (gfl : Int32 × Int32) (grd : Int32 × Int32 × Int32 × Int32 × Int32 × Int32 × Int64 × (Nat → Int32)) (gnv : Int32 × Int32 × Int32 × Int32 × Int32 × (Nat → Int32) × (Nat → Int32) × (Nat → Int32) × (Nat → Int32) × (Nat → Int32) × (Nat → Int32)) (gac : Int32 × (Nat → Int32) × (Nat → Int32)) (grc : Int32 × (Nat → Int32)) (gim : Int32 × Int32 × Int32 × (Nat → Int32) × (Nat → Int32) × (Nat → Int32) × (Nat → Int32) × (Nat → Int32) × (Nat → Int32) × (Nat → Int32) × (Nat → Int32) × (Nat → Int32)) (x1 : Int32) (sz : Nat) (R0 : Int32 × (Int32)) (h : p_X13_tax gth gvm x1 = some R0) : Met l yX13_tax wsX13_tax rm_X13_tax (va_Pc [.ref (a0 0), .int x1] (prC dC dI cy (w_X13_tax cy a0 gth gvm gtd gfl grd gnv gac grc gim) sz)) (va_Qi (fun (r : Int32) (u : (Int32)) => r = R0.1 ∧ u = R0.2) (fun (u : (Int32)) t => poC dC dI cy (w_X13_tax cy a0 u gvm gtd gfl grd gnv gac grc gim) t) (va_A (w_X13_tax cy a0 gth gvm gtd gfl grd gnv gac grc gim) sz)) 0 0 (va_A (w_X13_tax cy a0 gth gvm gtd gfl grd gnv gac grc gim) sz) := by
  refine Met.ofW (cc := cX13_tax) (maxL := 2) (ret := (some .int)) (by decide) rfl ?_
  intro p e s m aa below meth c s₁ B hml hv
  obtain ⟨haa, hsz, hP, hK, hD0⟩ := hv
  have hx := B.exec
  have hb := B.bytes
  have hr := B.returns
  have hts := atoms_spec (ws := wsX13_tax) B.pre
  have hown : s.vm.findClass RX13 = some m.cls := findClass_of_methodNamed B.named
  have hlocks := B.notSynchronized
  subst hsz
  have hD := hD0.self (sz := s.heap.size)
  obtain ⟨qq, hqq⟩ : ∃ qq, qq = (va_Qi (fun (r : Int32) (u : (Int32)) => r = R0.1 ∧ u = R0.2) (fun (u : (Int32)) t => poC dC dI cy (w_X13_tax cy a0 u gvm gtd gfl grd gnv gac grc gim) t) (va_A (w_X13_tax cy a0 gth gvm gtd gfl grd gnv gac grc gim) s.heap.size)) := ⟨_, rfl⟩
  rw [← hqq]
  generalize hAe : va_A (w_X13_tax cy a0 gth gvm gtd gfl grd gnv gac grc gim) s.heap.size = A at hD hqq ⊢
  have hA : ∀ q : Nat, s.heap.size ≤ q → A q := fun q h => by rw [← hAe]; exact Or.inr h
  have hS : va_S A s.heap s.heap [] := va_S.rf
  have hl := lv_entry ([.ref (a0 0), .int x1]) (n := 2) (Nat.le_of_ble_eq_true rfl)
  have hE : entryFrame m aa 2 = F0 m 0 ((lg_sl ([.ref (a0 0), .int x1]) ++ List.replicate (2 - (lg_sl ([.ref (a0 0), .int x1])).length) Slot.unset).toArray) [] := by rw [haa]; exact lg_entry_eq m _ 2
  refine W.eq hE ?_
  generalize (lg_sl ([.ref (a0 0), .int x1]) ++ List.replicate (2 - (lg_sl ([.ref (a0 0), .int x1])).length) Slot.unset).toArray = ls at hl ⊢
  have hl : lv_has ls 2 [(0, .ref (a0 0)), (1, .int x1)] := hl
  change W p l e rm_X13_tax s m aa below meth c s.heap [] 0 0 (MQ below qq aa s 0 0 A) (F0 m 0 ls [])
  have hS0 := hS
  have lk0 := hts (.fieldLink RX13 135 "GoatDoorsModel" "thrown" "I") (by decide +kernel)
  have in_X13 : ∀ w ∈ wsX130, w ∈ wsX13_tax := by decide +kernel
  obtain ⟨H, hH⟩ : ∃ H : Heap, H = s.heap := ⟨_, rfl⟩
  obtain ⟨locs, hlocs⟩ : ∃ locs : List Loc, locs = [] := ⟨_, rfl⟩
  have hS : va_S A s.heap H locs := by rw [hH, hlocs]; exact hS
  rw [← hH] at hP
  suffices hg : W p l e rm_X13_tax s m aa below meth c H locs 0 0 (MQ below qq aa s 0 0 A) (F0 m 0 ls []) by subst hH; subst hlocs; exact hg
  unfold p_X13_tax at h
  refine lv_aload_n hx hb dX13_tax_0 rfl (lv_at hl 0 rfl) ?_
  refine lv_iconst (v := (0 : Int32)) hx hb dX13_tax_1 (by decide) ?_
  refine va_put (D := (dC, dI)) (ci := 11) (v := .int (0 : Int32)) (ty := .int) (C := RX13) (T := TX13) (N := 64) hx hb hts in_X13 tyX13 tyX13_ok nmX13 hown hK hP hD hS 0 rfl rfl 0 (by decide) lk0 (fun _ h9 => h9) rfl (by decide +kernel) rfl rfl (Nat.le_of_ble_eq_true rfl) dX13_tax_2 (fun H locs hP hD hS => ?_)
  have hP : va_P (dC, dI) vwCl (w_X13_tax cy a0 ((0 : Int32)) gvm gtd gfl grd gnv gac grc gim) H := hP
  have hD : va_D A (w_X13_tax cy a0 ((0 : Int32)) gvm gtd gfl grd gnv gac grc gim) := hD
  refine lv_aload_n hx hb dX13_tax_5 rfl (lv_at hl 0 rfl) ?_
  refine lv_iload_n hx hb dX13_tax_6 rfl (lv_at hl 1 rfl) ?_
  obtain ⟨v1, hv2, h⟩ := ok_bind h
  refine cl_vi (w2 := fun (u : (Int32)) => w_X13_tax cy a0 u gvm gtd gfl grd gnv gac grc gim) (As := [.int x1]) (rest := []) ⟨hx, hb, hml, hown, hts⟩ (c_X13_isDoor l dC dI cy a0 (0 : Int32) gvm gtd gfl grd gnv gac grc gim x1 H.size v1 hv2) (cwV 1 hts gX13_tax_X13_isDoor rfl rfl rfl (by decide +kernel) ⟨Nat.le_of_ble_eq_true rfl, Nat.le_of_ble_eq_true rfl⟩) (va_recv hK hP (ci := 11) (q0 := 0) rfl rfl) cl_blind (cl_pre hK hP hD [0, 1, 2, 3, 4, 5, 6, 7, 8, 9] (by decide) rfl) hP hD hS hA [0, 1, 2, 3, 4, 5, 6, 7, 8, 9] rfl rfl hl.1 rfl (lv_room (Nat.le_of_ble_eq_true rfl)) dX13_tax_7 ⟨Nat.le_of_ble_eq_true rfl, Nat.le_of_ble_eq_true rfl⟩ ⟨rfl, rfl⟩ (fun _ => updM [0, 1, 2, 3, 4, 5, 6, 7, 8, 9] [] [] 10 rfl rfl rfl rfl rfl (by decide +kernel) (by decide +kernel) rfl) (fun r u H locs hw hP hD hS => ?_)
  obtain ⟨rfl, rfl⟩ := hw
  have hP : va_P (dC, dI) vwCl (w_X13_tax cy a0 v1.2 gvm gtd gfl grd gnv gac grc gim) H := hP
  have hD : va_D A (w_X13_tax cy a0 v1.2 gvm gtd gfl grd gnv gac grc gim) := hD
  refine lv_if_eq (tgt := 29) hx hb dX13_tax_10 (by decide) (fun c3 => ?_) (fun c3 => ?_)
  · rw [if_pos c3] at h
    refine lv_iconst (v := (0 : Int32)) hx hb dX13_tax_29 (by decide) ?_
    exact W.iret (v := (0 : Int32)) hx hb hr (fun t ht hW => by rw [hqq]; have hh := Option.some.inj h; exact ⟨⟨(0 : Int32), (v1.2), rfl, ⟨fst_of hh, snd_of hh⟩, by rw [ht]; exact hP, va_K.moved hW.alike hK⟩, hS.F ht⟩) hS.2.2 dX13_tax_30
  · rw [if_neg c3] at h
    refine lv_aload_n hx hb dX13_tax_13 rfl (lv_at hl 0 rfl) ?_
    refine lv_iload_n hx hb dX13_tax_14 rfl (lv_at hl 1 rfl) ?_
    refine lv_bipush (v := (10 : Int32)) hx hb dX13_tax_15 (by decide) ?_
    obtain ⟨v4, hv5, h⟩ := ok_bind h
    refine cl_vi (w2 := fun (_ : Unit) => w_X13_tax cy a0 v1.2 gvm gtd gfl grd gnv gac grc gim) (As := [.int x1, .int (10 : Int32)]) (rest := []) ⟨hx, hb, hml, hown, hts⟩ (c_X13_worthOf l dC dI cy a0 v1.2 gvm gtd gfl grd gnv gac grc gim x1 (10 : Int32) H.size v4 hv5) (cwV 2 hts gX13_tax_X13_worthOf rfl rfl rfl (by decide +kernel) ⟨Nat.le_of_ble_eq_true rfl, Nat.le_of_ble_eq_true rfl⟩) (va_recv hK hP (ci := 11) (q0 := 0) rfl rfl) cl_blind (cl_pre hK hP hD [0, 1, 2, 3, 4, 5, 6, 7, 8, 9] (by decide) rfl) hP hD hS hA [0, 1, 2, 3, 4, 5, 6, 7, 8, 9] rfl rfl hl.1 rfl (lv_room (Nat.le_of_ble_eq_true rfl)) dX13_tax_17 ⟨Nat.le_of_ble_eq_true rfl, Nat.le_of_ble_eq_true rfl⟩ ⟨rfl, rfl⟩ (fun _ => updR [0, 1, 2, 3, 4, 5, 6, 7, 8, 9] rfl) (fun r u H locs hw hP hD hS => ?_)
    have hw := hw.symm
    subst hw
    have hP : va_P (dC, dI) vwCl (w_X13_tax cy a0 v1.2 gvm gtd gfl grd gnv gac grc gim) H := hP
    have hD : va_D A (w_X13_tax cy a0 v1.2 gvm gtd gfl grd gnv gac grc gim) := hD
    refine lv_bipush (v := (9 : Int32)) hx hb dX13_tax_20 (by decide) ?_
    refine lv_iadd hx hb dX13_tax_22 ?_
    refine lv_bipush (v := (10 : Int32)) hx hb dX13_tax_23 (by decide) ?_
    refine lv_idiv hx hb dX13_tax_25 (by decide) ?_
    refine lv_goto (tgt := 30) hx hb dX13_tax_26 (by decide) ?_
    exact W.iret (v := ((v4 + (9 : Int32)) / (10 : Int32))) hx hb hr (fun t ht hW => by rw [hqq]; have hh := Option.some.inj h; exact ⟨⟨((v4 + (9 : Int32)) / (10 : Int32)), (v1.2), rfl, ⟨fst_of hh, snd_of hh⟩, by rw [ht]; exact hP, va_K.moved hW.alike hK⟩, hS.F ht⟩) hS.2.2 dX13_tax_30
