abbrev w_X13_is (cy : Nat → ClassId) (a0 : Nat → Nat) (gth : Int32) (gvm : Int32 × Int32 × Int32 × (Nat → Int32) × (Nat → Int32) × (Nat → Int32) × (Nat → Int32) × (Nat → Int32) × (Nat → Int32) × (Nat → Int32) × (Nat → Int32) × (Nat → Int32)) (gtd : Int32) (gfl : Int32 × Int32) (grd : Int32 × Int32 × Int32 × Int32 × Int32 × Int32 × Int64 × (Nat → Int32)) (gnv : Int32 × Int32 × Int32 × Int32 × Int32 × (Nat → Int32) × (Nat → Int32) × (Nat → Int32) × (Nat → Int32) × (Nat → Int32) × (Nat → Int32)) (gac : Int32 × (Nat → Int32) × (Nat → Int32)) (grc : Int32 × (Nat → Int32)) (gim : Int32 × Int32 × Int32 × (Nat → Int32) × (Nat → Int32) × (Nat → Int32) × (Nat → Int32) × (Nat → Int32) × (Nat → Int32) × (Nat → Int32) × (Nat → Int32) × (Nat → Int32)) : va_W := [(a0 0, .inr (11, [.int (gth), .int (gvm.1), .int (gvm.2.1), .int (gvm.2.2.1), .ref (a0 1), .ref (a0 2), .ref (a0 3), .ref (a0 4), .ref (a0 5), .ref (a0 6), .ref (a0 7), .ref (a0 8), .ref (a0 9), .ref (a0 10), .int (gtd), .int (gfl.1), .int (gfl.2), .ref (a0 11), .int (grd.1), .int (grd.2.1), .int (grd.2.2.1), .int (grd.2.2.2.1), .int (grd.2.2.2.2.1), .int (grd.2.2.2.2.2.1), .long (grd.2.2.2.2.2.2.1), .ref (a0 12), .int (gnv.1), .int (gnv.2.1), .int (gnv.2.2.1), .int (gnv.2.2.2.1), .int (gnv.2.2.2.2.1), .ref (a0 13), .ref (a0 14), .ref (a0 15), .ref (a0 16), .ref (a0 17), .ref (a0 18), .int (gac.1), .ref (a0 19), .ref (a0 20), .ref (a0 21), .ref (a0 22), .ref (a0 23), .ref (a0 24), .ref (a0 25), .ref (a0 26), .ref (a0 27), .int (grc.1), .ref (a0 28), .ref (a0 29), .ref (a0 30), .ref (a0 31), .int (gim.1), .int (gim.2.1), .int (gim.2.2.1), .ref (a0 32), .ref (a0 33), .ref (a0 34), .ref (a0 35), .ref (a0 36), .ref (a0 37), .ref (a0 38), .ref (a0 39), .ref (a0 40)])), (a0 12, .inl (cy 1, 5, .inl (grd.2.2.2.2.2.2.2)))]
abbrev rm_X13_is : Room := { frames := 2, cells := 0, slots := 0, locals := 49 }
set_option maxHeartbeats 1000000 in
set_option maxRecDepth 100000 in
theorem c_X13_is (l : Launch) (dC : Nat → ClassId) (dI : Nat → Nat → Nat) (cy : Nat → ClassId) (a0 : Nat → Nat) (gth : Int32) (gvm : Int32 × Int32 × Int32 × (Nat → Int32) × (Nat → Int32) × (Nat → Int32) × (Nat → Int32) × (Nat → Int32) × (Nat → Int32) × (Nat → Int32) × (Nat → Int32) × (Nat → Int32)) (gtd : Int32) (gfl : Int32 × Int32) (grd : Int32 × Int32 × Int32 × Int32 × Int32 × Int32 × Int64 × (Nat → Int32)) (gnv : Int32 × Int32 × Int32 × Int32 × Int32 × (Nat → Int32) × (Nat → Int32) × (Nat → Int32) × (Nat → Int32) × (Nat → Int32) × (Nat → Int32)) (gac : Int32 × (Nat → Int32) × (Nat → Int32)) (grc : Int32 × (Nat → Int32)) (gim : Int32 × Int32 × Int32 × (Nat → Int32) × (Nat → Int32) × (Nat → Int32) × (Nat → Int32) × (Nat → Int32) × (Nat → Int32) × (Nat → Int32) × (Nat → Int32) × (Nat → Int32)) (x1 : Int32) (sz : Nat) (R0 : Int32) (h : p_X13_is grd x1 = some R0) : Met l yX13_is wsX13_is rm_X13_is (va_Pc [.ref (a0 0), .int x1] (prC dC dI cy (w_X13_is cy a0 gth gvm gtd gfl grd gnv gac grc gim) sz)) (va_Qi (fun (r : Int32) (_ : Unit) => r = R0) (fun (_ : Unit) t => poC dC dI cy (w_X13_is cy a0 gth gvm gtd gfl grd gnv gac grc gim) t) (va_A (w_X13_is cy a0 gth gvm gtd gfl grd gnv gac grc gim) sz)) 0 0 (va_A (w_X13_is cy a0 gth gvm gtd gfl grd gnv gac grc gim) sz) := by
  refine Met.ofW (cc := cX13_is) (maxL := 2) (ret := (some .boolean)) (by decide) rfl ?_
  intro p e s m aa below meth c s₁ B hml hv
  obtain ⟨haa, hsz, hP, hK, hD0⟩ := hv
  have hx := B.exec
  have hb := B.bytes
  have hr := B.returns
  have hts := atoms_spec (ws := wsX13_is) B.pre
  have hown : s.vm.findClass RX13 = some m.cls := findClass_of_methodNamed B.named
  have hlocks := B.notSynchronized
  subst hsz
  have hD := hD0.self (sz := s.heap.size)
  obtain ⟨qq, hqq⟩ : ∃ qq, qq = (va_Qi (fun (r : Int32) (_ : Unit) => r = R0) (fun (_ : Unit) t => poC dC dI cy (w_X13_is cy a0 gth gvm gtd gfl grd gnv gac grc gim) t) (va_A (w_X13_is cy a0 gth gvm gtd gfl grd gnv gac grc gim) s.heap.size)) := ⟨_, rfl⟩
  rw [← hqq]
  generalize hAe : va_A (w_X13_is cy a0 gth gvm gtd gfl grd gnv gac grc gim) s.heap.size = A at hD hqq ⊢
  have hA : ∀ q : Nat, s.heap.size ≤ q → A q := fun q h => by rw [← hAe]; exact Or.inr h
  have hS : va_S A s.heap s.heap [] := va_S.rf
  have hl := lv_entry ([.ref (a0 0), .int x1]) (n := 2) (Nat.le_of_ble_eq_true rfl)
  have hE : entryFrame m aa 2 = F0 m 0 ((lg_sl ([.ref (a0 0), .int x1]) ++ List.replicate (2 - (lg_sl ([.ref (a0 0), .int x1])).length) Slot.unset).toArray) [] := by rw [haa]; exact lg_entry_eq m _ 2
  refine W.eq hE ?_
  generalize (lg_sl ([.ref (a0 0), .int x1]) ++ List.replicate (2 - (lg_sl ([.ref (a0 0), .int x1])).length) Slot.unset).toArray = ls at hl ⊢
  have hl : lv_has ls 2 [(0, .ref (a0 0)), (1, .int x1)] := hl
  change W p l e rm_X13_is s m aa below meth c s.heap [] 0 0 (MQ below qq aa s 0 0 A) (F0 m 0 ls [])
  have hS0 := hS
  have lk0 := hts (.fieldLink RX13 165 "GoatDoorsModel" "sort" "I") (by decide +kernel)
  have lk1 := hts (.fieldLink RX13 175 "GoatDoorsModel" "long0" "I") (by decide +kernel)
  have lk2 := hts (.fieldLink RX13 158 "GoatDoorsModel" "word" "J") (by decide +kernel)
  have in_X13 : ∀ w ∈ wsX130, w ∈ wsX13_is := by decide +kernel
  obtain ⟨H, hH⟩ : ∃ H : Heap, H = s.heap := ⟨_, rfl⟩
  obtain ⟨locs, hlocs⟩ : ∃ locs : List Loc, locs = [] := ⟨_, rfl⟩
  have hS : va_S A s.heap H locs := by rw [hH, hlocs]; exact hS
  rw [← hH] at hP
  suffices hg : W p l e rm_X13_is s m aa below meth c H locs 0 0 (MQ below qq aa s 0 0 A) (F0 m 0 ls []) by subst hH; subst hlocs; exact hg
  unfold p_X13_is at h
  refine lv_aload_n hx hb dX13_is_0 rfl (lv_at hl 0 rfl) ?_
  refine va_get (D := (dC, dI)) (ci := 11) (v := .int grd.2.2.1) (C := RX13) (T := TX13) (N := 64) hx hb hts in_X13 hown hK hP 0 rfl rfl 20 (by decide) lk0 (fun _ h9 => h9) rfl dX13_is_1 ?_
  refine lv_iconst (v := (1 : Int32)) hx hb dX13_is_4 (by decide) ?_
  refine lv_icmp_ne (tgt := 33) hx hb dX13_is_5 (by decide) (fun c1 => ?_) (fun c1 => ?_)
  · rw [if_neg c1] at h
    refine lv_iconst (v := (0 : Int32)) hx hb dX13_is_33 (by decide) ?_
    exact W.zret (v := (0 : Int32)) (ty := .boolean) hx hb hr rfl (fun t ht hW => by rw [hqq]; have hh := Option.some.inj h; exact ⟨⟨(0 : Int32), (()), rfl, Option.some.inj h, by rw [ht]; exact hP, va_K.moved hW.alike hK⟩, hS.F ht⟩) hS.2.2 dX13_is_34
  · rw [if_pos c1] at h
    refine lv_aload_n hx hb dX13_is_8 rfl (lv_at hl 0 rfl) ?_
    refine va_get (D := (dC, dI)) (ci := 11) (v := .int grd.2.2.2.2.1) (C := RX13) (T := TX13) (N := 64) hx hb hts in_X13 hown hK hP 0 rfl rfl 22 (by decide) lk1 (fun _ h9 => h9) rfl dX13_is_9 ?_
    refine lv_bipush (v := (9 : Int32)) hx hb dX13_is_12 (by decide) ?_
    refine lv_icmp_ge (tgt := 33) hx hb dX13_is_14 (by decide) (fun c2 => ?_) (fun c2 => ?_)
    · rw [if_pos c2] at h
      refine lv_iconst (v := (0 : Int32)) hx hb dX13_is_33 (by decide) ?_
      exact W.zret (v := (0 : Int32)) (ty := .boolean) hx hb hr rfl (fun t ht hW => by rw [hqq]; have hh := Option.some.inj h; exact ⟨⟨(0 : Int32), (()), rfl, Option.some.inj h, by rw [ht]; exact hP, va_K.moved hW.alike hK⟩, hS.F ht⟩) hS.2.2 dX13_is_34
    · rw [if_neg c2] at h
      refine lv_aload_n hx hb dX13_is_17 rfl (lv_at hl 0 rfl) ?_
      refine va_get (D := (dC, dI)) (ci := 11) (v := .long grd.2.2.2.2.2.2.1) (C := RX13) (T := TX13) (N := 64) hx hb hts in_X13 hown hK hP 0 rfl rfl 24 (by decide) lk2 (fun _ h9 => h9) rfl dX13_is_18 ?_
      refine lv_iload_n hx hb dX13_is_21 rfl (lv_at hl 1 rfl) ?_
      obtain ⟨v3, hv4, h⟩ := ok_bind h
      refine cl_sl (w2 := fun (_ : Unit) => w_X13_is cy a0 gth gvm gtd gfl grd gnv gac grc gim) (As := [.int x1]) (rest := [.long grd.2.2.2.2.2.2.1]) ⟨hx, hb, hml, hown, hts⟩ (c_X13_letters l dC dI cy  x1 H.size v3 hv4) (va_cwS 1 hts gX13_is_X13_letters rfl rfl rfl (by decide +kernel) ⟨Nat.le_of_ble_eq_true rfl, Nat.le_of_ble_eq_true rfl⟩) cl_blind (cl_pre hK hP hD [] (by decide) rfl) hP hD hS hA [] rfl rfl hl.1 rfl (lv_room (Nat.le_of_ble_eq_true rfl)) dX13_is_22 ⟨Nat.le_of_ble_eq_true rfl, Nat.le_of_ble_eq_true rfl⟩ ⟨rfl, rfl⟩ (fun _ => updR [] rfl) (fun r u H locs hw hP hD hS => ?_)
      have hw := hw.symm
      subst hw
      have hP : va_P (dC, dI) vwCl (w_X13_is cy a0 gth gvm gtd gfl grd gnv gac grc gim) H := hP
      have hD : va_D A (w_X13_is cy a0 gth gvm gtd gfl grd gnv gac grc gim) := hD
      refine W.lcmp hx hb dX13_is_25 ?_
      refine lv_if_ne (tgt := 33) hx hb dX13_is_26 (by decide) (fun c5 => ?_) (fun c5 => ?_)
      · rw [if_neg c5] at h
        refine lv_iconst (v := (0 : Int32)) hx hb dX13_is_33 (by decide) ?_
        exact W.zret (v := (0 : Int32)) (ty := .boolean) hx hb hr rfl (fun t ht hW => by rw [hqq]; have hh := Option.some.inj h; exact ⟨⟨(0 : Int32), (()), rfl, Option.some.inj h, by rw [ht]; exact hP, va_K.moved hW.alike hK⟩, hS.F ht⟩) hS.2.2 dX13_is_34
      · rw [if_pos c5] at h
        refine lv_iconst (v := (1 : Int32)) hx hb dX13_is_29 (by decide) ?_
        refine lv_goto (tgt := 34) hx hb dX13_is_30 (by decide) ?_
        exact W.zret (v := (1 : Int32)) (ty := .boolean) hx hb hr rfl (fun t ht hW => by rw [hqq]; have hh := Option.some.inj h; exact ⟨⟨(1 : Int32), (()), rfl, Option.some.inj h, by rw [ht]; exact hP, va_K.moved hW.alike hK⟩, hS.F ht⟩) hS.2.2 dX13_is_34

abbrev w_X13_wrong (cy : Nat → ClassId) (a0 : Nat → Nat) (gth : Int32) (gvm : Int32 × Int32 × Int32 × (Nat → Int32) × (Nat → Int32) × (Nat → Int32) × (Nat → Int32) × (Nat → Int32) × (Nat → Int32) × (Nat → Int32) × (Nat → Int32) × (Nat → Int32)) (gtd : Int32) (gfl : Int32 × Int32) (grd : Int32 × Int32 × Int32 × Int32 × Int32 × Int32 × Int64 × (Nat → Int32)) (gnv : Int32 × Int32 × Int32 × Int32 × Int32 × (Nat → Int32) × (Nat → Int32) × (Nat → Int32) × (Nat → Int32) × (Nat → Int32) × (Nat → Int32)) (gac : Int32 × (Nat → Int32) × (Nat → Int32)) (grc : Int32 × (Nat → Int32)) (gim : Int32 × Int32 × Int32 × (Nat → Int32) × (Nat → Int32) × (Nat → Int32) × (Nat → Int32) × (Nat → Int32) × (Nat → Int32) × (Nat → Int32) × (Nat → Int32) × (Nat → Int32)) : va_W := [(a0 0, .inr (11, [.int (gth), .int (gvm.1), .int (gvm.2.1), .int (gvm.2.2.1), .ref (a0 1), .ref (a0 2), .ref (a0 3), .ref (a0 4), .ref (a0 5), .ref (a0 6), .ref (a0 7), .ref (a0 8), .ref (a0 9), .ref (a0 10), .int (gtd), .int (gfl.1), .int (gfl.2), .ref (a0 11), .int (grd.1), .int (grd.2.1), .int (grd.2.2.1), .int (grd.2.2.2.1), .int (grd.2.2.2.2.1), .int (grd.2.2.2.2.2.1), .long (grd.2.2.2.2.2.2.1), .ref (a0 12), .int (gnv.1), .int (gnv.2.1), .int (gnv.2.2.1), .int (gnv.2.2.2.1), .int (gnv.2.2.2.2.1), .ref (a0 13), .ref (a0 14), .ref (a0 15), .ref (a0 16), .ref (a0 17), .ref (a0 18), .int (gac.1), .ref (a0 19), .ref (a0 20), .ref (a0 21), .ref (a0 22), .ref (a0 23), .ref (a0 24), .ref (a0 25), .ref (a0 26), .ref (a0 27), .int (grc.1), .ref (a0 28), .ref (a0 29), .ref (a0 30), .ref (a0 31), .int (gim.1), .int (gim.2.1), .int (gim.2.2.1), .ref (a0 32), .ref (a0 33), .ref (a0 34), .ref (a0 35), .ref (a0 36), .ref (a0 37), .ref (a0 38), .ref (a0 39), .ref (a0 40)])), (a0 12, .inl (cy 1, 5, .inl (grd.2.2.2.2.2.2.2)))]
abbrev rm_X13_wrong : Room := { frames := 0, cells := 0, slots := 0, locals := 0 }
set_option maxHeartbeats 1000000 in
set_option maxRecDepth 100000 in
theorem c_X13_wrong (l : Launch) (dC : Nat → ClassId) (dI : Nat → Nat → Nat) (cy : Nat → ClassId) (a0 : Nat → Nat) (gth : Int32) (gvm : Int32 × Int32 × Int32 × (Nat → Int32) × (Nat → Int32) × (Nat → Int32) × (Nat → Int32) × (Nat → Int32) × (Nat → Int32) × (Nat → Int32) × (Nat → Int32) × (Nat → Int32)) (gtd : Int32) (gfl : Int32 × Int32) (grd : Int32 × Int32 × Int32 × Int32 × Int32 × Int32 × Int64 × (Nat → Int32)) (gnv : Int32 × Int32 × Int32 × Int32 × Int32 × (Nat → Int32) × (Nat → Int32) × (Nat → Int32) × (Nat → Int32) × (Nat → Int32) × (Nat → Int32)) (gac : Int32 × (Nat → Int32) × (Nat → Int32)) (grc : Int32 × (Nat → Int32)) (gim : Int32 × Int32 × Int32 × (Nat → Int32) × (Nat → Int32) × (Nat → Int32) × (Nat → Int32) × (Nat → Int32) × (Nat → Int32) × (Nat → Int32) × (Nat → Int32) × (Nat → Int32)) (x1 : Int32) (sz : Nat) (R0 : (Int32 × Int32)) (h : p_X13_wrong gfl grd x1 = some R0) : Met l yX13_wrong wsX13_wrong rm_X13_wrong (va_Pc [.ref (a0 0), .int x1] (prC dC dI cy (w_X13_wrong cy a0 gth gvm gtd gfl grd gnv gac grc gim) sz)) (va_Qv (fun (u : (Int32 × Int32)) => u = R0) (fun (u : (Int32 × Int32)) t => poC dC dI cy (w_X13_wrong cy a0 gth gvm gtd u grd gnv gac grc gim) t) (va_A (w_X13_wrong cy a0 gth gvm gtd gfl grd gnv gac grc gim) sz)) 0 0 (va_A (w_X13_wrong cy a0 gth gvm gtd gfl grd gnv gac grc gim) sz) := by
  refine Met.ofW (cc := cX13_wrong) (maxL := 2) (ret := none) (by decide) rfl ?_
  intro p e s m aa below meth c s₁ B hml hv
  obtain ⟨haa, hsz, hP, hK, hD0⟩ := hv
  have hx := B.exec
  have hb := B.bytes
  have hr := B.returns
  have hts := atoms_spec (ws := wsX13_wrong) B.pre
  have hown : s.vm.findClass RX13 = some m.cls := findClass_of_methodNamed B.named
  have hlocks := B.notSynchronized
  subst hsz
  have hD := hD0.self (sz := s.heap.size)
  obtain ⟨qq, hqq⟩ : ∃ qq, qq = (va_Qv (fun (u : (Int32 × Int32)) => u = R0) (fun (u : (Int32 × Int32)) t => poC dC dI cy (w_X13_wrong cy a0 gth gvm gtd u grd gnv gac grc gim) t) (va_A (w_X13_wrong cy a0 gth gvm gtd gfl grd gnv gac grc gim) s.heap.size)) := ⟨_, rfl⟩
  rw [← hqq]
  generalize hAe : va_A (w_X13_wrong cy a0 gth gvm gtd gfl grd gnv gac grc gim) s.heap.size = A at hD hqq ⊢
  have hA : ∀ q : Nat, s.heap.size ≤ q → A q := fun q h => by rw [← hAe]; exact Or.inr h
  have hS : va_S A s.heap s.heap [] := va_S.rf
  have hl := lv_entry ([.ref (a0 0), .int x1]) (n := 2) (Nat.le_of_ble_eq_true rfl)
  have hE : entryFrame m aa 2 = F0 m 0 ((lg_sl ([.ref (a0 0), .int x1]) ++ List.replicate (2 - (lg_sl ([.ref (a0 0), .int x1])).length) Slot.unset).toArray) [] := by rw [haa]; exact lg_entry_eq m _ 2
  refine W.eq hE ?_
  generalize (lg_sl ([.ref (a0 0), .int x1]) ++ List.replicate (2 - (lg_sl ([.ref (a0 0), .int x1])).length) Slot.unset).toArray = ls at hl ⊢
  have hl : lv_has ls 2 [(0, .ref (a0 0)), (1, .int x1)] := hl
  change W p l e rm_X13_wrong s m aa below meth c s.heap [] 0 0 (MQ below qq aa s 0 0 A) (F0 m 0 ls [])
  have hS0 := hS
  have lk0 := hts (.fieldLink RX13 188 "GoatDoorsModel" "faultKind" "I") (by decide +kernel)
  have lk1 := hts (.fieldLink RX13 155 "GoatDoorsModel" "place" "I") (by decide +kernel)
  have lk2 := hts (.fieldLink RX13 40 "GoatDoorsModel" "faultPlace" "I") (by decide +kernel)
  have in_X13 : ∀ w ∈ wsX130, w ∈ wsX13_wrong := by decide +kernel
  obtain ⟨H, hH⟩ : ∃ H : Heap, H = s.heap := ⟨_, rfl⟩
  obtain ⟨locs, hlocs⟩ : ∃ locs : List Loc, locs = [] := ⟨_, rfl⟩
  have hS : va_S A s.heap H locs := by rw [hH, hlocs]; exact hS
  rw [← hH] at hP
  suffices hg : W p l e rm_X13_wrong s m aa below meth c H locs 0 0 (MQ below qq aa s 0 0 A) (F0 m 0 ls []) by subst hH; subst hlocs; exact hg
  unfold p_X13_wrong at h
  refine lv_aload_n hx hb dX13_wrong_0 rfl (lv_at hl 0 rfl) ?_
  refine va_get (D := (dC, dI)) (ci := 11) (v := .int gfl.1) (C := RX13) (T := TX13) (N := 64) hx hb hts in_X13 hown hK hP 0 rfl rfl 15 (by decide) lk0 (fun _ h9 => h9) rfl dX13_wrong_1 ?_
  refine lv_if_eq (tgt := 8) hx hb dX13_wrong_4 (by decide) (fun c1 => ?_) (fun c1 => ?_)
  · rw [if_pos c1] at h
    refine lv_aload_n hx hb dX13_wrong_8 rfl (lv_at hl 0 rfl) ?_
    refine lv_iload_n hx hb dX13_wrong_9 rfl (lv_at hl 1 rfl) ?_
    refine va_put (D := (dC, dI)) (ci := 11) (v := .int x1) (ty := .int) (C := RX13) (T := TX13) (N := 64) hx hb hts in_X13 tyX13 tyX13_ok nmX13 hown hK hP hD hS 0 rfl rfl 15 (by decide) lk0 (fun _ h9 => h9) rfl (by decide +kernel) rfl rfl (Nat.le_of_ble_eq_true rfl) dX13_wrong_10 (fun H locs hP hD hS => ?_)
    have hP : va_P (dC, dI) vwCl (w_X13_wrong cy a0 gth gvm gtd ((x1, gfl.2)) grd gnv gac grc gim) H := hP
    have hD : va_D A (w_X13_wrong cy a0 gth gvm gtd ((x1, gfl.2)) grd gnv gac grc gim) := hD
    refine lv_aload_n hx hb dX13_wrong_13 rfl (lv_at hl 0 rfl) ?_
    refine lv_aload_n hx hb dX13_wrong_14 rfl (lv_at hl 0 rfl) ?_
    refine va_get (D := (dC, dI)) (ci := 11) (v := .int grd.2.2.2.1) (C := RX13) (T := TX13) (N := 64) hx hb hts in_X13 hown hK hP 0 rfl rfl 21 (by decide) lk1 (fun _ h9 => h9) rfl dX13_wrong_15 ?_
    refine va_put (D := (dC, dI)) (ci := 11) (v := .int grd.2.2.2.1) (ty := .int) (C := RX13) (T := TX13) (N := 64) hx hb hts in_X13 tyX13 tyX13_ok nmX13 hown hK hP hD hS 0 rfl rfl 16 (by decide) lk2 (fun _ h9 => h9) rfl (by decide +kernel) rfl rfl (Nat.le_of_ble_eq_true rfl) dX13_wrong_18 (fun H locs hP hD hS => ?_)
    have hP : va_P (dC, dI) vwCl (w_X13_wrong cy a0 gth gvm gtd ((x1, grd.2.2.2.1)) grd gnv gac grc gim) H := hP
    have hD : va_D A (w_X13_wrong cy a0 gth gvm gtd ((x1, grd.2.2.2.1)) grd gnv gac grc gim) := hD
    exact W.vret hx hb hr (fun t ht hW => by rw [hqq]; have hh := Option.some.inj h; exact ⟨⟨((x1, grd.2.2.2.1)), rfl, Option.some.inj h, by rw [ht]; exact hP, va_K.moved hW.alike hK⟩, hS.F ht⟩) hS.2.2 dX13_wrong_21
  · rw [if_neg c1] at h
    exact W.vret hx hb hr (fun t ht hW => by rw [hqq]; have hh := Option.some.inj h; exact ⟨⟨(gfl), rfl, Option.some.inj h, by rw [ht]; exact hP, va_K.moved hW.alike hK⟩, hS.F ht⟩) hS.2.2 dX13_wrong_7

abbrev w_X13_isGood (cy : Nat → ClassId) (a0 : Nat → Nat) (gth : Int32) (gvm : Int32 × Int32 × Int32 × (Nat → Int32) × (Nat → Int32) × (Nat → Int32) × (Nat → Int32) × (Nat → Int32) × (Nat → Int32) × (Nat → Int32) × (Nat → Int32) × (Nat → Int32)) (gtd : Int32) (gfl : Int32 × Int32) (grd : Int32 × Int32 × Int32 × Int32 × Int32 × Int32 × Int64 × (Nat → Int32)) (gnv : Int32 × Int32 × Int32 × Int32 × Int32 × (Nat → Int32) × (Nat → Int32) × (Nat → Int32) × (Nat → Int32) × (Nat → Int32) × (Nat → Int32)) (gac : Int32 × (Nat → Int32) × (Nat → Int32)) (grc : Int32 × (Nat → Int32)) (gim : Int32 × Int32 × Int32 × (Nat → Int32) × (Nat → Int32) × (Nat → Int32) × (Nat → Int32) × (Nat → Int32) × (Nat → Int32) × (Nat → Int32) × (Nat → Int32) × (Nat → Int32)) : va_W := [(a0 0, .inr (11, [.int (gth), .int (gvm.1), .int (gvm.2.1), .int (gvm.2.2.1), .ref (a0 1), .ref (a0 2), .ref (a0 3), .ref (a0 4), .ref (a0 5), .ref (a0 6), .ref (a0 7), .ref (a0 8), .ref (a0 9), .ref (a0 10), .int (gtd), .int (gfl.1), .int (gfl.2), .ref (a0 11), .int (grd.1), .int (grd.2.1), .int (grd.2.2.1), .int (grd.2.2.2.1), .int (grd.2.2.2.2.1), .int (grd.2.2.2.2.2.1), .long (grd.2.2.2.2.2.2.1), .ref (a0 12), .int (gnv.1), .int (gnv.2.1), .int (gnv.2.2.1), .int (gnv.2.2.2.1), .int (gnv.2.2.2.2.1), .ref (a0 13), .ref (a0 14), .ref (a0 15), .ref (a0 16), .ref (a0 17), .ref (a0 18), .int (gac.1), .ref (a0 19), .ref (a0 20), .ref (a0 21), .ref (a0 22), .ref (a0 23), .ref (a0 24), .ref (a0 25), .ref (a0 26), .ref (a0 27), .int (grc.1), .ref (a0 28), .ref (a0 29), .ref (a0 30), .ref (a0 31), .int (gim.1), .int (gim.2.1), .int (gim.2.2.1), .ref (a0 32), .ref (a0 33), .ref (a0 34), .ref (a0 35), .ref (a0 36), .ref (a0 37), .ref (a0 38), .ref (a0 39), .ref (a0 40)]))]
abbrev rm_X13_isGood : Room := { frames := 0, cells := 0, slots := 0, locals := 0 }
set_option maxHeartbeats 1000000 in
set_option maxRecDepth 100000 in
theorem c_X13_isGood (l : Launch) (dC : Nat → ClassId) (dI : Nat → Nat → Nat) (cy : Nat → ClassId) (a0 : Nat → Nat) (gth : Int32) (gvm : Int32 × Int32 × Int32 × (Nat → Int32) × (Nat → Int32) × (Nat → Int32) × (Nat → Int32) × (Nat → Int32) × (Nat → Int32) × (Nat → Int32) × (Nat → Int32) × (Nat → Int32)) (gtd : Int32) (gfl : Int32 × Int32) (grd : Int32 × Int32 × Int32 × Int32 × Int32 × Int32 × Int64 × (Nat → Int32)) (gnv : Int32 × Int32 × Int32 × Int32 × Int32 × (Nat → Int32) × (Nat → Int32) × (Nat → Int32) × (Nat → Int32) × (Nat → Int32) × (Nat → Int32)) (gac : Int32 × (Nat → Int32) × (Nat → Int32)) (grc : Int32 × (Nat → Int32)) (gim : Int32 × Int32 × Int32 × (Nat → Int32) × (Nat → Int32) × (Nat → Int32) × (Nat → Int32) × (Nat → Int32) × (Nat → Int32) × (Nat → Int32) × (Nat → Int32) × (Nat → Int32)) (sz : Nat) (R0 : Int32) (h : p_X13_isGood gfl = some R0) : Met l yX13_isGood wsX13_isGood rm_X13_isGood (va_Pc [.ref (a0 0)] (prC dC dI cy (w_X13_isGood cy a0 gth gvm gtd gfl grd gnv gac grc gim) sz)) (va_Qi (fun (r : Int32) (_ : Unit) => r = R0) (fun (_ : Unit) t => poC dC dI cy (w_X13_isGood cy a0 gth gvm gtd gfl grd gnv gac grc gim) t) (va_A (w_X13_isGood cy a0 gth gvm gtd gfl grd gnv gac grc gim) sz)) 0 0 (va_A (w_X13_isGood cy a0 gth gvm gtd gfl grd gnv gac grc gim) sz) := by
  refine Met.ofW (cc := cX13_isGood) (maxL := 1) (ret := (some .boolean)) (by decide) rfl ?_
  intro p e s m aa below meth c s₁ B hml hv
  obtain ⟨haa, hsz, hP, hK, hD0⟩ := hv
  have hx := B.exec
  have hb := B.bytes
  have hr := B.returns
  have hts := atoms_spec (ws := wsX13_isGood) B.pre
  have hown : s.vm.findClass RX13 = some m.cls := findClass_of_methodNamed B.named
  have hlocks := B.notSynchronized
  subst hsz
  have hD := hD0.self (sz := s.heap.size)
  obtain ⟨qq, hqq⟩ : ∃ qq, qq = (va_Qi (fun (r : Int32) (_ : Unit) => r = R0) (fun (_ : Unit) t => poC dC dI cy (w_X13_isGood cy a0 gth gvm gtd gfl grd gnv gac grc gim) t) (va_A (w_X13_isGood cy a0 gth gvm gtd gfl grd gnv gac grc gim) s.heap.size)) := ⟨_, rfl⟩
  rw [← hqq]
  generalize hAe : va_A (w_X13_isGood cy a0 gth gvm gtd gfl grd gnv gac grc gim) s.heap.size = A at hD hqq ⊢
  have hA : ∀ q : Nat, s.heap.size ≤ q → A q := fun q h => by rw [← hAe]; exact Or.inr h
  have hS : va_S A s.heap s.heap [] := va_S.rf
  have hl := lv_entry ([.ref (a0 0)]) (n := 1) (Nat.le_of_ble_eq_true rfl)
  have hE : entryFrame m aa 1 = F0 m 0 ((lg_sl ([.ref (a0 0)]) ++ List.replicate (1 - (lg_sl ([.ref (a0 0)])).length) Slot.unset).toArray) [] := by rw [haa]; exact lg_entry_eq m _ 1
  refine W.eq hE ?_
  generalize (lg_sl ([.ref (a0 0)]) ++ List.replicate (1 - (lg_sl ([.ref (a0 0)])).length) Slot.unset).toArray = ls at hl ⊢
  have hl : lv_has ls 1 [(0, .ref (a0 0))] := hl
  change W p l e rm_X13_isGood s m aa below meth c s.heap [] 0 0 (MQ below qq aa s 0 0 A) (F0 m 0 ls [])
  have hS0 := hS
  have lk0 := hts (.fieldLink RX13 188 "GoatDoorsModel" "faultKind" "I") (by decide +kernel)
  have in_X13 : ∀ w ∈ wsX130, w ∈ wsX13_isGood := by decide +kernel
  obtain ⟨H, hH⟩ : ∃ H : Heap, H = s.heap := ⟨_, rfl⟩
  obtain ⟨locs, hlocs⟩ : ∃ locs : List Loc, locs = [] := ⟨_, rfl⟩
  have hS : va_S A s.heap H locs := by rw [hH, hlocs]; exact hS
  rw [← hH] at hP
  suffices hg : W p l e rm_X13_isGood s m aa below meth c H locs 0 0 (MQ below qq aa s 0 0 A) (F0 m 0 ls []) by subst hH; subst hlocs; exact hg
  unfold p_X13_isGood at h
  refine lv_aload_n hx hb dX13_isGood_0 rfl (lv_at hl 0 rfl) ?_
  refine va_get (D := (dC, dI)) (ci := 11) (v := .int gfl.1) (C := RX13) (T := TX13) (N := 64) hx hb hts in_X13 hown hK hP 0 rfl rfl 15 (by decide) lk0 (fun _ h9 => h9) rfl dX13_isGood_1 ?_
  refine lv_if_ne (tgt := 11) hx hb dX13_isGood_4 (by decide) (fun c1 => ?_) (fun c1 => ?_)
  · rw [if_neg c1] at h
    refine lv_iconst (v := (0 : Int32)) hx hb dX13_isGood_11 (by decide) ?_
    exact W.zret (v := (0 : Int32)) (ty := .boolean) hx hb hr rfl (fun t ht hW => by rw [hqq]; have hh := Option.some.inj h; exact ⟨⟨(0 : Int32), (()), rfl, Option.some.inj h, by rw [ht]; exact hP, va_K.moved hW.alike hK⟩, hS.F ht⟩) hS.2.2 dX13_isGood_12
  · rw [if_pos c1] at h
    refine lv_iconst (v := (1 : Int32)) hx hb dX13_isGood_7 (by decide) ?_
    refine lv_goto (tgt := 12) hx hb dX13_isGood_8 (by decide) ?_
    exact W.zret (v := (1 : Int32)) (ty := .boolean) hx hb hr rfl (fun t ht hW => by rw [hqq]; have hh := Option.some.inj h; exact ⟨⟨(1 : Int32), (()), rfl, Option.some.inj h, by rw [ht]; exact hP, va_K.moved hW.alike hK⟩, hS.F ht⟩) hS.2.2 dX13_isGood_12

abbrev w_X13_need (cy : Nat → ClassId) (a0 : Nat → Nat) (gth : Int32) (gvm : Int32 × Int32 × Int32 × (Nat → Int32) × (Nat → Int32) × (Nat → Int32) × (Nat → Int32) × (Nat → Int32) × (Nat → Int32) × (Nat → Int32) × (Nat → Int32) × (Nat → Int32)) (gtt : (Nat → Int32)) (gtd : Int32) (gfl : Int32 × Int32) (grd : Int32 × Int32 × Int32 × Int32 × Int32 × Int32 × Int64 × (Nat → Int32)) (gnv : Int32 × Int32 × Int32 × Int32 × Int32 × (Nat → Int32) × (Nat → Int32) × (Nat → Int32) × (Nat → Int32) × (Nat → Int32) × (Nat → Int32)) (gac : Int32 × (Nat → Int32) × (Nat → Int32)) (grc : Int32 × (Nat → Int32)) (gim : Int32 × Int32 × Int32 × (Nat → Int32) × (Nat → Int32) × (Nat → Int32) × (Nat → Int32) × (Nat → Int32) × (Nat → Int32) × (Nat → Int32) × (Nat → Int32) × (Nat → Int32)) : va_W := [(a0 0, .inr (11, [.int (gth), .int (gvm.1), .int (gvm.2.1), .int (gvm.2.2.1), .ref (a0 1), .ref (a0 2), .ref (a0 3), .ref (a0 4), .ref (a0 5), .ref (a0 6), .ref (a0 7), .ref (a0 8), .ref (a0 9), .ref (a0 10), .int (gtd), .int (gfl.1), .int (gfl.2), .ref (a0 11), .int (grd.1), .int (grd.2.1), .int (grd.2.2.1), .int (grd.2.2.2.1), .int (grd.2.2.2.2.1), .int (grd.2.2.2.2.2.1), .long (grd.2.2.2.2.2.2.1), .ref (a0 12), .int (gnv.1), .int (gnv.2.1), .int (gnv.2.2.1), .int (gnv.2.2.2.1), .int (gnv.2.2.2.2.1), .ref (a0 13), .ref (a0 14), .ref (a0 15), .ref (a0 16), .ref (a0 17), .ref (a0 18), .int (gac.1), .ref (a0 19), .ref (a0 20), .ref (a0 21), .ref (a0 22), .ref (a0 23), .ref (a0 24), .ref (a0 25), .ref (a0 26), .ref (a0 27), .int (grc.1), .ref (a0 28), .ref (a0 29), .ref (a0 30), .ref (a0 31), .int (gim.1), .int (gim.2.1), .int (gim.2.2.1), .ref (a0 32), .ref (a0 33), .ref (a0 34), .ref (a0 35), .ref (a0 36), .ref (a0 37), .ref (a0 38), .ref (a0 39), .ref (a0 40)])), (a0 10, .inl (cy 1, 600, .inl (gtt))), (a0 12, .inl (cy 1, 5, .inl (grd.2.2.2.2.2.2.2)))]
abbrev rm_X13_need : Room := { frames := 2, cells := 0, slots := 0, locals := 43 }
set_option maxHeartbeats 1000000 in
set_option maxRecDepth 100000 in
theorem c_X13_need (l : Launch) (dC : Nat → ClassId) (dI : Nat → Nat → Nat) (cy : Nat → ClassId) (a0 : Nat → Nat) (gth : Int32) (gvm : Int32 × Int32 × Int32 × (Nat → Int32) × (Nat → Int32) × (Nat → Int32) × (Nat → Int32) × (Nat → Int32) × (Nat → Int32) × (Nat → Int32) × (Nat → Int32) × (Nat → Int32)) (gtt : (Nat → Int32)) (gtd : Int32) (gfl : Int32 × Int32) (grd : Int32 × Int32 × Int32 × Int32 × Int32 × Int32 × Int64 × (Nat → Int32)) (gnv : Int32 × Int32 × Int32 × Int32 × Int32 × (Nat → Int32) × (Nat → Int32) × (Nat → Int32) × (Nat → Int32) × (Nat → Int32) × (Nat → Int32)) (gac : Int32 × (Nat → Int32) × (Nat → Int32)) (grc : Int32 × (Nat → Int32)) (gim : Int32 × Int32 × Int32 × (Nat → Int32) × (Nat → Int32) × (Nat → Int32) × (Nat → Int32) × (Nat → Int32) × (Nat → Int32) × (Nat → Int32) × (Nat → Int32) × (Nat → Int32)) (x1 : Int32) (sz : Nat) (R0 : (Int32 × Int32) × (Int32 × Int32 × Int32 × Int32 × Int32 × Int32 × Int64 × (Nat → Int32))) (h : p_X13_need gtt gfl grd x1 = some R0) : Met l yX13_need wsX13_need rm_X13_need (va_Pc [.ref (a0 0), .int x1] (prC dC dI cy (w_X13_need cy a0 gth gvm gtt gtd gfl grd gnv gac grc gim) sz)) (va_Qv (fun (u : (Int32 × Int32) × (Int32 × Int32 × Int32 × Int32 × Int32 × Int32 × Int64 × (Nat → Int32))) => u = R0) (fun (u : (Int32 × Int32) × (Int32 × Int32 × Int32 × Int32 × Int32 × Int32 × Int64 × (Nat → Int32))) t => poC dC dI cy (w_X13_need cy a0 gth gvm gtt gtd u.1 u.2 gnv gac grc gim) t) (va_A (w_X13_need cy a0 gth gvm gtt gtd gfl grd gnv gac grc gim) sz)) 0 0 (va_A (w_X13_need cy a0 gth gvm gtt gtd gfl grd gnv gac grc gim) sz) := by
  refine Met.ofW (cc := cX13_need) (maxL := 2) (ret := none) (by decide) rfl ?_
  intro p e s m aa below meth c s₁ B hml hv
  obtain ⟨haa, hsz, hP, hK, hD0⟩ := hv
  have hx := B.exec
  have hb := B.bytes
  have hr := B.returns
  have hts := atoms_spec (ws := wsX13_need) B.pre
  have hown : s.vm.findClass RX13 = some m.cls := findClass_of_methodNamed B.named
  have hlocks := B.notSynchronized
  subst hsz
  have hD := hD0.self (sz := s.heap.size)
  obtain ⟨qq, hqq⟩ : ∃ qq, qq = (va_Qv (fun (u : (Int32 × Int32) × (Int32 × Int32 × Int32 × Int32 × Int32 × Int32 × Int64 × (Nat → Int32))) => u = R0) (fun (u : (Int32 × Int32) × (Int32 × Int32 × Int32 × Int32 × Int32 × Int32 × Int64 × (Nat → Int32))) t => poC dC dI cy (w_X13_need cy a0 gth gvm gtt gtd u.1 u.2 gnv gac grc gim) t) (va_A (w_X13_need cy a0 gth gvm gtt gtd gfl grd gnv gac grc gim) s.heap.size)) := ⟨_, rfl⟩
  rw [← hqq]
  generalize hAe : va_A (w_X13_need cy a0 gth gvm gtt gtd gfl grd gnv gac grc gim) s.heap.size = A at hD hqq ⊢
  have hA : ∀ q : Nat, s.heap.size ≤ q → A q := fun q h => by rw [← hAe]; exact Or.inr h
  have hS : va_S A s.heap s.heap [] := va_S.rf
  have hl := lv_entry ([.ref (a0 0), .int x1]) (n := 2) (Nat.le_of_ble_eq_true rfl)
  have hE : entryFrame m aa 2 = F0 m 0 ((lg_sl ([.ref (a0 0), .int x1]) ++ List.replicate (2 - (lg_sl ([.ref (a0 0), .int x1])).length) Slot.unset).toArray) [] := by rw [haa]; exact lg_entry_eq m _ 2
  refine W.eq hE ?_
  generalize (lg_sl ([.ref (a0 0), .int x1]) ++ List.replicate (2 - (lg_sl ([.ref (a0 0), .int x1])).length) Slot.unset).toArray = ls at hl ⊢
  have hl : lv_has ls 2 [(0, .ref (a0 0)), (1, .int x1)] := hl
  change W p l e rm_X13_need s m aa below meth c s.heap [] 0 0 (MQ below qq aa s 0 0 A) (F0 m 0 ls [])
  have hS0 := hS
  obtain ⟨H, hH⟩ : ∃ H : Heap, H = s.heap := ⟨_, rfl⟩
  obtain ⟨locs, hlocs⟩ : ∃ locs : List Loc, locs = [] := ⟨_, rfl⟩
  have hS : va_S A s.heap H locs := by rw [hH, hlocs]; exact hS
  rw [← hH] at hP
  suffices hg : W p l e rm_X13_need s m aa below meth c H locs 0 0 (MQ below qq aa s 0 0 A) (F0 m 0 ls []) by subst hH; subst hlocs; exact hg
  unfold p_X13_need at h
  refine lv_aload_n hx hb dX13_need_0 rfl (lv_at hl 0 rfl) ?_
  obtain ⟨v1, hv2, h⟩ := ok_bind h
  refine cl_vi (w2 := fun (_ : Unit) => w_X13_need cy a0 gth gvm gtt gtd gfl grd gnv gac grc gim) (As := []) (rest := []) ⟨hx, hb, hml, hown, hts⟩ (c_X13_isGood l dC dI cy a0 gth gvm gtd gfl grd gnv gac grc gim H.size v1 hv2) (cwV 0 hts gX13_need_X13_isGood rfl rfl rfl (by decide +kernel) ⟨Nat.le_of_ble_eq_true rfl, Nat.le_of_ble_eq_true rfl⟩) (va_recv hK hP (ci := 11) (q0 := 0) rfl rfl) cl_blind (cl_pre hK hP hD [0] (by decide) rfl) hP hD hS hA [0] rfl rfl hl.1 rfl (lv_room (Nat.le_of_ble_eq_true rfl)) dX13_need_1 ⟨Nat.le_of_ble_eq_true rfl, Nat.le_of_ble_eq_true rfl⟩ ⟨rfl, rfl⟩ (fun _ => updR [0] rfl) (fun r u H locs hw hP hD hS => ?_)
  have hw := hw.symm
  subst hw
  have hP : va_P (dC, dI) vwCl (w_X13_need cy a0 gth gvm gtt gtd gfl grd gnv gac grc gim) H := hP
  have hD : va_D A (w_X13_need cy a0 gth gvm gtt gtd gfl grd gnv gac grc gim) := hD
  refine lv_if_ne (tgt := 8) hx hb dX13_need_4 (by decide) (fun c3 => ?_) (fun c3 => ?_)
  · rw [if_neg c3] at h
    refine lv_iload_n hx hb dX13_need_8 rfl (lv_at hl 1 rfl) ?_
    refine lv_if_eq (tgt := 19) hx hb dX13_need_9 (by decide) (fun c4 => ?_) (fun c4 => ?_)
    · rw [if_pos c4] at h
      refine lv_aload_n hx hb dX13_need_19 rfl (lv_at hl 0 rfl) ?_
      refine lv_iconst (v := (1 : Int32)) hx hb dX13_need_20 (by decide) ?_
      obtain ⟨v5, hv6, h⟩ := ok_bind h
      refine cl_vv (w2 := fun (u : (Int32 × Int32)) => w_X13_need cy a0 gth gvm gtt gtd u grd gnv gac grc gim) (As := [.int (1 : Int32)]) (rest := []) ⟨hx, hb, hml, hown, hts⟩ (c_X13_wrong l dC dI cy a0 gth gvm gtd gfl grd gnv gac grc gim (1 : Int32) H.size v5 hv6) (cwV 1 hts gX13_need_X13_wrong rfl rfl rfl (by decide +kernel) ⟨Nat.le_of_ble_eq_true rfl, Nat.le_of_ble_eq_true rfl⟩) (va_recv hK hP (ci := 11) (q0 := 0) rfl rfl) cl_blind (cl_pre hK hP hD [0, 2] (by decide) rfl) hP hD hS hA [0, 2] rfl rfl hl.1 rfl (lv_room (Nat.le_of_ble_eq_true rfl)) dX13_need_21 ⟨Nat.le_of_ble_eq_true rfl, Nat.le_of_ble_eq_true rfl⟩ ⟨rfl, rfl⟩ (fun _ => updM [0, 2] [1] [(a0 10, .inl (cy 1, 600, .inl (gtt)))] 3 rfl rfl rfl rfl rfl (by decide +kernel) (by decide +kernel) rfl) (fun u H locs hw hP hD hS => ?_)
      have hw := hw.symm
      subst hw
      have hP : va_P (dC, dI) vwCl (w_X13_need cy a0 gth gvm gtt gtd v5 grd gnv gac grc gim) H := hP
      have hD : va_D A (w_X13_need cy a0 gth gvm gtt gtd v5 grd gnv gac grc gim) := hD
      exact W.vret hx hb hr (fun t ht hW => by rw [hqq]; have hh := Option.some.inj h; exact ⟨⟨((v5, grd)), rfl, Option.some.inj h, by rw [ht]; exact hP, va_K.moved hW.alike hK⟩, hS.F ht⟩) hS.2.2 dX13_need_24
    · rw [if_neg c4] at h
      refine lv_aload_n hx hb dX13_need_12 rfl (lv_at hl 0 rfl) ?_
      obtain ⟨v7, hv8, h⟩ := ok_bind h
      refine cl_vv (w2 := fun (u : (Int32 × Int32 × Int32 × Int32 × Int32 × Int32 × Int64 × (Nat → Int32))) => w_X13_need cy a0 gth gvm gtt gtd gfl u gnv gac grc gim) (As := []) (rest := []) ⟨hx, hb, hml, hown, hts⟩ (c_X13_steps l dC dI cy a0 gth gvm gtt gtd gfl grd gnv gac grc gim H.size v7 hv8) (cwV 0 hts gX13_need_X13_steps rfl rfl rfl (by decide +kernel) ⟨Nat.le_of_ble_eq_true rfl, Nat.le_of_ble_eq_true rfl⟩) (va_recv hK hP (ci := 11) (q0 := 0) rfl rfl) cl_blind (cl_pre hK hP hD [0, 1, 2] (by decide) rfl) hP hD hS hA [0, 1, 2] rfl rfl hl.1 rfl (lv_room (Nat.le_of_ble_eq_true rfl)) dX13_need_13 ⟨Nat.le_of_ble_eq_true rfl, Nat.le_of_ble_eq_true rfl⟩ ⟨rfl, rfl⟩ (fun _ => updM [0, 1, 2] [] [] 3 rfl rfl rfl rfl rfl (by decide +kernel) (by decide +kernel) rfl) (fun u H locs hw hP hD hS => ?_)
      have hw := hw.symm
      subst hw
      have hP : va_P (dC, dI) vwCl (w_X13_need cy a0 gth gvm gtt gtd gfl v7 gnv gac grc gim) H := hP
      have hD : va_D A (w_X13_need cy a0 gth gvm gtt gtd gfl v7 gnv gac grc gim) := hD
      refine lv_goto (tgt := 24) hx hb dX13_need_16 (by decide) ?_
      exact W.vret hx hb hr (fun t ht hW => by rw [hqq]; have hh := Option.some.inj h; exact ⟨⟨((gfl, v7)), rfl, Option.some.inj h, by rw [ht]; exact hP, va_K.moved hW.alike hK⟩, hS.F ht⟩) hS.2.2 dX13_need_24
  · rw [if_pos c3] at h
    exact W.vret hx hb hr (fun t ht hW => by rw [hqq]; have hh := Option.some.inj h; exact ⟨⟨((gfl, grd)), rfl, Option.some.inj h, by rw [ht]; exact hP, va_K.moved hW.alike hK⟩, hS.F ht⟩) hS.2.2 dX13_need_7

abbrev w_X13_number (cy : Nat → ClassId) (a0 : Nat → Nat) (gth : Int32) (gvm : Int32 × Int32 × Int32 × (Nat → Int32) × (Nat → Int32) × (Nat → Int32) × (Nat → Int32) × (Nat → Int32) × (Nat → Int32) × (Nat → Int32) × (Nat → Int32) × (Nat → Int32)) (gtt : (Nat → Int32)) (gtd : Int32) (gfl : Int32 × Int32) (grd : Int32 × Int32 × Int32 × Int32 × Int32 × Int32 × Int64 × (Nat → Int32)) (gnv : Int32 × Int32 × Int32 × Int32 × Int32 × (Nat → Int32) × (Nat → Int32) × (Nat → Int32) × (Nat → Int32) × (Nat → Int32) × (Nat → Int32)) (gac : Int32 × (Nat → Int32) × (Nat → Int32)) (grc : Int32 × (Nat → Int32)) (gim : Int32 × Int32 × Int32 × (Nat → Int32) × (Nat → Int32) × (Nat → Int32) × (Nat → Int32) × (Nat → Int32) × (Nat → Int32) × (Nat → Int32) × (Nat → Int32) × (Nat → Int32)) : va_W := [(a0 0, .inr (11, [.int (gth), .int (gvm.1), .int (gvm.2.1), .int (gvm.2.2.1), .ref (a0 1), .ref (a0 2), .ref (a0 3), .ref (a0 4), .ref (a0 5), .ref (a0 6), .ref (a0 7), .ref (a0 8), .ref (a0 9), .ref (a0 10), .int (gtd), .int (gfl.1), .int (gfl.2), .ref (a0 11), .int (grd.1), .int (grd.2.1), .int (grd.2.2.1), .int (grd.2.2.2.1), .int (grd.2.2.2.2.1), .int (grd.2.2.2.2.2.1), .long (grd.2.2.2.2.2.2.1), .ref (a0 12), .int (gnv.1), .int (gnv.2.1), .int (gnv.2.2.1), .int (gnv.2.2.2.1), .int (gnv.2.2.2.2.1), .ref (a0 13), .ref (a0 14), .ref (a0 15), .ref (a0 16), .ref (a0 17), .ref (a0 18), .int (gac.1), .ref (a0 19), .ref (a0 20), .ref (a0 21), .ref (a0 22), .ref (a0 23), .ref (a0 24), .ref (a0 25), .ref (a0 26), .ref (a0 27), .int (grc.1), .ref (a0 28), .ref (a0 29), .ref (a0 30), .ref (a0 31), .int (gim.1), .int (gim.2.1), .int (gim.2.2.1), .ref (a0 32), .ref (a0 33), .ref (a0 34), .ref (a0 35), .ref (a0 36), .ref (a0 37), .ref (a0 38), .ref (a0 39), .ref (a0 40)])), (a0 10, .inl (cy 1, 600, .inl (gtt))), (a0 12, .inl (cy 1, 5, .inl (grd.2.2.2.2.2.2.2)))]
abbrev rm_X13_number : Room := { frames := 2, cells := 0, slots := 0, locals := 43 }
set_option maxHeartbeats 1000000 in
set_option maxRecDepth 100000 in
theorem c_X13_number (l : Launch) (dC : Nat → ClassId) (dI : Nat → Nat → Nat) (cy : Nat → ClassId) (a0 : Nat → Nat) (gth : Int32) (gvm : Int32 × Int32 × Int32 × (Nat → Int32) × (Nat → Int32) × (Nat → Int32) × (Nat → Int32) × (Nat → Int32) × (Nat → Int32) × (Nat → Int32) × (Nat → Int32) × (Nat → Int32)) (gtt : (Nat → Int32)) (gtd : Int32) (gfl : Int32 × Int32) (grd : Int32 × Int32 × Int32 × Int32 × Int32 × Int32 × Int64 × (Nat → Int32)) (gnv : Int32 × Int32 × Int32 × Int32 × Int32 × (Nat → Int32) × (Nat → Int32) × (Nat → Int32) × (Nat → Int32) × (Nat → Int32) × (Nat → Int32)) (gac : Int32 × (Nat → Int32) × (Nat → Int32)) (grc : Int32 × (Nat → Int32)) (gim : Int32 × Int32 × Int32 × (Nat → Int32) × (Nat → Int32) × (Nat → Int32) × (Nat → Int32) × (Nat → Int32) × (Nat → Int32) × (Nat → Int32) × (Nat → Int32) × (Nat → Int32)) (x1 : Int32) (x2 : Int32) (sz : Nat) (R0 : Int32 × (Int32 × Int32) × (Int32 × Int32 × Int32 × Int32 × Int32 × Int32 × Int64 × (Nat → Int32))) (h : p_X13_number gtt gfl grd x1 x2 = some R0) : Met l yX13_number wsX13_number rm_X13_number (va_Pc [.ref (a0 0), .int x1, .int x2] (prC dC dI cy (w_X13_number cy a0 gth gvm gtt gtd gfl grd gnv gac grc gim) sz)) (va_Qi (fun (r : Int32) (u : (Int32 × Int32) × (Int32 × Int32 × Int32 × Int32 × Int32 × Int32 × Int64 × (Nat → Int32))) => r = R0.1 ∧ u = R0.2) (fun (u : (Int32 × Int32) × (Int32 × Int32 × Int32 × Int32 × Int32 × Int32 × Int64 × (Nat → Int32))) t => poC dC dI cy (w_X13_number cy a0 gth gvm gtt gtd u.1 u.2 gnv gac grc gim) t) (va_A (w_X13_number cy a0 gth gvm gtt gtd gfl grd gnv gac grc gim) sz)) 0 0 (va_A (w_X13_number cy a0 gth gvm gtt gtd gfl grd gnv gac grc gim) sz) := by
  refine Met.ofW (cc := cX13_number) (maxL := 4) (ret := (some .int)) (by decide) rfl ?_
  intro p e s m aa below meth c s₁ B hml hv
  obtain ⟨haa, hsz, hP, hK, hD0⟩ := hv
  have hx := B.exec
  have hb := B.bytes
  have hr := B.returns
  have hts := atoms_spec (ws := wsX13_number) B.pre
  have hown : s.vm.findClass RX13 = some m.cls := findClass_of_methodNamed B.named
  have hlocks := B.notSynchronized
  subst hsz
  have hD := hD0.self (sz := s.heap.size)
  obtain ⟨qq, hqq⟩ : ∃ qq, qq = (va_Qi (fun (r : Int32) (u : (Int32 × Int32) × (Int32 × Int32 × Int32 × Int32 × Int32 × Int32 × Int64 × (Nat → Int32))) => r = R0.1 ∧ u = R0.2) (fun (u : (Int32 × Int32) × (Int32 × Int32 × Int32 × Int32 × Int32 × Int32 × Int64 × (Nat → Int32))) t => poC dC dI cy (w_X13_number cy a0 gth gvm gtt gtd u.1 u.2 gnv gac grc gim) t) (va_A (w_X13_number cy a0 gth gvm gtt gtd gfl grd gnv gac grc gim) s.heap.size)) := ⟨_, rfl⟩
  rw [← hqq]
  generalize hAe : va_A (w_X13_number cy a0 gth gvm gtt gtd gfl grd gnv gac grc gim) s.heap.size = A at hD hqq ⊢
  have hA : ∀ q : Nat, s.heap.size ≤ q → A q := fun q h => by rw [← hAe]; exact Or.inr h
  have hS : va_S A s.heap s.heap [] := va_S.rf
  have hl := lv_entry ([.ref (a0 0), .int x1, .int x2]) (n := 4) (Nat.le_of_ble_eq_true rfl)
  have hE : entryFrame m aa 4 = F0 m 0 ((lg_sl ([.ref (a0 0), .int x1, .int x2]) ++ List.replicate (4 - (lg_sl ([.ref (a0 0), .int x1, .int x2])).length) Slot.unset).toArray) [] := by rw [haa]; exact lg_entry_eq m _ 4
  refine W.eq hE ?_
  generalize (lg_sl ([.ref (a0 0), .int x1, .int x2]) ++ List.replicate (4 - (lg_sl ([.ref (a0 0), .int x1, .int x2])).length) Slot.unset).toArray = ls at hl ⊢
  have hl : lv_has ls 4 [(0, .ref (a0 0)), (1, .int x1), (2, .int x2)] := hl
  change W p l e rm_X13_number s m aa below meth c s.heap [] 0 0 (MQ below qq aa s 0 0 A) (F0 m 0 ls [])
  have hS0 := hS
  have lk0 := hts (.fieldLink RX13 162 "GoatDoorsModel" "value" "I") (by decide +kernel)
  have lk1 := hts (.fieldLink RX13 165 "GoatDoorsModel" "sort" "I") (by decide +kernel)
  have lk2 := hts (.fieldLink RX13 175 "GoatDoorsModel" "long0" "I") (by decide +kernel)
  have in_X13 : ∀ w ∈ wsX130, w ∈ wsX13_number := by decide +kernel
  have c54 : ∀ (_u : Unit), ∀ (gfl : Int32 × Int32) (grd : Int32 × Int32 × Int32 × Int32 × Int32 × Int32 × Int64 × (Nat → Int32)) (H : Heap) (locs : List Loc) (ls : Array Slot), p_X13_number_54 gtt gfl grd = some R0 → va_P (dC, dI) vwCl (w_X13_number cy a0 gth gvm gtt gtd gfl grd gnv gac grc gim) H → va_D A (w_X13_number cy a0 gth gvm gtt gtd gfl grd gnv gac grc gim) → va_S A s.heap H locs → lv_has ls 4 [(0, .ref (a0 0))] → W p l e rm_X13_number s m aa below meth c H locs 0 0 (MQ below qq aa s 0 0 A) (F0 m 54 ls []) := by
    intro _ gfl grd H locs ls h hP hD hS hl
    unfold p_X13_number_54 at h
    refine lv_aload_n hx hb dX13_number_54 rfl (lv_at hl 0 rfl) ?_
    refine va_get (D := (dC, dI)) (ci := 11) (v := .int grd.2.2.2.2.2.1) (C := RX13) (T := TX13) (N := 64) hx hb hts in_X13 hown hK hP 0 rfl rfl 23 (by decide) lk0 (fun _ h9 => h9) rfl dX13_number_55 ?_
    refine lv_istore_n (lv' := [(3, .int grd.2.2.2.2.2.1), (0, .ref (a0 0))]) hx hb dX13_number_58 rfl hl (by decide) rfl (fun ls hl => ?_)
    refine lv_aload_n hx hb dX13_number_59 rfl (lv_at hl 1 rfl) ?_
    obtain ⟨v1, hv2, h⟩ := ok_bind h
    refine cl_vi (w2 := fun (_ : Unit) => w_X13_number cy a0 gth gvm gtt gtd gfl grd gnv gac grc gim) (As := []) (rest := []) ⟨hx, hb, hml, hown, hts⟩ (c_X13_isGood l dC dI cy a0 gth gvm gtd gfl grd gnv gac grc gim H.size v1 hv2) (cwV 0 hts gX13_number_X13_isGood rfl rfl rfl (by decide +kernel) ⟨Nat.le_of_ble_eq_true rfl, Nat.le_of_ble_eq_true rfl⟩) (va_recv hK hP (ci := 11) (q0 := 0) rfl rfl) cl_blind (cl_pre hK hP hD [0] (by decide) rfl) hP hD hS hA [0] rfl rfl hl.1 rfl (lv_room (Nat.le_of_ble_eq_true rfl)) dX13_number_60 ⟨Nat.le_of_ble_eq_true rfl, Nat.le_of_ble_eq_true rfl⟩ ⟨rfl, rfl⟩ (fun _ => updR [0] rfl) (fun r u H locs hw hP hD hS => ?_)
    have hw := hw.symm
    subst hw
    have hP : va_P (dC, dI) vwCl (w_X13_number cy a0 gth gvm gtt gtd gfl grd gnv gac grc gim) H := hP
    have hD : va_D A (w_X13_number cy a0 gth gvm gtt gtd gfl grd gnv gac grc gim) := hD
    refine lv_if_eq (tgt := 70) hx hb dX13_number_63 (by decide) (fun c3 => ?_) (fun c3 => ?_)
    · rw [if_pos c3] at h
      refine lv_iload_n hx hb dX13_number_70 rfl (lv_at hl 0 rfl) ?_
      exact W.iret (v := grd.2.2.2.2.2.1) hx hb hr (fun t ht hW => by rw [hqq]; have hh := Option.some.inj h; exact ⟨⟨grd.2.2.2.2.2.1, ((gfl, grd)), rfl, ⟨fst_of hh, snd_of hh⟩, by rw [ht]; exact hP, va_K.moved hW.alike hK⟩, hS.F ht⟩) hS.2.2 dX13_number_71
    · rw [if_neg c3] at h
      refine lv_aload_n hx hb dX13_number_66 rfl (lv_at hl 1 rfl) ?_
      obtain ⟨v4, hv5, h⟩ := ok_bind h
      refine cl_vv (w2 := fun (u : (Int32 × Int32 × Int32 × Int32 × Int32 × Int32 × Int64 × (Nat → Int32))) => w_X13_number cy a0 gth gvm gtt gtd gfl u gnv gac grc gim) (As := []) (rest := []) ⟨hx, hb, hml, hown, hts⟩ (c_X13_steps l dC dI cy a0 gth gvm gtt gtd gfl grd gnv gac grc gim H.size v4 hv5) (cwV 0 hts gX13_number_X13_steps rfl rfl rfl (by decide +kernel) ⟨Nat.le_of_ble_eq_true rfl, Nat.le_of_ble_eq_true rfl⟩) (va_recv hK hP (ci := 11) (q0 := 0) rfl rfl) cl_blind (cl_pre hK hP hD [0, 1, 2] (by decide) rfl) hP hD hS hA [0, 1, 2] rfl rfl hl.1 rfl (lv_room (Nat.le_of_ble_eq_true rfl)) dX13_number_67 ⟨Nat.le_of_ble_eq_true rfl, Nat.le_of_ble_eq_true rfl⟩ ⟨rfl, rfl⟩ (fun _ => updM [0, 1, 2] [] [] 3 rfl rfl rfl rfl rfl (by decide +kernel) (by decide +kernel) rfl) (fun u H locs hw hP hD hS => ?_)
      have hw := hw.symm
      subst hw
      have hP : va_P (dC, dI) vwCl (w_X13_number cy a0 gth gvm gtt gtd gfl v4 gnv gac grc gim) H := hP
      have hD : va_D A (w_X13_number cy a0 gth gvm gtt gtd gfl v4 gnv gac grc gim) := hD
      refine lv_iload_n hx hb dX13_number_70 rfl (lv_at hl 0 rfl) ?_
      exact W.iret (v := grd.2.2.2.2.2.1) hx hb hr (fun t ht hW => by rw [hqq]; have hh := Option.some.inj h; exact ⟨⟨grd.2.2.2.2.2.1, ((gfl, v4)), rfl, ⟨fst_of hh, snd_of hh⟩, by rw [ht]; exact hP, va_K.moved hW.alike hK⟩, hS.F ht⟩) hS.2.2 dX13_number_71
  have c49 : ∀ (_u : Unit), ∀ (gfl : Int32 × Int32) (grd : Int32 × Int32 × Int32 × Int32 × Int32 × Int32 × Int64 × (Nat → Int32)) (H : Heap) (locs : List Loc) (ls : Array Slot), p_X13_number_49 gtt gfl grd = some R0 → va_P (dC, dI) vwCl (w_X13_number cy a0 gth gvm gtt gtd gfl grd gnv gac grc gim) H → va_D A (w_X13_number cy a0 gth gvm gtt gtd gfl grd gnv gac grc gim) → va_S A s.heap H locs → lv_has ls 4 [(0, .ref (a0 0))] → W p l e rm_X13_number s m aa below meth c H locs 0 0 (MQ below qq aa s 0 0 A) (F0 m 49 ls []) := by
    intro _ gfl grd H locs ls h hP hD hS hl
    unfold p_X13_number_49 at h
    refine lv_aload_n hx hb dX13_number_49 rfl (lv_at hl 0 rfl) ?_
    refine lv_iconst (v := (2 : Int32)) hx hb dX13_number_50 (by decide) ?_
    obtain ⟨v1, hv2, h⟩ := ok_bind h
    refine cl_vv (w2 := fun (u : (Int32 × Int32)) => w_X13_number cy a0 gth gvm gtt gtd u grd gnv gac grc gim) (As := [.int (2 : Int32)]) (rest := []) ⟨hx, hb, hml, hown, hts⟩ (c_X13_wrong l dC dI cy a0 gth gvm gtd gfl grd gnv gac grc gim (2 : Int32) H.size v1 hv2) (cwV 1 hts gX13_number_X13_wrong rfl rfl rfl (by decide +kernel) ⟨Nat.le_of_ble_eq_true rfl, Nat.le_of_ble_eq_true rfl⟩) (va_recv hK hP (ci := 11) (q0 := 0) rfl rfl) cl_blind (cl_pre hK hP hD [0, 2] (by decide) rfl) hP hD hS hA [0, 2] rfl rfl hl.1 rfl (lv_room (Nat.le_of_ble_eq_true rfl)) dX13_number_51 ⟨Nat.le_of_ble_eq_true rfl, Nat.le_of_ble_eq_true rfl⟩ ⟨rfl, rfl⟩ (fun _ => updM [0, 2] [1] [(a0 10, .inl (cy 1, 600, .inl (gtt)))] 3 rfl rfl rfl rfl rfl (by decide +kernel) (by decide +kernel) rfl) (fun u H locs hw hP hD hS => ?_)
    have hw := hw.symm
    subst hw
    have hP : va_P (dC, dI) vwCl (w_X13_number cy a0 gth gvm gtt gtd v1 grd gnv gac grc gim) H := hP
    have hD : va_D A (w_X13_number cy a0 gth gvm gtt gtd v1 grd gnv gac grc gim) := hD
    exact c54 () v1 grd H locs ls h hP hD hS (lv_sub hl [0] rfl)
  obtain ⟨H, hH⟩ : ∃ H : Heap, H = s.heap := ⟨_, rfl⟩
  obtain ⟨locs, hlocs⟩ : ∃ locs : List Loc, locs = [] := ⟨_, rfl⟩
  have hS : va_S A s.heap H locs := by rw [hH, hlocs]; exact hS
  rw [← hH] at hP
  suffices hg : W p l e rm_X13_number s m aa below meth c H locs 0 0 (MQ below qq aa s 0 0 A) (F0 m 0 ls []) by subst hH; subst hlocs; exact hg
  unfold p_X13_number at h
  refine lv_aload_n hx hb dX13_number_0 rfl (lv_at hl 0 rfl) ?_
  obtain ⟨v1, hv2, h⟩ := ok_bind h
  refine cl_vi (w2 := fun (_ : Unit) => w_X13_number cy a0 gth gvm gtt gtd gfl grd gnv gac grc gim) (As := []) (rest := []) ⟨hx, hb, hml, hown, hts⟩ (c_X13_isGood l dC dI cy a0 gth gvm gtd gfl grd gnv gac grc gim H.size v1 hv2) (cwV 0 hts gX13_number_X13_isGood rfl rfl rfl (by decide +kernel) ⟨Nat.le_of_ble_eq_true rfl, Nat.le_of_ble_eq_true rfl⟩) (va_recv hK hP (ci := 11) (q0 := 0) rfl rfl) cl_blind (cl_pre hK hP hD [0] (by decide) rfl) hP hD hS hA [0] rfl rfl hl.1 rfl (lv_room (Nat.le_of_ble_eq_true rfl)) dX13_number_1 ⟨Nat.le_of_ble_eq_true rfl, Nat.le_of_ble_eq_true rfl⟩ ⟨rfl, rfl⟩ (fun _ => updR [0] rfl) (fun r u H locs hw hP hD hS => ?_)
  have hw := hw.symm
  subst hw
  have hP : va_P (dC, dI) vwCl (w_X13_number cy a0 gth gvm gtt gtd gfl grd gnv gac grc gim) H := hP
  have hD : va_D A (w_X13_number cy a0 gth gvm gtt gtd gfl grd gnv gac grc gim) := hD
  refine lv_if_ne (tgt := 9) hx hb dX13_number_4 (by decide) (fun c3 => ?_) (fun c3 => ?_)
  · rw [if_neg c3] at h
    refine lv_aload_n hx hb dX13_number_9 rfl (lv_at hl 0 rfl) ?_
    refine va_get (D := (dC, dI)) (ci := 11) (v := .int grd.2.2.1) (C := RX13) (T := TX13) (N := 64) hx hb hts in_X13 hown hK hP 0 rfl rfl 20 (by decide) lk1 (fun _ h9 => h9) rfl dX13_number_10 ?_
    refine lv_iconst (v := (2 : Int32)) hx hb dX13_number_13 (by decide) ?_
    refine lv_icmp_eq (tgt := 25) hx hb dX13_number_14 (by decide) (fun c4 => ?_) (fun c4 => ?_)
    · rw [if_pos c4] at h
      refine lv_aload_n hx hb dX13_number_25 rfl (lv_at hl 0 rfl) ?_
      refine va_get (D := (dC, dI)) (ci := 11) (v := .int grd.2.2.2.2.1) (C := RX13) (T := TX13) (N := 64) hx hb hts in_X13 hown hK hP 0 rfl rfl 22 (by decide) lk2 (fun _ h9 => h9) rfl dX13_number_26 ?_
      refine lv_iconst (v := (3 : Int32)) hx hb dX13_number_29 (by decide) ?_
      refine lv_icmp_gt (tgt := 49) hx hb dX13_number_30 (by decide) (fun c5 => ?_) (fun c5 => ?_)
      · rw [if_pos c5] at h
        exact c49 () gfl grd H locs ls h hP hD hS (lv_sub hl [0] rfl)
      · rw [if_neg c5] at h
        refine lv_aload_n hx hb dX13_number_33 rfl (lv_at hl 0 rfl) ?_
        refine va_get (D := (dC, dI)) (ci := 11) (v := .int grd.2.2.2.2.2.1) (C := RX13) (T := TX13) (N := 64) hx hb hts in_X13 hown hK hP 0 rfl rfl 23 (by decide) lk0 (fun _ h9 => h9) rfl dX13_number_34 ?_
        refine lv_iload_n hx hb dX13_number_37 rfl (lv_at hl 1 rfl) ?_
        refine lv_icmp_lt (tgt := 49) hx hb dX13_number_38 (by decide) (fun c6 => ?_) (fun c6 => ?_)
        · rw [if_pos c6] at h
          exact c49 () gfl grd H locs ls h hP hD hS (lv_sub hl [0] rfl)
        · rw [if_neg c6] at h
          refine lv_aload_n hx hb dX13_number_41 rfl (lv_at hl 0 rfl) ?_
          refine va_get (D := (dC, dI)) (ci := 11) (v := .int grd.2.2.2.2.2.1) (C := RX13) (T := TX13) (N := 64) hx hb hts in_X13 hown hK hP 0 rfl rfl 23 (by decide) lk0 (fun _ h9 => h9) rfl dX13_number_42 ?_
          refine lv_iload_n hx hb dX13_number_45 rfl (lv_at hl 2 rfl) ?_
          refine lv_icmp_le (tgt := 54) hx hb dX13_number_46 (by decide) (fun c7 => ?_) (fun c7 => ?_)
          · rw [if_pos c7] at h
            exact c54 () gfl grd H locs ls h hP hD hS (lv_sub hl [0] rfl)
          · rw [if_neg c7] at h
            exact c49 () gfl grd H locs ls h hP hD hS (lv_sub hl [0] rfl)
    · rw [if_neg c4] at h
      refine lv_aload_n hx hb dX13_number_17 rfl (lv_at hl 0 rfl) ?_
      refine lv_iconst (v := (1 : Int32)) hx hb dX13_number_18 (by decide) ?_
      obtain ⟨v8, hv9, h⟩ := ok_bind h
      refine cl_vv (w2 := fun (u : (Int32 × Int32)) => w_X13_number cy a0 gth gvm gtt gtd u grd gnv gac grc gim) (As := [.int (1 : Int32)]) (rest := []) ⟨hx, hb, hml, hown, hts⟩ (c_X13_wrong l dC dI cy a0 gth gvm gtd gfl grd gnv gac grc gim (1 : Int32) H.size v8 hv9) (cwV 1 hts gX13_number_X13_wrong rfl rfl rfl (by decide +kernel) ⟨Nat.le_of_ble_eq_true rfl, Nat.le_of_ble_eq_true rfl⟩) (va_recv hK hP (ci := 11) (q0 := 0) rfl rfl) cl_blind (cl_pre hK hP hD [0, 2] (by decide) rfl) hP hD hS hA [0, 2] rfl rfl hl.1 rfl (lv_room (Nat.le_of_ble_eq_true rfl)) dX13_number_19 ⟨Nat.le_of_ble_eq_true rfl, Nat.le_of_ble_eq_true rfl⟩ ⟨rfl, rfl⟩ (fun _ => updM [0, 2] [1] [(a0 10, .inl (cy 1, 600, .inl (gtt)))] 3 rfl rfl rfl rfl rfl (by decide +kernel) (by decide +kernel) rfl) (fun u H locs hw hP hD hS => ?_)
      have hw := hw.symm
      subst hw
      have hP : va_P (dC, dI) vwCl (w_X13_number cy a0 gth gvm gtt gtd v8 grd gnv gac grc gim) H := hP
      have hD : va_D A (w_X13_number cy a0 gth gvm gtt gtd v8 grd gnv gac grc gim) := hD
      refine lv_goto (tgt := 54) hx hb dX13_number_22 (by decide) ?_
      exact c54 () v8 grd H locs ls h hP hD hS (lv_sub hl [0] rfl)
  · rw [if_pos c3] at h
    refine lv_iconst (v := (0 : Int32)) hx hb dX13_number_7 (by decide) ?_
    exact W.iret (v := (0 : Int32)) hx hb hr (fun t ht hW => by rw [hqq]; have hh := Option.some.inj h; exact ⟨⟨(0 : Int32), ((gfl, grd)), rfl, ⟨fst_of hh, snd_of hh⟩, by rw [ht]; exact hP, va_K.moved hW.alike hK⟩, hS.F ht⟩) hS.2.2 dX13_number_8

abbrev w_X13_among (cy : Nat → ClassId) (a0 : Nat → Nat) (gth : Int32) (gvm : Int32 × Int32 × Int32 × (Nat → Int32) × (Nat → Int32) × (Nat → Int32) × (Nat → Int32) × (Nat → Int32) × (Nat → Int32) × (Nat → Int32) × (Nat → Int32) × (Nat → Int32)) (gtt : (Nat → Int32)) (gtd : Int32) (gfl : Int32 × Int32) (grd : Int32 × Int32 × Int32 × Int32 × Int32 × Int32 × Int64 × (Nat → Int32)) (gnv : Int32 × Int32 × Int32 × Int32 × Int32 × (Nat → Int32) × (Nat → Int32) × (Nat → Int32) × (Nat → Int32) × (Nat → Int32) × (Nat → Int32)) (gac : Int32 × (Nat → Int32) × (Nat → Int32)) (grc : Int32 × (Nat → Int32)) (gim : Int32 × Int32 × Int32 × (Nat → Int32) × (Nat → Int32) × (Nat → Int32) × (Nat → Int32) × (Nat → Int32) × (Nat → Int32) × (Nat → Int32) × (Nat → Int32) × (Nat → Int32)) : va_W := [(a0 0, .inr (11, [.int (gth), .int (gvm.1), .int (gvm.2.1), .int (gvm.2.2.1), .ref (a0 1), .ref (a0 2), .ref (a0 3), .ref (a0 4), .ref (a0 5), .ref (a0 6), .ref (a0 7), .ref (a0 8), .ref (a0 9), .ref (a0 10), .int (gtd), .int (gfl.1), .int (gfl.2), .ref (a0 11), .int (grd.1), .int (grd.2.1), .int (grd.2.2.1), .int (grd.2.2.2.1), .int (grd.2.2.2.2.1), .int (grd.2.2.2.2.2.1), .long (grd.2.2.2.2.2.2.1), .ref (a0 12), .int (gnv.1), .int (gnv.2.1), .int (gnv.2.2.1), .int (gnv.2.2.2.1), .int (gnv.2.2.2.2.1), .ref (a0 13), .ref (a0 14), .ref (a0 15), .ref (a0 16), .ref (a0 17), .ref (a0 18), .int (gac.1), .ref (a0 19), .ref (a0 20), .ref (a0 21), .ref (a0 22), .ref (a0 23), .ref (a0 24), .ref (a0 25), .ref (a0 26), .ref (a0 27), .int (grc.1), .ref (a0 28), .ref (a0 29), .ref (a0 30), .ref (a0 31), .int (gim.1), .int (gim.2.1), .int (gim.2.2.1), .ref (a0 32), .ref (a0 33), .ref (a0 34), .ref (a0 35), .ref (a0 36), .ref (a0 37), .ref (a0 38), .ref (a0 39), .ref (a0 40)])), (a0 10, .inl (cy 1, 600, .inl (gtt))), (a0 12, .inl (cy 1, 5, .inl (grd.2.2.2.2.2.2.2)))]
abbrev rm_X13_among : Room := { frames := 2, cells := 0, slots := 0, locals := 43 }
set_option maxHeartbeats 1000000 in
set_option maxRecDepth 100000 in
theorem c_X13_among (l : Launch) (dC : Nat → ClassId) (dI : Nat → Nat → Nat) (cy : Nat → ClassId) (a0 : Nat → Nat) (gth : Int32) (gvm : Int32 × Int32 × Int32 × (Nat → Int32) × (Nat → Int32) × (Nat → Int32) × (Nat → Int32) × (Nat → Int32) × (Nat → Int32) × (Nat → Int32) × (Nat → Int32) × (Nat → Int32)) (gtt : (Nat → Int32)) (gtd : Int32) (gfl : Int32 × Int32) (grd : Int32 × Int32 × Int32 × Int32 × Int32 × Int32 × Int64 × (Nat → Int32)) (gnv : Int32 × Int32 × Int32 × Int32 × Int32 × (Nat → Int32) × (Nat → Int32) × (Nat → Int32) × (Nat → Int32) × (Nat → Int32) × (Nat → Int32)) (gac : Int32 × (Nat → Int32) × (Nat → Int32)) (grc : Int32 × (Nat → Int32)) (gim : Int32 × Int32 × Int32 × (Nat → Int32) × (Nat → Int32) × (Nat → Int32) × (Nat → Int32) × (Nat → Int32) × (Nat → Int32) × (Nat → Int32) × (Nat → Int32) × (Nat → Int32)) (x1 : Int32) (x2 : Int32) (sz : Nat) (R0 : Int32 × (Int32 × Int32) × (Int32 × Int32 × Int32 × Int32 × Int32 × Int32 × Int64 × (Nat → Int32))) (h : p_X13_among gtt gfl grd x1 x2 = some R0) : Met l yX13_among wsX13_among rm_X13_among (va_Pc [.ref (a0 0), .int x1, .int x2] (prC dC dI cy (w_X13_among cy a0 gth gvm gtt gtd gfl grd gnv gac grc gim) sz)) (va_Qi (fun (r : Int32) (u : (Int32 × Int32) × (Int32 × Int32 × Int32 × Int32 × Int32 × Int32 × Int64 × (Nat → Int32))) => r = R0.1 ∧ u = R0.2) (fun (u : (Int32 × Int32) × (Int32 × Int32 × Int32 × Int32 × Int32 × Int32 × Int64 × (Nat → Int32))) t => poC dC dI cy (w_X13_among cy a0 gth gvm gtt gtd u.1 u.2 gnv gac grc gim) t) (va_A (w_X13_among cy a0 gth gvm gtt gtd gfl grd gnv gac grc gim) sz)) 0 0 (va_A (w_X13_among cy a0 gth gvm gtt gtd gfl grd gnv gac grc gim) sz) := by
  refine Met.ofW (cc := cX13_among) (maxL := 4) (ret := (some .int)) (by decide) rfl ?_
  intro p e s m aa below meth c s₁ B hml hv
  obtain ⟨haa, hsz, hP, hK, hD0⟩ := hv
  have hx := B.exec
  have hb := B.bytes
  have hr := B.returns
  have hts := atoms_spec (ws := wsX13_among) B.pre
  have hown : s.vm.findClass RX13 = some m.cls := findClass_of_methodNamed B.named
  have hlocks := B.notSynchronized
  subst hsz
  have hD := hD0.self (sz := s.heap.size)
  obtain ⟨qq, hqq⟩ : ∃ qq, qq = (va_Qi (fun (r : Int32) (u : (Int32 × Int32) × (Int32 × Int32 × Int32 × Int32 × Int32 × Int32 × Int64 × (Nat → Int32))) => r = R0.1 ∧ u = R0.2) (fun (u : (Int32 × Int32) × (Int32 × Int32 × Int32 × Int32 × Int32 × Int32 × Int64 × (Nat → Int32))) t => poC dC dI cy (w_X13_among cy a0 gth gvm gtt gtd u.1 u.2 gnv gac grc gim) t) (va_A (w_X13_among cy a0 gth gvm gtt gtd gfl grd gnv gac grc gim) s.heap.size)) := ⟨_, rfl⟩
  rw [← hqq]
  generalize hAe : va_A (w_X13_among cy a0 gth gvm gtt gtd gfl grd gnv gac grc gim) s.heap.size = A at hD hqq ⊢
  have hA : ∀ q : Nat, s.heap.size ≤ q → A q := fun q h => by rw [← hAe]; exact Or.inr h
  have hS : va_S A s.heap s.heap [] := va_S.rf
  have hl := lv_entry ([.ref (a0 0), .int x1, .int x2]) (n := 4) (Nat.le_of_ble_eq_true rfl)
  have hE : entryFrame m aa 4 = F0 m 0 ((lg_sl ([.ref (a0 0), .int x1, .int x2]) ++ List.replicate (4 - (lg_sl ([.ref (a0 0), .int x1, .int x2])).length) Slot.unset).toArray) [] := by rw [haa]; exact lg_entry_eq m _ 4
  refine W.eq hE ?_
  generalize (lg_sl ([.ref (a0 0), .int x1, .int x2]) ++ List.replicate (4 - (lg_sl ([.ref (a0 0), .int x1, .int x2])).length) Slot.unset).toArray = ls at hl ⊢
  have hl : lv_has ls 4 [(0, .ref (a0 0)), (1, .int x1), (2, .int x2)] := hl
  change W p l e rm_X13_among s m aa below meth c s.heap [] 0 0 (MQ below qq aa s 0 0 A) (F0 m 0 ls [])
  have hS0 := hS
  have lk0 := hts (.fieldLink RX13 162 "GoatDoorsModel" "value" "I") (by decide +kernel)
  have lk1 := hts (.fieldLink RX13 165 "GoatDoorsModel" "sort" "I") (by decide +kernel)
  have lk2 := hts (.fieldLink RX13 175 "GoatDoorsModel" "long0" "I") (by decide +kernel)
  have in_X13 : ∀ w ∈ wsX130, w ∈ wsX13_among := by decide +kernel
  have c70 : ∀ (_u : Unit), ∀ (gfl : Int32 × Int32) (grd : Int32 × Int32 × Int32 × Int32 × Int32 × Int32 × Int64 × (Nat → Int32)) (H : Heap) (locs : List Loc) (ls : Array Slot), p_X13_among_70 gtt gfl grd = some R0 → va_P (dC, dI) vwCl (w_X13_among cy a0 gth gvm gtt gtd gfl grd gnv gac grc gim) H → va_D A (w_X13_among cy a0 gth gvm gtt gtd gfl grd gnv gac grc gim) → va_S A s.heap H locs → lv_has ls 4 [(0, .ref (a0 0))] → W p l e rm_X13_among s m aa below meth c H locs 0 0 (MQ below qq aa s 0 0 A) (F0 m 70 ls []) := by
    intro _ gfl grd H locs ls h hP hD hS hl
    unfold p_X13_among_70 at h
    refine lv_aload_n hx hb dX13_among_70 rfl (lv_at hl 0 rfl) ?_
    refine va_get (D := (dC, dI)) (ci := 11) (v := .int grd.2.2.2.2.2.1) (C := RX13) (T := TX13) (N := 64) hx hb hts in_X13 hown hK hP 0 rfl rfl 23 (by decide) lk0 (fun _ h9 => h9) rfl dX13_among_71 ?_
    refine lv_istore_n (lv' := [(3, .int grd.2.2.2.2.2.1), (0, .ref (a0 0))]) hx hb dX13_among_74 rfl hl (by decide) rfl (fun ls hl => ?_)
    refine lv_aload_n hx hb dX13_among_75 rfl (lv_at hl 1 rfl) ?_
    obtain ⟨v1, hv2, h⟩ := ok_bind h
    refine cl_vi (w2 := fun (_ : Unit) => w_X13_among cy a0 gth gvm gtt gtd gfl grd gnv gac grc gim) (As := []) (rest := []) ⟨hx, hb, hml, hown, hts⟩ (c_X13_isGood l dC dI cy a0 gth gvm gtd gfl grd gnv gac grc gim H.size v1 hv2) (cwV 0 hts gX13_among_X13_isGood rfl rfl rfl (by decide +kernel) ⟨Nat.le_of_ble_eq_true rfl, Nat.le_of_ble_eq_true rfl⟩) (va_recv hK hP (ci := 11) (q0 := 0) rfl rfl) cl_blind (cl_pre hK hP hD [0] (by decide) rfl) hP hD hS hA [0] rfl rfl hl.1 rfl (lv_room (Nat.le_of_ble_eq_true rfl)) dX13_among_76 ⟨Nat.le_of_ble_eq_true rfl, Nat.le_of_ble_eq_true rfl⟩ ⟨rfl, rfl⟩ (fun _ => updR [0] rfl) (fun r u H locs hw hP hD hS => ?_)
    have hw := hw.symm
    subst hw
    have hP : va_P (dC, dI) vwCl (w_X13_among cy a0 gth gvm gtt gtd gfl grd gnv gac grc gim) H := hP
    have hD : va_D A (w_X13_among cy a0 gth gvm gtt gtd gfl grd gnv gac grc gim) := hD
    refine lv_if_eq (tgt := 86) hx hb dX13_among_79 (by decide) (fun c3 => ?_) (fun c3 => ?_)
    · rw [if_pos c3] at h
      refine lv_iload_n hx hb dX13_among_86 rfl (lv_at hl 0 rfl) ?_
      exact W.iret (v := grd.2.2.2.2.2.1) hx hb hr (fun t ht hW => by rw [hqq]; have hh := Option.some.inj h; exact ⟨⟨grd.2.2.2.2.2.1, ((gfl, grd)), rfl, ⟨fst_of hh, snd_of hh⟩, by rw [ht]; exact hP, va_K.moved hW.alike hK⟩, hS.F ht⟩) hS.2.2 dX13_among_87
    · rw [if_neg c3] at h
      refine lv_aload_n hx hb dX13_among_82 rfl (lv_at hl 1 rfl) ?_
      obtain ⟨v4, hv5, h⟩ := ok_bind h
      refine cl_vv (w2 := fun (u : (Int32 × Int32 × Int32 × Int32 × Int32 × Int32 × Int64 × (Nat → Int32))) => w_X13_among cy a0 gth gvm gtt gtd gfl u gnv gac grc gim) (As := []) (rest := []) ⟨hx, hb, hml, hown, hts⟩ (c_X13_steps l dC dI cy a0 gth gvm gtt gtd gfl grd gnv gac grc gim H.size v4 hv5) (cwV 0 hts gX13_among_X13_steps rfl rfl rfl (by decide +kernel) ⟨Nat.le_of_ble_eq_true rfl, Nat.le_of_ble_eq_true rfl⟩) (va_recv hK hP (ci := 11) (q0 := 0) rfl rfl) cl_blind (cl_pre hK hP hD [0, 1, 2] (by decide) rfl) hP hD hS hA [0, 1, 2] rfl rfl hl.1 rfl (lv_room (Nat.le_of_ble_eq_true rfl)) dX13_among_83 ⟨Nat.le_of_ble_eq_true rfl, Nat.le_of_ble_eq_true rfl⟩ ⟨rfl, rfl⟩ (fun _ => updM [0, 1, 2] [] [] 3 rfl rfl rfl rfl rfl (by decide +kernel) (by decide +kernel) rfl) (fun u H locs hw hP hD hS => ?_)
      have hw := hw.symm
      subst hw
      have hP : va_P (dC, dI) vwCl (w_X13_among cy a0 gth gvm gtt gtd gfl v4 gnv gac grc gim) H := hP
      have hD : va_D A (w_X13_among cy a0 gth gvm gtt gtd gfl v4 gnv gac grc gim) := hD
      refine lv_iload_n hx hb dX13_among_86 rfl (lv_at hl 0 rfl) ?_
      exact W.iret (v := grd.2.2.2.2.2.1) hx hb hr (fun t ht hW => by rw [hqq]; have hh := Option.some.inj h; exact ⟨⟨grd.2.2.2.2.2.1, ((gfl, v4)), rfl, ⟨fst_of hh, snd_of hh⟩, by rw [ht]; exact hP, va_K.moved hW.alike hK⟩, hS.F ht⟩) hS.2.2 dX13_among_87
  obtain ⟨H, hH⟩ : ∃ H : Heap, H = s.heap := ⟨_, rfl⟩
  obtain ⟨locs, hlocs⟩ : ∃ locs : List Loc, locs = [] := ⟨_, rfl⟩
  have hS : va_S A s.heap H locs := by rw [hH, hlocs]; exact hS
  rw [← hH] at hP
  suffices hg : W p l e rm_X13_among s m aa below meth c H locs 0 0 (MQ below qq aa s 0 0 A) (F0 m 0 ls []) by subst hH; subst hlocs; exact hg
  unfold p_X13_among at h
  refine lv_aload_n hx hb dX13_among_0 rfl (lv_at hl 0 rfl) ?_
  obtain ⟨v1, hv2, h⟩ := ok_bind h
  refine cl_vi (w2 := fun (_ : Unit) => w_X13_among cy a0 gth gvm gtt gtd gfl grd gnv gac grc gim) (As := []) (rest := []) ⟨hx, hb, hml, hown, hts⟩ (c_X13_isGood l dC dI cy a0 gth gvm gtd gfl grd gnv gac grc gim H.size v1 hv2) (cwV 0 hts gX13_among_X13_isGood rfl rfl rfl (by decide +kernel) ⟨Nat.le_of_ble_eq_true rfl, Nat.le_of_ble_eq_true rfl⟩) (va_recv hK hP (ci := 11) (q0 := 0) rfl rfl) cl_blind (cl_pre hK hP hD [0] (by decide) rfl) hP hD hS hA [0] rfl rfl hl.1 rfl (lv_room (Nat.le_of_ble_eq_true rfl)) dX13_among_1 ⟨Nat.le_of_ble_eq_true rfl, Nat.le_of_ble_eq_true rfl⟩ ⟨rfl, rfl⟩ (fun _ => updR [0] rfl) (fun r u H locs hw hP hD hS => ?_)
  have hw := hw.symm
  subst hw
  have hP : va_P (dC, dI) vwCl (w_X13_among cy a0 gth gvm gtt gtd gfl grd gnv gac grc gim) H := hP
  have hD : va_D A (w_X13_among cy a0 gth gvm gtt gtd gfl grd gnv gac grc gim) := hD
  refine lv_if_ne (tgt := 9) hx hb dX13_among_4 (by decide) (fun c3 => ?_) (fun c3 => ?_)
  · rw [if_neg c3] at h
    refine lv_aload_n hx hb dX13_among_9 rfl (lv_at hl 0 rfl) ?_
    refine va_get (D := (dC, dI)) (ci := 11) (v := .int grd.2.2.1) (C := RX13) (T := TX13) (N := 64) hx hb hts in_X13 hown hK hP 0 rfl rfl 20 (by decide) lk1 (fun _ h9 => h9) rfl dX13_among_10 ?_
    refine lv_iconst (v := (2 : Int32)) hx hb dX13_among_13 (by decide) ?_
    refine lv_icmp_eq (tgt := 25) hx hb dX13_among_14 (by decide) (fun c4 => ?_) (fun c4 => ?_)
    · rw [if_pos c4] at h
      refine lv_aload_n hx hb dX13_among_25 rfl (lv_at hl 0 rfl) ?_
      refine va_get (D := (dC, dI)) (ci := 11) (v := .int grd.2.2.2.2.1) (C := RX13) (T := TX13) (N := 64) hx hb hts in_X13 hown hK hP 0 rfl rfl 22 (by decide) lk2 (fun _ h9 => h9) rfl dX13_among_26 ?_
      refine lv_iconst (v := (3 : Int32)) hx hb dX13_among_29 (by decide) ?_
      refine lv_icmp_le (tgt := 41) hx hb dX13_among_30 (by decide) (fun c5 => ?_) (fun c5 => ?_)
      · rw [if_pos c5] at h
        refine lv_aload_n hx hb dX13_among_41 rfl (lv_at hl 0 rfl) ?_
        refine va_get (D := (dC, dI)) (ci := 11) (v := .int grd.2.2.2.2.2.1) (C := RX13) (T := TX13) (N := 64) hx hb hts in_X13 hown hK hP 0 rfl rfl 23 (by decide) lk0 (fun _ h9 => h9) rfl dX13_among_42 ?_
        refine lv_iload_n hx hb dX13_among_45 rfl (lv_at hl 1 rfl) ?_
        refine lv_icmp_lt (tgt := 57) hx hb dX13_among_46 (by decide) (fun c6 => ?_) (fun c6 => ?_)
        · rw [if_pos c6] at h
          refine lv_aload_n hx hb dX13_among_57 rfl (lv_at hl 0 rfl) ?_
          refine va_get (D := (dC, dI)) (ci := 11) (v := .int grd.2.2.2.2.2.1) (C := RX13) (T := TX13) (N := 64) hx hb hts in_X13 hown hK hP 0 rfl rfl 23 (by decide) lk0 (fun _ h9 => h9) rfl dX13_among_58 ?_
          refine lv_iload_n hx hb dX13_among_61 rfl (lv_at hl 2 rfl) ?_
          refine lv_icmp_ne (tgt := 70) hx hb dX13_among_62 (by decide) (fun c7 => ?_) (fun c7 => ?_)
          · rw [if_neg c7] at h
            exact c70 () gfl grd H locs ls h hP hD hS (lv_sub hl [0] rfl)
          · rw [if_pos c7] at h
            refine lv_aload_n hx hb dX13_among_65 rfl (lv_at hl 0 rfl) ?_
            refine lv_iconst (v := (4 : Int32)) hx hb dX13_among_66 (by decide) ?_
            obtain ⟨v8, hv9, h⟩ := ok_bind h
            refine cl_vv (w2 := fun (u : (Int32 × Int32)) => w_X13_among cy a0 gth gvm gtt gtd u grd gnv gac grc gim) (As := [.int (4 : Int32)]) (rest := []) ⟨hx, hb, hml, hown, hts⟩ (c_X13_wrong l dC dI cy a0 gth gvm gtd gfl grd gnv gac grc gim (4 : Int32) H.size v8 hv9) (cwV 1 hts gX13_among_X13_wrong rfl rfl rfl (by decide +kernel) ⟨Nat.le_of_ble_eq_true rfl, Nat.le_of_ble_eq_true rfl⟩) (va_recv hK hP (ci := 11) (q0 := 0) rfl rfl) cl_blind (cl_pre hK hP hD [0, 2] (by decide) rfl) hP hD hS hA [0, 2] rfl rfl hl.1 rfl (lv_room (Nat.le_of_ble_eq_true rfl)) dX13_among_67 ⟨Nat.le_of_ble_eq_true rfl, Nat.le_of_ble_eq_true rfl⟩ ⟨rfl, rfl⟩ (fun _ => updM [0, 2] [1] [(a0 10, .inl (cy 1, 600, .inl (gtt)))] 3 rfl rfl rfl rfl rfl (by decide +kernel) (by decide +kernel) rfl) (fun u H locs hw hP hD hS => ?_)
            have hw := hw.symm
            subst hw
            have hP : va_P (dC, dI) vwCl (w_X13_among cy a0 gth gvm gtt gtd v8 grd gnv gac grc gim) H := hP
            have hD : va_D A (w_X13_among cy a0 gth gvm gtt gtd v8 grd gnv gac grc gim) := hD
            exact c70 () v8 grd H locs ls h hP hD hS (lv_sub hl [0] rfl)
        · rw [if_neg c6] at h
          refine lv_aload_n hx hb dX13_among_49 rfl (lv_at hl 0 rfl) ?_
          refine lv_iconst (v := (3 : Int32)) hx hb dX13_among_50 (by decide) ?_
          obtain ⟨v10, hv11, h⟩ := ok_bind h
          refine cl_vv (w2 := fun (u : (Int32 × Int32)) => w_X13_among cy a0 gth gvm gtt gtd u grd gnv gac grc gim) (As := [.int (3 : Int32)]) (rest := []) ⟨hx, hb, hml, hown, hts⟩ (c_X13_wrong l dC dI cy a0 gth gvm gtd gfl grd gnv gac grc gim (3 : Int32) H.size v10 hv11) (cwV 1 hts gX13_among_X13_wrong rfl rfl rfl (by decide +kernel) ⟨Nat.le_of_ble_eq_true rfl, Nat.le_of_ble_eq_true rfl⟩) (va_recv hK hP (ci := 11) (q0 := 0) rfl rfl) cl_blind (cl_pre hK hP hD [0, 2] (by decide) rfl) hP hD hS hA [0, 2] rfl rfl hl.1 rfl (lv_room (Nat.le_of_ble_eq_true rfl)) dX13_among_51 ⟨Nat.le_of_ble_eq_true rfl, Nat.le_of_ble_eq_true rfl⟩ ⟨rfl, rfl⟩ (fun _ => updM [0, 2] [1] [(a0 10, .inl (cy 1, 600, .inl (gtt)))] 3 rfl rfl rfl rfl rfl (by decide +kernel) (by decide +kernel) rfl) (fun u H locs hw hP hD hS => ?_)
          have hw := hw.symm
          subst hw
          have hP : va_P (dC, dI) vwCl (w_X13_among cy a0 gth gvm gtt gtd v10 grd gnv gac grc gim) H := hP
          have hD : va_D A (w_X13_among cy a0 gth gvm gtt gtd v10 grd gnv gac grc gim) := hD
          refine lv_goto (tgt := 70) hx hb dX13_among_54 (by decide) ?_
          exact c70 () v10 grd H locs ls h hP hD hS (lv_sub hl [0] rfl)
      · rw [if_neg c5] at h
        refine lv_aload_n hx hb dX13_among_33 rfl (lv_at hl 0 rfl) ?_
        refine lv_iconst (v := (2 : Int32)) hx hb dX13_among_34 (by decide) ?_
        obtain ⟨v12, hv13, h⟩ := ok_bind h
        refine cl_vv (w2 := fun (u : (Int32 × Int32)) => w_X13_among cy a0 gth gvm gtt gtd u grd gnv gac grc gim) (As := [.int (2 : Int32)]) (rest := []) ⟨hx, hb, hml, hown, hts⟩ (c_X13_wrong l dC dI cy a0 gth gvm gtd gfl grd gnv gac grc gim (2 : Int32) H.size v12 hv13) (cwV 1 hts gX13_among_X13_wrong rfl rfl rfl (by decide +kernel) ⟨Nat.le_of_ble_eq_true rfl, Nat.le_of_ble_eq_true rfl⟩) (va_recv hK hP (ci := 11) (q0 := 0) rfl rfl) cl_blind (cl_pre hK hP hD [0, 2] (by decide) rfl) hP hD hS hA [0, 2] rfl rfl hl.1 rfl (lv_room (Nat.le_of_ble_eq_true rfl)) dX13_among_35 ⟨Nat.le_of_ble_eq_true rfl, Nat.le_of_ble_eq_true rfl⟩ ⟨rfl, rfl⟩ (fun _ => updM [0, 2] [1] [(a0 10, .inl (cy 1, 600, .inl (gtt)))] 3 rfl rfl rfl rfl rfl (by decide +kernel) (by decide +kernel) rfl) (fun u H locs hw hP hD hS => ?_)
        have hw := hw.symm
        subst hw
        have hP : va_P (dC, dI) vwCl (w_X13_among cy a0 gth gvm gtt gtd v12 grd gnv gac grc gim) H := hP
        have hD : va_D A (w_X13_among cy a0 gth gvm gtt gtd v12 grd gnv gac grc gim) := hD
        refine lv_goto (tgt := 70) hx hb dX13_among_38 (by decide) ?_
        exact c70 () v12 grd H locs ls h hP hD hS (lv_sub hl [0] rfl)
    · rw [if_neg c4] at h
      refine lv_aload_n hx hb dX13_among_17 rfl (lv_at hl 0 rfl) ?_
      refine lv_iconst (v := (1 : Int32)) hx hb dX13_among_18 (by decide) ?_
      obtain ⟨v14, hv15, h⟩ := ok_bind h
      refine cl_vv (w2 := fun (u : (Int32 × Int32)) => w_X13_among cy a0 gth gvm gtt gtd u grd gnv gac grc gim) (As := [.int (1 : Int32)]) (rest := []) ⟨hx, hb, hml, hown, hts⟩ (c_X13_wrong l dC dI cy a0 gth gvm gtd gfl grd gnv gac grc gim (1 : Int32) H.size v14 hv15) (cwV 1 hts gX13_among_X13_wrong rfl rfl rfl (by decide +kernel) ⟨Nat.le_of_ble_eq_true rfl, Nat.le_of_ble_eq_true rfl⟩) (va_recv hK hP (ci := 11) (q0 := 0) rfl rfl) cl_blind (cl_pre hK hP hD [0, 2] (by decide) rfl) hP hD hS hA [0, 2] rfl rfl hl.1 rfl (lv_room (Nat.le_of_ble_eq_true rfl)) dX13_among_19 ⟨Nat.le_of_ble_eq_true rfl, Nat.le_of_ble_eq_true rfl⟩ ⟨rfl, rfl⟩ (fun _ => updM [0, 2] [1] [(a0 10, .inl (cy 1, 600, .inl (gtt)))] 3 rfl rfl rfl rfl rfl (by decide +kernel) (by decide +kernel) rfl) (fun u H locs hw hP hD hS => ?_)
      have hw := hw.symm
      subst hw
      have hP : va_P (dC, dI) vwCl (w_X13_among cy a0 gth gvm gtt gtd v14 grd gnv gac grc gim) H := hP
      have hD : va_D A (w_X13_among cy a0 gth gvm gtt gtd v14 grd gnv gac grc gim) := hD
      refine lv_goto (tgt := 70) hx hb dX13_among_22 (by decide) ?_
      exact c70 () v14 grd H locs ls h hP hD hS (lv_sub hl [0] rfl)
  · rw [if_pos c3] at h
    refine lv_iconst (v := (0 : Int32)) hx hb dX13_among_7 (by decide) ?_
    exact W.iret (v := (0 : Int32)) hx hb hr (fun t ht hW => by rw [hqq]; have hh := Option.some.inj h; exact ⟨⟨(0 : Int32), ((gfl, grd)), rfl, ⟨fst_of hh, snd_of hh⟩, by rw [ht]; exact hP, va_K.moved hW.alike hK⟩, hS.F ht⟩) hS.2.2 dX13_among_8

abbrev w_X13_figures (cy : Nat → ClassId) (a0 : Nat → Nat) (a1 : Nat → Nat) (n1 : Nat) (gth_0 : Int32) (gvm_0 : Int32 × Int32 × Int32 × (Nat → Int32) × (Nat → Int32) × (Nat → Int32) × (Nat → Int32) × (Nat → Int32) × (Nat → Int32) × (Nat → Int32) × (Nat → Int32) × (Nat → Int32)) (gtt_0 : (Nat → Int32)) (gtd_0 : Int32) (gfl_0 : Int32 × Int32) (grd_0 : Int32 × Int32 × Int32 × Int32 × Int32 × Int32 × Int64 × (Nat → Int32)) (gnv_0 : Int32 × Int32 × Int32 × Int32 × Int32 × (Nat → Int32) × (Nat → Int32) × (Nat → Int32) × (Nat → Int32) × (Nat → Int32) × (Nat → Int32)) (gac_0 : Int32 × (Nat → Int32) × (Nat → Int32)) (grc_0 : Int32 × (Nat → Int32)) (gim_0 : Int32 × Int32 × Int32 × (Nat → Int32) × (Nat → Int32) × (Nat → Int32) × (Nat → Int32) × (Nat → Int32) × (Nat → Int32) × (Nat → Int32) × (Nat → Int32) × (Nat → Int32)) (gar_1 : (Nat → Int32)) : va_W := [(a0 0, .inr (11, [.int (gth_0), .int (gvm_0.1), .int (gvm_0.2.1), .int (gvm_0.2.2.1), .ref (a0 1), .ref (a0 2), .ref (a0 3), .ref (a0 4), .ref (a0 5), .ref (a0 6), .ref (a0 7), .ref (a0 8), .ref (a0 9), .ref (a0 10), .int (gtd_0), .int (gfl_0.1), .int (gfl_0.2), .ref (a0 11), .int (grd_0.1), .int (grd_0.2.1), .int (grd_0.2.2.1), .int (grd_0.2.2.2.1), .int (grd_0.2.2.2.2.1), .int (grd_0.2.2.2.2.2.1), .long (grd_0.2.2.2.2.2.2.1), .ref (a0 12), .int (gnv_0.1), .int (gnv_0.2.1), .int (gnv_0.2.2.1), .int (gnv_0.2.2.2.1), .int (gnv_0.2.2.2.2.1), .ref (a0 13), .ref (a0 14), .ref (a0 15), .ref (a0 16), .ref (a0 17), .ref (a0 18), .int (gac_0.1), .ref (a0 19), .ref (a0 20), .ref (a0 21), .ref (a0 22), .ref (a0 23), .ref (a0 24), .ref (a0 25), .ref (a0 26), .ref (a0 27), .int (grc_0.1), .ref (a0 28), .ref (a0 29), .ref (a0 30), .ref (a0 31), .int (gim_0.1), .int (gim_0.2.1), .int (gim_0.2.2.1), .ref (a0 32), .ref (a0 33), .ref (a0 34), .ref (a0 35), .ref (a0 36), .ref (a0 37), .ref (a0 38), .ref (a0 39), .ref (a0 40)])), (a0 10, .inl (cy 1, 600, .inl (gtt_0))), (a0 12, .inl (cy 1, 5, .inl (grd_0.2.2.2.2.2.2.2))), (a1 0, .inl (cy 1, n1, .inl (gar_1)))]
abbrev rm_X13_figures : Room := { frames := 2, cells := 0, slots := 0, locals := 43 }
set_option maxHeartbeats 1000000 in
set_option maxRecDepth 100000 in
theorem c_X13_figures (l : Launch) (dC : Nat → ClassId) (dI : Nat → Nat → Nat) (cy : Nat → ClassId) (a0 : Nat → Nat) (a1 : Nat → Nat) (n1 : Nat) (gth_0 : Int32) (gvm_0 : Int32 × Int32 × Int32 × (Nat → Int32) × (Nat → Int32) × (Nat → Int32) × (Nat → Int32) × (Nat → Int32) × (Nat → Int32) × (Nat → Int32) × (Nat → Int32) × (Nat → Int32)) (gtt_0 : (Nat → Int32)) (gtd_0 : Int32) (gfl_0 : Int32 × Int32) (grd_0 : Int32 × Int32 × Int32 × Int32 × Int32 × Int32 × Int64 × (Nat → Int32)) (gnv_0 : Int32 × Int32 × Int32 × Int32 × Int32 × (Nat → Int32) × (Nat → Int32) × (Nat → Int32) × (Nat → Int32) × (Nat → Int32) × (Nat → Int32)) (gac_0 : Int32 × (Nat → Int32) × (Nat → Int32)) (grc_0 : Int32 × (Nat → Int32)) (gim_0 : Int32 × Int32 × Int32 × (Nat → Int32) × (Nat → Int32) × (Nat → Int32) × (Nat → Int32) × (Nat → Int32) × (Nat → Int32) × (Nat → Int32) × (Nat → Int32) × (Nat → Int32)) (gar_1 : (Nat → Int32)) (x2 : Int32) (sz : Nat) (R0 : Int32 × (Int32 × Int32) × (Int32 × Int32 × Int32 × Int32 × Int32 × Int32 × Int64 × (Nat → Int32)) × ((Nat → Int32))) (h : p_X13_figures n1 gtt_0 gfl_0 grd_0 gar_1 x2 = some R0) : Met l yX13_figures wsX13_figures rm_X13_figures (va_Pc [.ref (a0 0), .ref (a1 0), .int x2] (prC dC dI cy (w_X13_figures cy a0 a1 n1 gth_0 gvm_0 gtt_0 gtd_0 gfl_0 grd_0 gnv_0 gac_0 grc_0 gim_0 gar_1) sz)) (va_Qi (fun (r : Int32) (u : (Int32 × Int32) × (Int32 × Int32 × Int32 × Int32 × Int32 × Int32 × Int64 × (Nat → Int32)) × ((Nat → Int32))) => r = R0.1 ∧ u = R0.2) (fun (u : (Int32 × Int32) × (Int32 × Int32 × Int32 × Int32 × Int32 × Int32 × Int64 × (Nat → Int32)) × ((Nat → Int32))) t => poC dC dI cy (w_X13_figures cy a0 a1 n1 gth_0 gvm_0 gtt_0 gtd_0 u.1 u.2.1 gnv_0 gac_0 grc_0 gim_0 u.2.2) t) (va_A (w_X13_figures cy a0 a1 n1 gth_0 gvm_0 gtt_0 gtd_0 gfl_0 grd_0 gnv_0 gac_0 grc_0 gim_0 gar_1) sz)) 0 0 (va_A (w_X13_figures cy a0 a1 n1 gth_0 gvm_0 gtt_0 gtd_0 gfl_0 grd_0 gnv_0 gac_0 grc_0 gim_0 gar_1) sz) := by
  refine Met.ofW (cc := cX13_figures) (maxL := 5) (ret := (some .int)) (by decide) rfl ?_
  intro p e s m aa below meth c s₁ B hml hv
  obtain ⟨haa, hsz, hP, hK, hD0⟩ := hv
  have hx := B.exec
  have hb := B.bytes
  have hr := B.returns
  have hts := atoms_spec (ws := wsX13_figures) B.pre
  have hown : s.vm.findClass RX13 = some m.cls := findClass_of_methodNamed B.named
  have hlocks := B.notSynchronized
  subst hsz
  have hD := hD0.self (sz := s.heap.size)
  obtain ⟨qq, hqq⟩ : ∃ qq, qq = (va_Qi (fun (r : Int32) (u : (Int32 × Int32) × (Int32 × Int32 × Int32 × Int32 × Int32 × Int32 × Int64 × (Nat → Int32)) × ((Nat → Int32))) => r = R0.1 ∧ u = R0.2) (fun (u : (Int32 × Int32) × (Int32 × Int32 × Int32 × Int32 × Int32 × Int32 × Int64 × (Nat → Int32)) × ((Nat → Int32))) t => poC dC dI cy (w_X13_figures cy a0 a1 n1 gth_0 gvm_0 gtt_0 gtd_0 u.1 u.2.1 gnv_0 gac_0 grc_0 gim_0 u.2.2) t) (va_A (w_X13_figures cy a0 a1 n1 gth_0 gvm_0 gtt_0 gtd_0 gfl_0 grd_0 gnv_0 gac_0 grc_0 gim_0 gar_1) s.heap.size)) := ⟨_, rfl⟩
  rw [← hqq]
  generalize hAe : va_A (w_X13_figures cy a0 a1 n1 gth_0 gvm_0 gtt_0 gtd_0 gfl_0 grd_0 gnv_0 gac_0 grc_0 gim_0 gar_1) s.heap.size = A at hD hqq ⊢
  have hA : ∀ q : Nat, s.heap.size ≤ q → A q := fun q h => by rw [← hAe]; exact Or.inr h
  have hS : va_S A s.heap s.heap [] := va_S.rf
  have hl := lv_entry ([.ref (a0 0), .ref (a1 0), .int x2]) (n := 5) (Nat.le_of_ble_eq_true rfl)
  have hE : entryFrame m aa 5 = F0 m 0 ((lg_sl ([.ref (a0 0), .ref (a1 0), .int x2]) ++ List.replicate (5 - (lg_sl ([.ref (a0 0), .ref (a1 0), .int x2])).length) Slot.unset).toArray) [] := by rw [haa]; exact lg_entry_eq m _ 5
  refine W.eq hE ?_
  generalize (lg_sl ([.ref (a0 0), .ref (a1 0), .int x2]) ++ List.replicate (5 - (lg_sl ([.ref (a0 0), .ref (a1 0), .int x2])).length) Slot.unset).toArray = ls at hl ⊢
  have hl : lv_has ls 5 [(0, .ref (a0 0)), (1, .ref (a1 0)), (2, .int x2)] := hl
  change W p l e rm_X13_figures s m aa below meth c s.heap [] 0 0 (MQ below qq aa s 0 0 A) (F0 m 0 ls [])
  have hS0 := hS
  have lk0 := hts (.fieldLink RX13 47 "GoatDoorsModel" "row" "[I") (by decide +kernel)
  have lk1 := hts (.fieldLink RX13 175 "GoatDoorsModel" "long0" "I") (by decide +kernel)
  have lk2 := hts (.fieldLink RX13 165 "GoatDoorsModel" "sort" "I") (by decide +kernel)
  have in_X13 : ∀ w ∈ wsX130, w ∈ wsX13_figures := by decide +kernel
  have c81 : ∀ (_u : Unit), ∀ (gfl_0 : Int32 × Int32) (grd_0 : Int32 × Int32 × Int32 × Int32 × Int32 × Int32 × Int64 × (Nat → Int32)) (gar_1 : (Nat → Int32)) (x3 : Int32) (H : Heap) (locs : List Loc) (ls : Array Slot), p_X13_figures_81 n1 gtt_0 gfl_0 grd_0 gar_1 x3 = some R0 → va_P (dC, dI) vwCl (w_X13_figures cy a0 a1 n1 gth_0 gvm_0 gtt_0 gtd_0 gfl_0 grd_0 gnv_0 gac_0 grc_0 gim_0 gar_1) H → va_D A (w_X13_figures cy a0 a1 n1 gth_0 gvm_0 gtt_0 gtd_0 gfl_0 grd_0 gnv_0 gac_0 grc_0 gim_0 gar_1) → va_S A s.heap H locs → lv_has ls 5 [(0, .ref (a0 0)), (3, .int x3)] → W p l e rm_X13_figures s m aa below meth c H locs 0 0 (MQ below qq aa s 0 0 A) (F0 m 81 ls []) := by
    intro _ gfl_0 grd_0 gar_1 x3 H locs ls h hP hD hS hl
    unfold p_X13_figures_81 at h
    refine lv_aload_n hx hb dX13_figures_81 rfl (lv_at hl 0 rfl) ?_
    obtain ⟨v1, hv2, h⟩ := ok_bind h
    refine cl_vi (w2 := fun (_ : Unit) => w_X13_figures cy a0 a1 n1 gth_0 gvm_0 gtt_0 gtd_0 gfl_0 grd_0 gnv_0 gac_0 grc_0 gim_0 gar_1) (As := []) (rest := []) ⟨hx, hb, hml, hown, hts⟩ (c_X13_isGood l dC dI cy a0 gth_0 gvm_0 gtd_0 gfl_0 grd_0 gnv_0 gac_0 grc_0 gim_0 H.size v1 hv2) (cwV 0 hts gX13_figures_X13_isGood rfl rfl rfl (by decide +kernel) ⟨Nat.le_of_ble_eq_true rfl, Nat.le_of_ble_eq_true rfl⟩) (va_recv hK hP (ci := 11) (q0 := 0) rfl rfl) cl_blind (cl_pre hK hP hD [0] (by decide) rfl) hP hD hS hA [0] rfl rfl hl.1 rfl (lv_room (Nat.le_of_ble_eq_true rfl)) dX13_figures_82 ⟨Nat.le_of_ble_eq_true rfl, Nat.le_of_ble_eq_true rfl⟩ ⟨rfl, rfl⟩ (fun _ => updR [0] rfl) (fun r u H locs hw hP hD hS => ?_)
    have hw := hw.symm
    subst hw
    have hP : va_P (dC, dI) vwCl (w_X13_figures cy a0 a1 n1 gth_0 gvm_0 gtt_0 gtd_0 gfl_0 grd_0 gnv_0 gac_0 grc_0 gim_0 gar_1) H := hP
    have hD : va_D A (w_X13_figures cy a0 a1 n1 gth_0 gvm_0 gtt_0 gtd_0 gfl_0 grd_0 gnv_0 gac_0 grc_0 gim_0 gar_1) := hD
    refine lv_if_eq (tgt := 92) hx hb dX13_figures_85 (by decide) (fun c3 => ?_) (fun c3 => ?_)
    · rw [if_pos c3] at h
      refine lv_iload_n hx hb dX13_figures_92 rfl (lv_at hl 1 rfl) ?_
      exact W.iret (v := x3) hx hb hr (fun t ht hW => by rw [hqq]; have hh := Option.some.inj h; exact ⟨⟨x3, ((gfl_0, grd_0, gar_1)), rfl, ⟨fst_of hh, snd_of hh⟩, by rw [ht]; exact hP, va_K.moved hW.alike hK⟩, hS.F ht⟩) hS.2.2 dX13_figures_93
    · rw [if_neg c3] at h
      refine lv_aload_n hx hb dX13_figures_88 rfl (lv_at hl 0 rfl) ?_
      obtain ⟨v4, hv5, h⟩ := ok_bind h
      refine cl_vv (w2 := fun (u : (Int32 × Int32 × Int32 × Int32 × Int32 × Int32 × Int64 × (Nat → Int32))) => w_X13_figures cy a0 a1 n1 gth_0 gvm_0 gtt_0 gtd_0 gfl_0 u gnv_0 gac_0 grc_0 gim_0 gar_1) (As := []) (rest := []) ⟨hx, hb, hml, hown, hts⟩ (c_X13_steps l dC dI cy a0 gth_0 gvm_0 gtt_0 gtd_0 gfl_0 grd_0 gnv_0 gac_0 grc_0 gim_0 H.size v4 hv5) (cwV 0 hts gX13_figures_X13_steps rfl rfl rfl (by decide +kernel) ⟨Nat.le_of_ble_eq_true rfl, Nat.le_of_ble_eq_true rfl⟩) (va_recv hK hP (ci := 11) (q0 := 0) rfl rfl) cl_blind (cl_pre hK hP hD [0, 1, 2] (by decide) rfl) hP hD hS hA [0, 1, 2] rfl rfl hl.1 rfl (lv_room (Nat.le_of_ble_eq_true rfl)) dX13_figures_89 ⟨Nat.le_of_ble_eq_true rfl, Nat.le_of_ble_eq_true rfl⟩ ⟨rfl, rfl⟩ (fun _ => updM [0, 1, 2] [3] [(a1 0, .inl (cy 1, n1, .inl (gar_1)))] 4 rfl rfl rfl rfl rfl (by decide +kernel) (by decide +kernel) rfl) (fun u H locs hw hP hD hS => ?_)
      have hw := hw.symm
      subst hw
      have hP : va_P (dC, dI) vwCl (w_X13_figures cy a0 a1 n1 gth_0 gvm_0 gtt_0 gtd_0 gfl_0 v4 gnv_0 gac_0 grc_0 gim_0 gar_1) H := hP
      have hD : va_D A (w_X13_figures cy a0 a1 n1 gth_0 gvm_0 gtt_0 gtd_0 gfl_0 v4 gnv_0 gac_0 grc_0 gim_0 gar_1) := hD
      refine lv_iload_n hx hb dX13_figures_92 rfl (lv_at hl 1 rfl) ?_
      exact W.iret (v := x3) hx hb hr (fun t ht hW => by rw [hqq]; have hh := Option.some.inj h; exact ⟨⟨x3, ((gfl_0, v4, gar_1)), rfl, ⟨fst_of hh, snd_of hh⟩, by rw [ht]; exact hP, va_K.moved hW.alike hK⟩, hS.F ht⟩) hS.2.2 dX13_figures_93
  have c49 : ∀ (n : Nat), ∀ (gfl_0 : Int32 × Int32) (grd_0 : Int32 × Int32 × Int32 × Int32 × Int32 × Int32 × Int64 × (Nat → Int32)) (gar_1 : (Nat → Int32)) (x2 : Int32) (x3 : Int32) (x4 : Int32) (H : Heap) (locs : List Loc) (ls : Array Slot), p_X13_figures_49 n1 gtt_0 n gfl_0 grd_0 gar_1 x2 x3 x4 = some R0 → va_P (dC, dI) vwCl (w_X13_figures cy a0 a1 n1 gth_0 gvm_0 gtt_0 gtd_0 gfl_0 grd_0 gnv_0 gac_0 grc_0 gim_0 gar_1) H → va_D A (w_X13_figures cy a0 a1 n1 gth_0 gvm_0 gtt_0 gtd_0 gfl_0 grd_0 gnv_0 gac_0 grc_0 gim_0 gar_1) → va_S A s.heap H locs → lv_has ls 5 [(0, .ref (a0 0)), (1, .ref (a1 0)), (2, .int x2), (3, .int x3), (4, .int x4)] → W p l e rm_X13_figures s m aa below meth c H locs 0 0 (MQ below qq aa s 0 0 A) (F0 m 49 ls []) := by
    intro  n
    induction n with
    | zero => intro gfl_0 grd_0 gar_1 x2 x3 x4 H locs ls h; exact no_some h
    | succ n ih =>
      intro gfl_0 grd_0 gar_1 x2 x3 x4 H locs ls h hP hD hS hl
      rw [p_X13_figures_49.eq_2] at h
      refine lv_iload hx hb dX13_figures_49 (lv_at hl 4 rfl) ?_
      refine lv_iload_n hx hb dX13_figures_51 rfl (lv_at hl 3 rfl) ?_
      refine lv_icmp_ge (tgt := 81) hx hb dX13_figures_52 (by decide) (fun c1 => ?_) (fun c1 => ?_)
      · rw [if_pos c1] at h
        exact c81 () gfl_0 grd_0 gar_1 x3 H locs ls h hP hD hS (lv_sub hl [0, 3] rfl)
      · rw [if_neg c1] at h
        refine lv_aload_n hx hb dX13_figures_55 rfl (lv_at hl 0 rfl) ?_
        obtain ⟨v2, hv3, h⟩ := ok_bind h
        refine cl_vi (w2 := fun (_ : Unit) => w_X13_figures cy a0 a1 n1 gth_0 gvm_0 gtt_0 gtd_0 gfl_0 grd_0 gnv_0 gac_0 grc_0 gim_0 gar_1) (As := []) (rest := []) ⟨hx, hb, hml, hown, hts⟩ (c_X13_isGood l dC dI cy a0 gth_0 gvm_0 gtd_0 gfl_0 grd_0 gnv_0 gac_0 grc_0 gim_0 H.size v2 hv3) (cwV 0 hts gX13_figures_X13_isGood rfl rfl rfl (by decide +kernel) ⟨Nat.le_of_ble_eq_true rfl, Nat.le_of_ble_eq_true rfl⟩) (va_recv hK hP (ci := 11) (q0 := 0) rfl rfl) cl_blind (cl_pre hK hP hD [0] (by decide) rfl) hP hD hS hA [0] rfl rfl hl.1 rfl (lv_room (Nat.le_of_ble_eq_true rfl)) dX13_figures_56 ⟨Nat.le_of_ble_eq_true rfl, Nat.le_of_ble_eq_true rfl⟩ ⟨rfl, rfl⟩ (fun _ => updR [0] rfl) (fun r u H locs hw hP hD hS => ?_)
        have hw := hw.symm
        subst hw
        have hP : va_P (dC, dI) vwCl (w_X13_figures cy a0 a1 n1 gth_0 gvm_0 gtt_0 gtd_0 gfl_0 grd_0 gnv_0 gac_0 grc_0 gim_0 gar_1) H := hP
        have hD : va_D A (w_X13_figures cy a0 a1 n1 gth_0 gvm_0 gtt_0 gtd_0 gfl_0 grd_0 gnv_0 gac_0 grc_0 gim_0 gar_1) := hD
        refine lv_if_eq (tgt := 81) hx hb dX13_figures_59 (by decide) (fun c4 => ?_) (fun c4 => ?_)
        · rw [if_pos c4] at h
          exact c81 () gfl_0 grd_0 gar_1 x3 H locs ls h hP hD hS (lv_sub hl [0, 3] rfl)
        · rw [if_neg c4] at h
          refine lv_aload_n hx hb dX13_figures_62 rfl (lv_at hl 1 rfl) ?_
          refine lv_iload_n hx hb dX13_figures_63 rfl (lv_at hl 2 rfl) ?_
          refine lv_iload hx hb dX13_figures_64 (lv_at hl 4 rfl) ?_
          refine lv_iadd hx hb dX13_figures_66 ?_
          refine lv_aload_n hx hb dX13_figures_67 rfl (lv_at hl 0 rfl) ?_
          refine va_get (D := (dC, dI)) (ci := 11) (v := .ref (a0 12)) (C := RX13) (T := TX13) (N := 64) hx hb hts in_X13 hown hK hP 0 rfl rfl 25 (by decide) lk0 (fun _ h9 => h9) rfl dX13_figures_68 ?_
          refine lv_iload hx hb dX13_figures_71 (lv_at hl 4 rfl) ?_
          obtain ⟨hi5, h⟩ := ok_if h
          refine va_iald hx hb hK hP 2 1 rfl rfl (ix_in hi5) dX13_figures_73 ?_
          obtain ⟨hi6, h⟩ := ok_if h
          refine va_iast hx hb hK hP hD hS 3 1 rfl rfl (ix_in hi6) dX13_figures_74 (fun H locs hP hD hS => ?_)
          have hP : va_P (dC, dI) vwCl (w_X13_figures cy a0 a1 n1 gth_0 gvm_0 gtt_0 gtd_0 gfl_0 grd_0 gnv_0 gac_0 grc_0 gim_0 ((upd gar_1 (x2 + x4).toNatClampNeg (grd_0.2.2.2.2.2.2.2 x4.toNatClampNeg)))) H := hP
          have hD : va_D A (w_X13_figures cy a0 a1 n1 gth_0 gvm_0 gtt_0 gtd_0 gfl_0 grd_0 gnv_0 gac_0 grc_0 gim_0 ((upd gar_1 (x2 + x4).toNatClampNeg (grd_0.2.2.2.2.2.2.2 x4.toNatClampNeg)))) := hD
          refine lv_iinc (v := (x4 + (1 : Int32))) (lv' := [(4, .int (x4 + (1 : Int32))), (0, .ref (a0 0)), (1, .ref (a1 0)), (2, .int x2), (3, .int x3)]) hx hb dX13_figures_75 hl (k := 4) rfl rfl (by decide) rfl (fun ls hl => ?_)
          refine lv_goto (tgt := 49) hx hb dX13_figures_78 (by decide) ?_
          exact ih gfl_0 grd_0 (upd gar_1 (x2 + x4).toNatClampNeg (grd_0.2.2.2.2.2.2.2 x4.toNatClampNeg)) x2 x3 (x4 + (1 : Int32)) H locs ls h hP hD hS (lv_sub hl [1, 2, 3, 4, 0] rfl)
  have c39 : ∀ (_u : Unit), ∀ (gfl_0 : Int32 × Int32) (grd_0 : Int32 × Int32 × Int32 × Int32 × Int32 × Int32 × Int64 × (Nat → Int32)) (gar_1 : (Nat → Int32)) (x2 : Int32) (H : Heap) (locs : List Loc) (ls : Array Slot), p_X13_figures_39 n1 gtt_0 gfl_0 grd_0 gar_1 x2 = some R0 → va_P (dC, dI) vwCl (w_X13_figures cy a0 a1 n1 gth_0 gvm_0 gtt_0 gtd_0 gfl_0 grd_0 gnv_0 gac_0 grc_0 gim_0 gar_1) H → va_D A (w_X13_figures cy a0 a1 n1 gth_0 gvm_0 gtt_0 gtd_0 gfl_0 grd_0 gnv_0 gac_0 grc_0 gim_0 gar_1) → va_S A s.heap H locs → lv_has ls 5 [(0, .ref (a0 0)), (1, .ref (a1 0)), (2, .int x2)] → W p l e rm_X13_figures s m aa below meth c H locs 0 0 (MQ below qq aa s 0 0 A) (F0 m 39 ls []) := by
    intro _ gfl_0 grd_0 gar_1 x2 H locs ls h hP hD hS hl
    unfold p_X13_figures_39 at h
    refine lv_aload_n hx hb dX13_figures_39 rfl (lv_at hl 0 rfl) ?_
    refine va_get (D := (dC, dI)) (ci := 11) (v := .int grd_0.2.2.2.2.1) (C := RX13) (T := TX13) (N := 64) hx hb hts in_X13 hown hK hP 0 rfl rfl 22 (by decide) lk1 (fun _ h9 => h9) rfl dX13_figures_40 ?_
    refine lv_iconst (v := (1 : Int32)) hx hb dX13_figures_43 (by decide) ?_
    refine lv_isub hx hb dX13_figures_44 ?_
    refine lv_istore_n (lv' := [(3, .int (grd_0.2.2.2.2.1 - (1 : Int32))), (0, .ref (a0 0)), (1, .ref (a1 0)), (2, .int x2)]) hx hb dX13_figures_45 rfl hl (by decide) rfl (fun ls hl => ?_)
    refine lv_iconst (v := (0 : Int32)) hx hb dX13_figures_46 (by decide) ?_
    refine lv_istore (lv' := [(4, .int (0 : Int32)), (3, .int (grd_0.2.2.2.2.1 - (1 : Int32))), (0, .ref (a0 0)), (1, .ref (a1 0)), (2, .int x2)]) hx hb dX13_figures_47 hl (by decide) rfl (fun ls hl => ?_)
    exact c49 fu gfl_0 grd_0 gar_1 x2 (grd_0.2.2.2.2.1 - (1 : Int32)) (0 : Int32) H locs ls h hP hD hS (lv_sub hl [2, 3, 4, 1, 0] rfl)
  obtain ⟨H, hH⟩ : ∃ H : Heap, H = s.heap := ⟨_, rfl⟩
  obtain ⟨locs, hlocs⟩ : ∃ locs : List Loc, locs = [] := ⟨_, rfl⟩
  have hS : va_S A s.heap H locs := by rw [hH, hlocs]; exact hS
  rw [← hH] at hP
  suffices hg : W p l e rm_X13_figures s m aa below meth c H locs 0 0 (MQ below qq aa s 0 0 A) (F0 m 0 ls []) by subst hH; subst hlocs; exact hg
  unfold p_X13_figures at h
  refine lv_aload_n hx hb dX13_figures_0 rfl (lv_at hl 0 rfl) ?_
  obtain ⟨v1, hv2, h⟩ := ok_bind h
  refine cl_vi (w2 := fun (_ : Unit) => w_X13_figures cy a0 a1 n1 gth_0 gvm_0 gtt_0 gtd_0 gfl_0 grd_0 gnv_0 gac_0 grc_0 gim_0 gar_1) (As := []) (rest := []) ⟨hx, hb, hml, hown, hts⟩ (c_X13_isGood l dC dI cy a0 gth_0 gvm_0 gtd_0 gfl_0 grd_0 gnv_0 gac_0 grc_0 gim_0 H.size v1 hv2) (cwV 0 hts gX13_figures_X13_isGood rfl rfl rfl (by decide +kernel) ⟨Nat.le_of_ble_eq_true rfl, Nat.le_of_ble_eq_true rfl⟩) (va_recv hK hP (ci := 11) (q0 := 0) rfl rfl) cl_blind (cl_pre hK hP hD [0] (by decide) rfl) hP hD hS hA [0] rfl rfl hl.1 rfl (lv_room (Nat.le_of_ble_eq_true rfl)) dX13_figures_1 ⟨Nat.le_of_ble_eq_true rfl, Nat.le_of_ble_eq_true rfl⟩ ⟨rfl, rfl⟩ (fun _ => updR [0] rfl) (fun r u H locs hw hP hD hS => ?_)
  have hw := hw.symm
  subst hw
  have hP : va_P (dC, dI) vwCl (w_X13_figures cy a0 a1 n1 gth_0 gvm_0 gtt_0 gtd_0 gfl_0 grd_0 gnv_0 gac_0 grc_0 gim_0 gar_1) H := hP
  have hD : va_D A (w_X13_figures cy a0 a1 n1 gth_0 gvm_0 gtt_0 gtd_0 gfl_0 grd_0 gnv_0 gac_0 grc_0 gim_0 gar_1) := hD
  refine lv_if_ne (tgt := 9) hx hb dX13_figures_4 (by decide) (fun c3 => ?_) (fun c3 => ?_)
  · rw [if_neg c3] at h
    refine lv_aload_n hx hb dX13_figures_9 rfl (lv_at hl 0 rfl) ?_
    refine va_get (D := (dC, dI)) (ci := 11) (v := .int grd_0.2.2.1) (C := RX13) (T := TX13) (N := 64) hx hb hts in_X13 hown hK hP 0 rfl rfl 20 (by decide) lk2 (fun _ h9 => h9) rfl dX13_figures_10 ?_
    refine lv_iconst (v := (3 : Int32)) hx hb dX13_figures_13 (by decide) ?_
    refine lv_icmp_eq (tgt := 25) hx hb dX13_figures_14 (by decide) (fun c4 => ?_) (fun c4 => ?_)
    · rw [if_pos c4] at h
      refine lv_aload_n hx hb dX13_figures_25 rfl (lv_at hl 0 rfl) ?_
      refine va_get (D := (dC, dI)) (ci := 11) (v := .int grd_0.2.2.2.2.1) (C := RX13) (T := TX13) (N := 64) hx hb hts in_X13 hown hK hP 0 rfl rfl 22 (by decide) lk1 (fun _ h9 => h9) rfl dX13_figures_26 ?_
      refine lv_bipush (v := (6 : Int32)) hx hb dX13_figures_29 (by decide) ?_
      refine lv_icmp_le (tgt := 39) hx hb dX13_figures_31 (by decide) (fun c5 => ?_) (fun c5 => ?_)
      · rw [if_pos c5] at h
        exact c39 () gfl_0 grd_0 gar_1 x2 H locs ls h hP hD hS (lv_sub hl [0, 1, 2] rfl)
      · rw [if_neg c5] at h
        refine lv_aload_n hx hb dX13_figures_34 rfl (lv_at hl 0 rfl) ?_
        refine lv_iconst (v := (2 : Int32)) hx hb dX13_figures_35 (by decide) ?_
        obtain ⟨v6, hv7, h⟩ := ok_bind h
        refine cl_vv (w2 := fun (u : (Int32 × Int32)) => w_X13_figures cy a0 a1 n1 gth_0 gvm_0 gtt_0 gtd_0 u grd_0 gnv_0 gac_0 grc_0 gim_0 gar_1) (As := [.int (2 : Int32)]) (rest := []) ⟨hx, hb, hml, hown, hts⟩ (c_X13_wrong l dC dI cy a0 gth_0 gvm_0 gtd_0 gfl_0 grd_0 gnv_0 gac_0 grc_0 gim_0 (2 : Int32) H.size v6 hv7) (cwV 1 hts gX13_figures_X13_wrong rfl rfl rfl (by decide +kernel) ⟨Nat.le_of_ble_eq_true rfl, Nat.le_of_ble_eq_true rfl⟩) (va_recv hK hP (ci := 11) (q0 := 0) rfl rfl) cl_blind (cl_pre hK hP hD [0, 2] (by decide) rfl) hP hD hS hA [0, 2] rfl rfl hl.1 rfl (lv_room (Nat.le_of_ble_eq_true rfl)) dX13_figures_36 ⟨Nat.le_of_ble_eq_true rfl, Nat.le_of_ble_eq_true rfl⟩ ⟨rfl, rfl⟩ (fun _ => updM [0, 2] [1, 3] [(a0 10, .inl (cy 1, 600, .inl (gtt_0))), (a1 0, .inl (cy 1, n1, .inl (gar_1)))] 4 rfl rfl rfl rfl rfl (by decide +kernel) (by decide +kernel) rfl) (fun u H locs hw hP hD hS => ?_)
        have hw := hw.symm
        subst hw
        have hP : va_P (dC, dI) vwCl (w_X13_figures cy a0 a1 n1 gth_0 gvm_0 gtt_0 gtd_0 v6 grd_0 gnv_0 gac_0 grc_0 gim_0 gar_1) H := hP
        have hD : va_D A (w_X13_figures cy a0 a1 n1 gth_0 gvm_0 gtt_0 gtd_0 v6 grd_0 gnv_0 gac_0 grc_0 gim_0 gar_1) := hD
        exact c39 () v6 grd_0 gar_1 x2 H locs ls h hP hD hS (lv_sub hl [0, 1, 2] rfl)
    · rw [if_neg c4] at h
      refine lv_aload_n hx hb dX13_figures_17 rfl (lv_at hl 0 rfl) ?_
      refine lv_iconst (v := (1 : Int32)) hx hb dX13_figures_18 (by decide) ?_
      obtain ⟨v8, hv9, h⟩ := ok_bind h
      refine cl_vv (w2 := fun (u : (Int32 × Int32)) => w_X13_figures cy a0 a1 n1 gth_0 gvm_0 gtt_0 gtd_0 u grd_0 gnv_0 gac_0 grc_0 gim_0 gar_1) (As := [.int (1 : Int32)]) (rest := []) ⟨hx, hb, hml, hown, hts⟩ (c_X13_wrong l dC dI cy a0 gth_0 gvm_0 gtd_0 gfl_0 grd_0 gnv_0 gac_0 grc_0 gim_0 (1 : Int32) H.size v8 hv9) (cwV 1 hts gX13_figures_X13_wrong rfl rfl rfl (by decide +kernel) ⟨Nat.le_of_ble_eq_true rfl, Nat.le_of_ble_eq_true rfl⟩) (va_recv hK hP (ci := 11) (q0 := 0) rfl rfl) cl_blind (cl_pre hK hP hD [0, 2] (by decide) rfl) hP hD hS hA [0, 2] rfl rfl hl.1 rfl (lv_room (Nat.le_of_ble_eq_true rfl)) dX13_figures_19 ⟨Nat.le_of_ble_eq_true rfl, Nat.le_of_ble_eq_true rfl⟩ ⟨rfl, rfl⟩ (fun _ => updM [0, 2] [1, 3] [(a0 10, .inl (cy 1, 600, .inl (gtt_0))), (a1 0, .inl (cy 1, n1, .inl (gar_1)))] 4 rfl rfl rfl rfl rfl (by decide +kernel) (by decide +kernel) rfl) (fun u H locs hw hP hD hS => ?_)
      have hw := hw.symm
      subst hw
      have hP : va_P (dC, dI) vwCl (w_X13_figures cy a0 a1 n1 gth_0 gvm_0 gtt_0 gtd_0 v8 grd_0 gnv_0 gac_0 grc_0 gim_0 gar_1) H := hP
      have hD : va_D A (w_X13_figures cy a0 a1 n1 gth_0 gvm_0 gtt_0 gtd_0 v8 grd_0 gnv_0 gac_0 grc_0 gim_0 gar_1) := hD
      refine lv_goto (tgt := 39) hx hb dX13_figures_22 (by decide) ?_
      exact c39 () v8 grd_0 gar_1 x2 H locs ls h hP hD hS (lv_sub hl [0, 1, 2] rfl)
  · rw [if_pos c3] at h
    refine lv_iconst (v := (0 : Int32)) hx hb dX13_figures_7 (by decide) ?_
    exact W.iret (v := (0 : Int32)) hx hb hr (fun t ht hW => by rw [hqq]; have hh := Option.some.inj h; exact ⟨⟨(0 : Int32), ((gfl_0, grd_0, gar_1)), rfl, ⟨fst_of hh, snd_of hh⟩, by rw [ht]; exact hP, va_K.moved hW.alike hK⟩, hS.F ht⟩) hS.2.2 dX13_figures_8

abbrev w_X13_line (cy : Nat → ClassId) (a0 : Nat → Nat) (gth : Int32) (gvm : Int32 × Int32 × Int32 × (Nat → Int32) × (Nat → Int32) × (Nat → Int32) × (Nat → Int32) × (Nat → Int32) × (Nat → Int32) × (Nat → Int32) × (Nat → Int32) × (Nat → Int32)) (gtt : (Nat → Int32)) (gtd : Int32) (gfl : Int32 × Int32) (grd : Int32 × Int32 × Int32 × Int32 × Int32 × Int32 × Int64 × (Nat → Int32)) (gnv : Int32 × Int32 × Int32 × Int32 × Int32 × (Nat → Int32) × (Nat → Int32) × (Nat → Int32) × (Nat → Int32) × (Nat → Int32) × (Nat → Int32)) (gac : Int32 × (Nat → Int32) × (Nat → Int32)) (grc : Int32 × (Nat → Int32)) (gim : Int32 × Int32 × Int32 × (Nat → Int32) × (Nat → Int32) × (Nat → Int32) × (Nat → Int32) × (Nat → Int32) × (Nat → Int32) × (Nat → Int32) × (Nat → Int32) × (Nat → Int32)) : va_W := [(a0 0, .inr (11, [.int (gth), .int (gvm.1), .int (gvm.2.1), .int (gvm.2.2.1), .ref (a0 1), .ref (a0 2), .ref (a0 3), .ref (a0 4), .ref (a0 5), .ref (a0 6), .ref (a0 7), .ref (a0 8), .ref (a0 9), .ref (a0 10), .int (gtd), .int (gfl.1), .int (gfl.2), .ref (a0 11), .int (grd.1), .int (grd.2.1), .int (grd.2.2.1), .int (grd.2.2.2.1), .int (grd.2.2.2.2.1), .int (grd.2.2.2.2.2.1), .long (grd.2.2.2.2.2.2.1), .ref (a0 12), .int (gnv.1), .int (gnv.2.1), .int (gnv.2.2.1), .int (gnv.2.2.2.1), .int (gnv.2.2.2.2.1), .ref (a0 13), .ref (a0 14), .ref (a0 15), .ref (a0 16), .ref (a0 17), .ref (a0 18), .int (gac.1), .ref (a0 19), .ref (a0 20), .ref (a0 21), .ref (a0 22), .ref (a0 23), .ref (a0 24), .ref (a0 25), .ref (a0 26), .ref (a0 27), .int (grc.1), .ref (a0 28), .ref (a0 29), .ref (a0 30), .ref (a0 31), .int (gim.1), .int (gim.2.1), .int (gim.2.2.1), .ref (a0 32), .ref (a0 33), .ref (a0 34), .ref (a0 35), .ref (a0 36), .ref (a0 37), .ref (a0 38), .ref (a0 39), .ref (a0 40)])), (a0 10, .inl (cy 1, 600, .inl (gtt))), (a0 12, .inl (cy 1, 5, .inl (grd.2.2.2.2.2.2.2))), (a0 13, .inl (cy 1, 5, .inl (gnv.2.2.2.2.2.1))), (a0 14, .inl (cy 1, 5, .inl (gnv.2.2.2.2.2.2.1))), (a0 15, .inl (cy 1, 10, .inl (gnv.2.2.2.2.2.2.2.1))), (a0 16, .inl (cy 1, 10, .inl (gnv.2.2.2.2.2.2.2.2.1))), (a0 17, .inl (cy 1, 10, .inl (gnv.2.2.2.2.2.2.2.2.2.1))), (a0 18, .inl (cy 1, 50, .inl (gnv.2.2.2.2.2.2.2.2.2.2)))]
abbrev rm_X13_line : Room := { frames := 3, cells := 0, slots := 0, locals := 70 }
set_option maxHeartbeats 1000000 in
set_option maxRecDepth 100000 in
theorem c_X13_line (l : Launch) (dC : Nat → ClassId) (dI : Nat → Nat → Nat) (cy : Nat → ClassId) (a0 : Nat → Nat) (gth : Int32) (gvm : Int32 × Int32 × Int32 × (Nat → Int32) × (Nat → Int32) × (Nat → Int32) × (Nat → Int32) × (Nat → Int32) × (Nat → Int32) × (Nat → Int32) × (Nat → Int32) × (Nat → Int32)) (gtt : (Nat → Int32)) (gtd : Int32) (gfl : Int32 × Int32) (grd : Int32 × Int32 × Int32 × Int32 × Int32 × Int32 × Int64 × (Nat → Int32)) (gnv : Int32 × Int32 × Int32 × Int32 × Int32 × (Nat → Int32) × (Nat → Int32) × (Nat → Int32) × (Nat → Int32) × (Nat → Int32) × (Nat → Int32)) (gac : Int32 × (Nat → Int32) × (Nat → Int32)) (grc : Int32 × (Nat → Int32)) (gim : Int32 × Int32 × Int32 × (Nat → Int32) × (Nat → Int32) × (Nat → Int32) × (Nat → Int32) × (Nat → Int32) × (Nat → Int32) × (Nat → Int32) × (Nat → Int32) × (Nat → Int32)) (sz : Nat) (R0 : (Int32 × Int32) × (Int32 × Int32 × Int32 × Int32 × Int32 × Int32 × Int64 × (Nat → Int32)) × (Int32 × Int32 × Int32 × Int32 × Int32 × (Nat → Int32) × (Nat → Int32) × (Nat → Int32) × (Nat → Int32) × (Nat → Int32) × (Nat → Int32))) (h : p_X13_line gtt gfl grd gnv = some R0) : Met l yX13_line wsX13_line rm_X13_line (va_Pc [.ref (a0 0)] (prC dC dI cy (w_X13_line cy a0 gth gvm gtt gtd gfl grd gnv gac grc gim) sz)) (va_Qv (fun (u : (Int32 × Int32) × (Int32 × Int32 × Int32 × Int32 × Int32 × Int32 × Int64 × (Nat → Int32)) × (Int32 × Int32 × Int32 × Int32 × Int32 × (Nat → Int32) × (Nat → Int32) × (Nat → Int32) × (Nat → Int32) × (Nat → Int32) × (Nat → Int32))) => u = R0) (fun (u : (Int32 × Int32) × (Int32 × Int32 × Int32 × Int32 × Int32 × Int32 × Int64 × (Nat → Int32)) × (Int32 × Int32 × Int32 × Int32 × Int32 × (Nat → Int32) × (Nat → Int32) × (Nat → Int32) × (Nat → Int32) × (Nat → Int32) × (Nat → Int32))) t => poC dC dI cy (w_X13_line cy a0 gth gvm gtt gtd u.1 u.2.1 u.2.2 gac grc gim) t) (va_A (w_X13_line cy a0 gth gvm gtt gtd gfl grd gnv gac grc gim) sz)) 0 0 (va_A (w_X13_line cy a0 gth gvm gtt gtd gfl grd gnv gac grc gim) sz) := by
  refine Met.ofW (cc := cX13_line) (maxL := 1) (ret := none) (by decide) rfl ?_
  intro p e s m aa below meth c s₁ B hml hv
  obtain ⟨haa, hsz, hP, hK, hD0⟩ := hv
  have hx := B.exec
  have hb := B.bytes
  have hr := B.returns
  have hts := atoms_spec (ws := wsX13_line) B.pre
  have hown : s.vm.findClass RX13 = some m.cls := findClass_of_methodNamed B.named
  have hlocks := B.notSynchronized
  subst hsz
  have hD := hD0.self (sz := s.heap.size)
  obtain ⟨qq, hqq⟩ : ∃ qq, qq = (va_Qv (fun (u : (Int32 × Int32) × (Int32 × Int32 × Int32 × Int32 × Int32 × Int32 × Int64 × (Nat → Int32)) × (Int32 × Int32 × Int32 × Int32 × Int32 × (Nat → Int32) × (Nat → Int32) × (Nat → Int32) × (Nat → Int32) × (Nat → Int32) × (Nat → Int32))) => u = R0) (fun (u : (Int32 × Int32) × (Int32 × Int32 × Int32 × Int32 × Int32 × Int32 × Int64 × (Nat → Int32)) × (Int32 × Int32 × Int32 × Int32 × Int32 × (Nat → Int32) × (Nat → Int32) × (Nat → Int32) × (Nat → Int32) × (Nat → Int32) × (Nat → Int32))) t => poC dC dI cy (w_X13_line cy a0 gth gvm gtt gtd u.1 u.2.1 u.2.2 gac grc gim) t) (va_A (w_X13_line cy a0 gth gvm gtt gtd gfl grd gnv gac grc gim) s.heap.size)) := ⟨_, rfl⟩
  rw [← hqq]
  generalize hAe : va_A (w_X13_line cy a0 gth gvm gtt gtd gfl grd gnv gac grc gim) s.heap.size = A at hD hqq ⊢
  have hA : ∀ q : Nat, s.heap.size ≤ q → A q := fun q h => by rw [← hAe]; exact Or.inr h
  have hS : va_S A s.heap s.heap [] := va_S.rf
  have hl := lv_entry ([.ref (a0 0)]) (n := 1) (Nat.le_of_ble_eq_true rfl)
  have hE : entryFrame m aa 1 = F0 m 0 ((lg_sl ([.ref (a0 0)]) ++ List.replicate (1 - (lg_sl ([.ref (a0 0)])).length) Slot.unset).toArray) [] := by rw [haa]; exact lg_entry_eq m _ 1
  refine W.eq hE ?_
  generalize (lg_sl ([.ref (a0 0)]) ++ List.replicate (1 - (lg_sl ([.ref (a0 0)])).length) Slot.unset).toArray = ls at hl ⊢
  have hl : lv_has ls 1 [(0, .ref (a0 0))] := hl
  change W p l e rm_X13_line s m aa below meth c s.heap [] 0 0 (MQ below qq aa s 0 0 A) (F0 m 0 ls [])
  have hS0 := hS
  have lk0 := hts (.fieldLink RX13 165 "GoatDoorsModel" "sort" "I") (by decide +kernel)
  have lk1 := hts (.fieldLink RX13 228 "GoatDoorsModel" "newLaw" "I") (by decide +kernel)
  have lk2 := hts (.fieldLink RX13 224 "GoatDoorsModel" "hasLaw" "Z") (by decide +kernel)
  have lk3 := hts (.fieldLink RX13 56 "GoatDoorsModel" "newBy" "[I") (by decide +kernel)
  have lk4 := hts (.fieldLink RX13 214 "GoatDoorsModel" "newDoors" "I") (by decide +kernel)
  have lk5 := hts (.fieldLink RX13 204 "GoatDoorsModel" "newOwners" "I") (by decide +kernel)
  have lk6 := hts (.fieldLink RX13 59 "GoatDoorsModel" "newTo" "[I") (by decide +kernel)
  have lk7 := hts (.fieldLink RX13 62 "GoatDoorsModel" "newMany" "[I") (by decide +kernel)
  have lk8 := hts (.fieldLink RX13 65 "GoatDoorsModel" "newFigure" "[I") (by decide +kernel)
  have lk9 := hts (.fieldLink RX13 207 "GoatDoorsModel" "total" "I") (by decide +kernel)
  have lk10 := hts (.fieldLink RX13 50 "GoatDoorsModel" "newGoats" "[I") (by decide +kernel)
  have lk11 := hts (.fieldLink RX13 53 "GoatDoorsModel" "newCan" "[I") (by decide +kernel)
  have in_X13 : ∀ w ∈ wsX130, w ∈ wsX13_line := by decide +kernel
  have c398 : ∀ (_u : Unit), ∀ (gfl : Int32 × Int32) (grd : Int32 × Int32 × Int32 × Int32 × Int32 × Int32 × Int64 × (Nat → Int32)) (gnv : Int32 × Int32 × Int32 × Int32 × Int32 × (Nat → Int32) × (Nat → Int32) × (Nat → Int32) × (Nat → Int32) × (Nat → Int32) × (Nat → Int32)) (t1 : Int32) (H : Heap) (locs : List Loc) (ls : Array Slot), p_X13_line_398 gtt gfl grd gnv t1 = some R0 → va_P (dC, dI) vwCl (w_X13_line cy a0 gth gvm gtt gtd gfl grd gnv gac grc gim) H → va_D A (w_X13_line cy a0 gth gvm gtt gtd gfl grd gnv gac grc gim) → va_S A s.heap H locs → lv_has ls 1 [] → W p l e rm_X13_line s m aa below meth c H locs 0 0 (MQ below qq aa s 0 0 A) (F0 m 398 ls [.int t1, .ref (a0 0)]) := by
    intro _ gfl grd gnv t1 H locs ls h hP hD hS hl
    unfold p_X13_line_398 at h
    obtain ⟨v1, hv2, h⟩ := ok_bind h
    refine cl_vv (w2 := fun (u : (Int32 × Int32) × (Int32 × Int32 × Int32 × Int32 × Int32 × Int32 × Int64 × (Nat → Int32))) => w_X13_line cy a0 gth gvm gtt gtd u.1 u.2 gnv gac grc gim) (As := [.int t1]) (rest := []) ⟨hx, hb, hml, hown, hts⟩ (c_X13_need l dC dI cy a0 gth gvm gtt gtd gfl grd gnv gac grc gim t1 H.size v1 hv2) (cwV 1 hts gX13_line_X13_need rfl rfl rfl (by decide +kernel) ⟨Nat.le_of_ble_eq_true rfl, Nat.le_of_ble_eq_true rfl⟩) (va_recv hK hP (ci := 11) (q0 := 0) rfl rfl) cl_blind (cl_pre hK hP hD [0, 1, 2] (by decide) rfl) hP hD hS hA [0, 1, 2] rfl rfl hl.1 rfl (lv_room (Nat.le_of_ble_eq_true rfl)) dX13_line_398 ⟨Nat.le_of_ble_eq_true rfl, Nat.le_of_ble_eq_true rfl⟩ ⟨rfl, rfl⟩ (fun _ => updM [0, 1, 2] [3, 4, 5, 6, 7, 8] [(a0 13, .inl (cy 1, 5, .inl (gnv.2.2.2.2.2.1))), (a0 14, .inl (cy 1, 5, .inl (gnv.2.2.2.2.2.2.1))), (a0 15, .inl (cy 1, 10, .inl (gnv.2.2.2.2.2.2.2.1))), (a0 16, .inl (cy 1, 10, .inl (gnv.2.2.2.2.2.2.2.2.1))), (a0 17, .inl (cy 1, 10, .inl (gnv.2.2.2.2.2.2.2.2.2.1))), (a0 18, .inl (cy 1, 50, .inl (gnv.2.2.2.2.2.2.2.2.2.2)))] 9 rfl rfl rfl rfl rfl (by decide +kernel) (by decide +kernel) rfl) (fun u H locs hw hP hD hS => ?_)
    have hw := hw.symm
    subst hw
    have hP : va_P (dC, dI) vwCl (w_X13_line cy a0 gth gvm gtt gtd v1.1 v1.2 gnv gac grc gim) H := hP
    have hD : va_D A (w_X13_line cy a0 gth gvm gtt gtd v1.1 v1.2 gnv gac grc gim) := hD
    exact W.vret hx hb hr (fun t ht hW => by rw [hqq]; have hh := Option.some.inj h; exact ⟨⟨((v1.1, v1.2, gnv)), rfl, Option.some.inj h, by rw [ht]; exact hP, va_K.moved hW.alike hK⟩, hS.F ht⟩) hS.2.2 dX13_line_401
  have c384 : ∀ (_u : Unit), ∀ (gfl : Int32 × Int32) (grd : Int32 × Int32 × Int32 × Int32 × Int32 × Int32 × Int64 × (Nat → Int32)) (gnv : Int32 × Int32 × Int32 × Int32 × Int32 × (Nat → Int32) × (Nat → Int32) × (Nat → Int32) × (Nat → Int32) × (Nat → Int32) × (Nat → Int32)) (H : Heap) (locs : List Loc) (ls : Array Slot), p_X13_line_384 gtt gfl grd gnv = some R0 → va_P (dC, dI) vwCl (w_X13_line cy a0 gth gvm gtt gtd gfl grd gnv gac grc gim) H → va_D A (w_X13_line cy a0 gth gvm gtt gtd gfl grd gnv gac grc gim) → va_S A s.heap H locs → lv_has ls 1 [(0, .ref (a0 0))] → W p l e rm_X13_line s m aa below meth c H locs 0 0 (MQ below qq aa s 0 0 A) (F0 m 384 ls []) := by
    intro _ gfl grd gnv H locs ls h hP hD hS hl
    unfold p_X13_line_384 at h
    refine lv_aload_n hx hb dX13_line_384 rfl (lv_at hl 0 rfl) ?_
    refine lv_aload_n hx hb dX13_line_385 rfl (lv_at hl 0 rfl) ?_
    refine va_get (D := (dC, dI)) (ci := 11) (v := .int grd.2.2.1) (C := RX13) (T := TX13) (N := 64) hx hb hts in_X13 hown hK hP 0 rfl rfl 20 (by decide) lk0 (fun _ h9 => h9) rfl dX13_line_386 ?_
    refine lv_iconst (v := (4 : Int32)) hx hb dX13_line_389 (by decide) ?_
    refine lv_icmp_ne (tgt := 397) hx hb dX13_line_390 (by decide) (fun c1 => ?_) (fun c1 => ?_)
    · rw [if_neg c1] at h
      refine lv_iconst (v := (0 : Int32)) hx hb dX13_line_397 (by decide) ?_
      exact c398 () gfl grd gnv (0 : Int32) H locs ls h hP hD hS (lv_sub hl [] rfl)
    · rw [if_pos c1] at h
      refine lv_iconst (v := (1 : Int32)) hx hb dX13_line_393 (by decide) ?_
      refine lv_goto (tgt := 398) hx hb dX13_line_394 (by decide) ?_
      exact c398 () gfl grd gnv (1 : Int32) H locs ls h hP hD hS (lv_sub hl [] rfl)
  have c373 : ∀ (_u : Unit), ∀ (gfl : Int32 × Int32) (grd : Int32 × Int32 × Int32 × Int32 × Int32 × Int32 × Int64 × (Nat → Int32)) (gnv : Int32 × Int32 × Int32 × Int32 × Int32 × (Nat → Int32) × (Nat → Int32) × (Nat → Int32) × (Nat → Int32) × (Nat → Int32) × (Nat → Int32)) (t1 : Int32) (H : Heap) (locs : List Loc) (ls : Array Slot), p_X13_line_373 gtt gfl grd gnv t1 = some R0 → va_P (dC, dI) vwCl (w_X13_line cy a0 gth gvm gtt gtd gfl grd gnv gac grc gim) H → va_D A (w_X13_line cy a0 gth gvm gtt gtd gfl grd gnv gac grc gim) → va_S A s.heap H locs → lv_has ls 1 [(0, .ref (a0 0))] → W p l e rm_X13_line s m aa below meth c H locs 0 0 (MQ below qq aa s 0 0 A) (F0 m 373 ls [.int t1, .ref (a0 0)]) := by
    intro _ gfl grd gnv t1 H locs ls h hP hD hS hl
    unfold p_X13_line_373 at h
    obtain ⟨v1, hv2, h⟩ := ok_bind h
    refine cl_vv (w2 := fun (u : (Int32 × Int32) × (Int32 × Int32 × Int32 × Int32 × Int32 × Int32 × Int64 × (Nat → Int32))) => w_X13_line cy a0 gth gvm gtt gtd u.1 u.2 gnv gac grc gim) (As := [.int t1]) (rest := []) ⟨hx, hb, hml, hown, hts⟩ (c_X13_need l dC dI cy a0 gth gvm gtt gtd gfl grd gnv gac grc gim t1 H.size v1 hv2) (cwV 1 hts gX13_line_X13_need rfl rfl rfl (by decide +kernel) ⟨Nat.le_of_ble_eq_true rfl, Nat.le_of_ble_eq_true rfl⟩) (va_recv hK hP (ci := 11) (q0 := 0) rfl rfl) cl_blind (cl_pre hK hP hD [0, 1, 2] (by decide) rfl) hP hD hS hA [0, 1, 2] rfl rfl hl.1 rfl (lv_room (Nat.le_of_ble_eq_true rfl)) dX13_line_373 ⟨Nat.le_of_ble_eq_true rfl, Nat.le_of_ble_eq_true rfl⟩ ⟨rfl, rfl⟩ (fun _ => updM [0, 1, 2] [3, 4, 5, 6, 7, 8] [(a0 13, .inl (cy 1, 5, .inl (gnv.2.2.2.2.2.1))), (a0 14, .inl (cy 1, 5, .inl (gnv.2.2.2.2.2.2.1))), (a0 15, .inl (cy 1, 10, .inl (gnv.2.2.2.2.2.2.2.1))), (a0 16, .inl (cy 1, 10, .inl (gnv.2.2.2.2.2.2.2.2.1))), (a0 17, .inl (cy 1, 10, .inl (gnv.2.2.2.2.2.2.2.2.2.1))), (a0 18, .inl (cy 1, 50, .inl (gnv.2.2.2.2.2.2.2.2.2.2)))] 9 rfl rfl rfl rfl rfl (by decide +kernel) (by decide +kernel) rfl) (fun u H locs hw hP hD hS => ?_)
    have hw := hw.symm
    subst hw
    have hP : va_P (dC, dI) vwCl (w_X13_line cy a0 gth gvm gtt gtd v1.1 v1.2 gnv gac grc gim) H := hP
    have hD : va_D A (w_X13_line cy a0 gth gvm gtt gtd v1.1 v1.2 gnv gac grc gim) := hD
    refine lv_goto (tgt := 384) hx hb dX13_line_376 (by decide) ?_
    exact c384 () v1.1 v1.2 gnv H locs ls h hP hD hS (lv_sub hl [0] rfl)
  have c356 : ∀ (_u : Unit), ∀ (gfl : Int32 × Int32) (grd : Int32 × Int32 × Int32 × Int32 × Int32 × Int32 × Int64 × (Nat → Int32)) (gnv : Int32 × Int32 × Int32 × Int32 × Int32 × (Nat → Int32) × (Nat → Int32) × (Nat → Int32) × (Nat → Int32) × (Nat → Int32) × (Nat → Int32)) (t1 : Int32) (H : Heap) (locs : List Loc) (ls : Array Slot), p_X13_line_356 gtt gfl grd gnv t1 = some R0 → va_P (dC, dI) vwCl (w_X13_line cy a0 gth gvm gtt gtd gfl grd gnv gac grc gim) H → va_D A (w_X13_line cy a0 gth gvm gtt gtd gfl grd gnv gac grc gim) → va_S A s.heap H locs → lv_has ls 1 [(0, .ref (a0 0))] → W p l e rm_X13_line s m aa below meth c H locs 0 0 (MQ below qq aa s 0 0 A) (F0 m 356 ls [.int t1, .ref (a0 0)]) := by
    intro _ gfl grd gnv t1 H locs ls h hP hD hS hl
    unfold p_X13_line_356 at h
    refine va_put (D := (dC, dI)) (ci := 11) (v := .int t1) (ty := .int) (C := RX13) (T := TX13) (N := 64) hx hb hts in_X13 tyX13 tyX13_ok nmX13 hown hK hP hD hS 0 rfl rfl 28 (by decide) lk1 (fun _ h9 => h9) rfl (by decide +kernel) rfl rfl (Nat.le_of_ble_eq_true rfl) dX13_line_356 (fun H locs hP hD hS => ?_)
    have hP : va_P (dC, dI) vwCl (w_X13_line cy a0 gth gvm gtt gtd gfl grd ((gnv.1, gnv.2.1, t1, gnv.2.2.2)) gac grc gim) H := hP
    have hD : va_D A (w_X13_line cy a0 gth gvm gtt gtd gfl grd ((gnv.1, gnv.2.1, t1, gnv.2.2.2)) gac grc gim) := hD
    refine lv_aload_n hx hb dX13_line_359 rfl (lv_at hl 0 rfl) ?_
    refine lv_aload_n hx hb dX13_line_360 rfl (lv_at hl 0 rfl) ?_
    refine va_get (D := (dC, dI)) (ci := 11) (v := .int t1) (C := RX13) (T := TX13) (N := 64) hx hb hts in_X13 hown hK hP 0 rfl rfl 28 (by decide) lk1 (fun _ h9 => h9) rfl dX13_line_361 ?_
    refine lv_iconst (v := (-1 : Int32)) hx hb dX13_line_364 (by decide) ?_
    refine lv_icmp_eq (tgt := 372) hx hb dX13_line_365 (by decide) (fun c1 => ?_) (fun c1 => ?_)
    · rw [if_pos c1] at h
      refine lv_iconst (v := (0 : Int32)) hx hb dX13_line_372 (by decide) ?_
      exact c373 () gfl grd (gnv.1, gnv.2.1, t1, gnv.2.2.2) (0 : Int32) H locs ls h hP hD hS (lv_sub hl [0] rfl)
    · rw [if_neg c1] at h
      refine lv_iconst (v := (1 : Int32)) hx hb dX13_line_368 (by decide) ?_
      refine lv_goto (tgt := 373) hx hb dX13_line_369 (by decide) ?_
      exact c373 () gfl grd (gnv.1, gnv.2.1, t1, gnv.2.2.2) (1 : Int32) H locs ls h hP hD hS (lv_sub hl [0] rfl)
  have c298 : ∀ (_u : Unit), ∀ (gfl : Int32 × Int32) (grd : Int32 × Int32 × Int32 × Int32 × Int32 × Int32 × Int64 × (Nat → Int32)) (gnv : Int32 × Int32 × Int32 × Int32 × Int32 × (Nat → Int32) × (Nat → Int32) × (Nat → Int32) × (Nat → Int32) × (Nat → Int32) × (Nat → Int32)) (H : Heap) (locs : List Loc) (ls : Array Slot), p_X13_line_298 gtt gfl grd gnv = some R0 → va_P (dC, dI) vwCl (w_X13_line cy a0 gth gvm gtt gtd gfl grd gnv gac grc gim) H → va_D A (w_X13_line cy a0 gth gvm gtt gtd gfl grd gnv gac grc gim) → va_S A s.heap H locs → lv_has ls 1 [(0, .ref (a0 0))] → W p l e rm_X13_line s m aa below meth c H locs 0 0 (MQ below qq aa s 0 0 A) (F0 m 298 ls []) := by
    intro _ gfl grd gnv H locs ls h hP hD hS hl
    unfold p_X13_line_298 at h
    refine lv_aload_n hx hb dX13_line_298 rfl (lv_at hl 0 rfl) ?_
    obtain ⟨v1, hv2, h⟩ := ok_bind h
    refine cl_vi (w2 := fun (_ : Unit) => w_X13_line cy a0 gth gvm gtt gtd gfl grd gnv gac grc gim) (As := []) (rest := []) ⟨hx, hb, hml, hown, hts⟩ (c_X13_isGood l dC dI cy a0 gth gvm gtd gfl grd gnv gac grc gim H.size v1 hv2) (cwV 0 hts gX13_line_X13_isGood rfl rfl rfl (by decide +kernel) ⟨Nat.le_of_ble_eq_true rfl, Nat.le_of_ble_eq_true rfl⟩) (va_recv hK hP (ci := 11) (q0 := 0) rfl rfl) cl_blind (cl_pre hK hP hD [0] (by decide) rfl) hP hD hS hA [0] rfl rfl hl.1 rfl (lv_room (Nat.le_of_ble_eq_true rfl)) dX13_line_299 ⟨Nat.le_of_ble_eq_true rfl, Nat.le_of_ble_eq_true rfl⟩ ⟨rfl, rfl⟩ (fun _ => updR [0] rfl) (fun r u H locs hw hP hD hS => ?_)
    have hw := hw.symm
    subst hw
    have hP : va_P (dC, dI) vwCl (w_X13_line cy a0 gth gvm gtt gtd gfl grd gnv gac grc gim) H := hP
    have hD : va_D A (w_X13_line cy a0 gth gvm gtt gtd gfl grd gnv gac grc gim) := hD
    refine lv_if_ne (tgt := 306) hx hb dX13_line_302 (by decide) (fun c3 => ?_) (fun c3 => ?_)
    · rw [if_neg c3] at h
      refine lv_aload_n hx hb dX13_line_306 rfl (lv_at hl 0 rfl) ?_
      refine lv_iconst (v := (1 : Int32)) hx hb dX13_line_307 (by decide) ?_
      refine va_put (D := (dC, dI)) (ci := 11) (v := .int (1 : Int32)) (ty := .boolean) (C := RX13) (T := TX13) (N := 64) hx hb hts in_X13 tyX13 tyX13_ok nmX13 hown hK hP hD hS 0 rfl rfl 30 (by decide) lk2 (fun _ h9 => h9) rfl (by decide +kernel) rfl rfl (Nat.le_of_ble_eq_true rfl) dX13_line_308 (fun H locs hP hD hS => ?_)
      have hP : va_P (dC, dI) vwCl (w_X13_line cy a0 gth gvm gtt gtd gfl grd ((gnv.1, gnv.2.1, gnv.2.2.1, gnv.2.2.2.1, (1 : Int32), gnv.2.2.2.2.2)) gac grc gim) H := hP
      have hD : va_D A (w_X13_line cy a0 gth gvm gtt gtd gfl grd ((gnv.1, gnv.2.1, gnv.2.2.1, gnv.2.2.2.1, (1 : Int32), gnv.2.2.2.2.2)) gac grc gim) := hD
      refine lv_aload_n hx hb dX13_line_311 rfl (lv_at hl 0 rfl) ?_
      obtain ⟨v4, hv5, h⟩ := ok_bind h
      refine cl_vv (w2 := fun (u : (Int32 × Int32 × Int32 × Int32 × Int32 × Int32 × Int64 × (Nat → Int32))) => w_X13_line cy a0 gth gvm gtt gtd gfl u ((gnv.1, gnv.2.1, gnv.2.2.1, gnv.2.2.2.1, (1 : Int32), gnv.2.2.2.2.2)) gac grc gim) (As := []) (rest := []) ⟨hx, hb, hml, hown, hts⟩ (c_X13_steps l dC dI cy a0 gth gvm gtt gtd gfl grd (gnv.1, gnv.2.1, gnv.2.2.1, gnv.2.2.2.1, (1 : Int32), gnv.2.2.2.2.2) gac grc gim H.size v4 hv5) (cwV 0 hts gX13_line_X13_steps rfl rfl rfl (by decide +kernel) ⟨Nat.le_of_ble_eq_true rfl, Nat.le_of_ble_eq_true rfl⟩) (va_recv hK hP (ci := 11) (q0 := 0) rfl rfl) cl_blind (cl_pre hK hP hD [0, 1, 2] (by decide) rfl) hP hD hS hA [0, 1, 2] rfl rfl hl.1 rfl (lv_room (Nat.le_of_ble_eq_true rfl)) dX13_line_312 ⟨Nat.le_of_ble_eq_true rfl, Nat.le_of_ble_eq_true rfl⟩ ⟨rfl, rfl⟩ (fun _ => updM [0, 1, 2] [3, 4, 5, 6, 7, 8] [(a0 13, .inl (cy 1, 5, .inl (gnv.2.2.2.2.2.1))), (a0 14, .inl (cy 1, 5, .inl (gnv.2.2.2.2.2.2.1))), (a0 15, .inl (cy 1, 10, .inl (gnv.2.2.2.2.2.2.2.1))), (a0 16, .inl (cy 1, 10, .inl (gnv.2.2.2.2.2.2.2.2.1))), (a0 17, .inl (cy 1, 10, .inl (gnv.2.2.2.2.2.2.2.2.2.1))), (a0 18, .inl (cy 1, 50, .inl (gnv.2.2.2.2.2.2.2.2.2.2)))] 9 rfl rfl rfl rfl rfl (by decide +kernel) (by decide +kernel) rfl) (fun u H locs hw hP hD hS => ?_)
      have hw := hw.symm
      subst hw
      have hP : va_P (dC, dI) vwCl (w_X13_line cy a0 gth gvm gtt gtd gfl v4 ((gnv.1, gnv.2.1, gnv.2.2.1, gnv.2.2.2.1, (1 : Int32), gnv.2.2.2.2.2)) gac grc gim) H := hP
      have hD : va_D A (w_X13_line cy a0 gth gvm gtt gtd gfl v4 ((gnv.1, gnv.2.1, gnv.2.2.1, gnv.2.2.2.1, (1 : Int32), gnv.2.2.2.2.2)) gac grc gim) := hD
      refine lv_aload_n hx hb dX13_line_315 rfl (lv_at hl 0 rfl) ?_
      refine lv_aload_n hx hb dX13_line_316 rfl (lv_at hl 0 rfl) ?_
      refine lv_bipush (v := (12 : Int32)) hx hb dX13_line_317 (by decide) ?_
      obtain ⟨v6, hv7, h⟩ := ok_bind h
      refine cl_vi (w2 := fun (_ : Unit) => w_X13_line cy a0 gth gvm gtt gtd gfl v4 ((gnv.1, gnv.2.1, gnv.2.2.1, gnv.2.2.2.1, (1 : Int32), gnv.2.2.2.2.2)) gac grc gim) (As := [.int (12 : Int32)]) (rest := [.ref (a0 0)]) ⟨hx, hb, hml, hown, hts⟩ (c_X13_is l dC dI cy a0 gth gvm gtd gfl v4 (gnv.1, gnv.2.1, gnv.2.2.1, gnv.2.2.2.1, (1 : Int32), gnv.2.2.2.2.2) gac grc gim (12 : Int32) H.size v6 hv7) (cwV 1 hts gX13_line_X13_is rfl rfl rfl (by decide +kernel) ⟨Nat.le_of_ble_eq_true rfl, Nat.le_of_ble_eq_true rfl⟩) (va_recv hK hP (ci := 11) (q0 := 0) rfl rfl) cl_blind (cl_pre hK hP hD [0, 2] (by decide) rfl) hP hD hS hA [0, 2] rfl rfl hl.1 rfl (lv_room (Nat.le_of_ble_eq_true rfl)) dX13_line_319 ⟨Nat.le_of_ble_eq_true rfl, Nat.le_of_ble_eq_true rfl⟩ ⟨rfl, rfl⟩ (fun _ => updR [0, 2] rfl) (fun r u H locs hw hP hD hS => ?_)
      have hw := hw.symm
      subst hw
      have hP : va_P (dC, dI) vwCl (w_X13_line cy a0 gth gvm gtt gtd gfl v4 ((gnv.1, gnv.2.1, gnv.2.2.1, gnv.2.2.2.1, (1 : Int32), gnv.2.2.2.2.2)) gac grc gim) H := hP
      have hD : va_D A (w_X13_line cy a0 gth gvm gtt gtd gfl v4 ((gnv.1, gnv.2.1, gnv.2.2.1, gnv.2.2.2.1, (1 : Int32), gnv.2.2.2.2.2)) gac grc gim) := hD
      refine lv_if_eq (tgt := 329) hx hb dX13_line_322 (by decide) (fun c8 => ?_) (fun c8 => ?_)
      · rw [if_pos c8] at h
        refine lv_aload_n hx hb dX13_line_329 rfl (lv_at hl 0 rfl) ?_
        refine lv_bipush (v := (13 : Int32)) hx hb dX13_line_330 (by decide) ?_
        obtain ⟨v9, hv10, h⟩ := ok_bind h
        refine cl_vi (w2 := fun (_ : Unit) => w_X13_line cy a0 gth gvm gtt gtd gfl v4 ((gnv.1, gnv.2.1, gnv.2.2.1, gnv.2.2.2.1, (1 : Int32), gnv.2.2.2.2.2)) gac grc gim) (As := [.int (13 : Int32)]) (rest := [.ref (a0 0)]) ⟨hx, hb, hml, hown, hts⟩ (c_X13_is l dC dI cy a0 gth gvm gtd gfl v4 (gnv.1, gnv.2.1, gnv.2.2.1, gnv.2.2.2.1, (1 : Int32), gnv.2.2.2.2.2) gac grc gim (13 : Int32) H.size v9 hv10) (cwV 1 hts gX13_line_X13_is rfl rfl rfl (by decide +kernel) ⟨Nat.le_of_ble_eq_true rfl, Nat.le_of_ble_eq_true rfl⟩) (va_recv hK hP (ci := 11) (q0 := 0) rfl rfl) cl_blind (cl_pre hK hP hD [0, 2] (by decide) rfl) hP hD hS hA [0, 2] rfl rfl hl.1 rfl (lv_room (Nat.le_of_ble_eq_true rfl)) dX13_line_332 ⟨Nat.le_of_ble_eq_true rfl, Nat.le_of_ble_eq_true rfl⟩ ⟨rfl, rfl⟩ (fun _ => updR [0, 2] rfl) (fun r u H locs hw hP hD hS => ?_)
        have hw := hw.symm
        subst hw
        have hP : va_P (dC, dI) vwCl (w_X13_line cy a0 gth gvm gtt gtd gfl v4 ((gnv.1, gnv.2.1, gnv.2.2.1, gnv.2.2.2.1, (1 : Int32), gnv.2.2.2.2.2)) gac grc gim) H := hP
        have hD : va_D A (w_X13_line cy a0 gth gvm gtt gtd gfl v4 ((gnv.1, gnv.2.1, gnv.2.2.1, gnv.2.2.2.1, (1 : Int32), gnv.2.2.2.2.2)) gac grc gim) := hD
        refine lv_if_eq (tgt := 342) hx hb dX13_line_335 (by decide) (fun c11 => ?_) (fun c11 => ?_)
        · rw [if_pos c11] at h
          refine lv_aload_n hx hb dX13_line_342 rfl (lv_at hl 0 rfl) ?_
          refine lv_bipush (v := (14 : Int32)) hx hb dX13_line_343 (by decide) ?_
          obtain ⟨v12, hv13, h⟩ := ok_bind h
          refine cl_vi (w2 := fun (_ : Unit) => w_X13_line cy a0 gth gvm gtt gtd gfl v4 ((gnv.1, gnv.2.1, gnv.2.2.1, gnv.2.2.2.1, (1 : Int32), gnv.2.2.2.2.2)) gac grc gim) (As := [.int (14 : Int32)]) (rest := [.ref (a0 0)]) ⟨hx, hb, hml, hown, hts⟩ (c_X13_is l dC dI cy a0 gth gvm gtd gfl v4 (gnv.1, gnv.2.1, gnv.2.2.1, gnv.2.2.2.1, (1 : Int32), gnv.2.2.2.2.2) gac grc gim (14 : Int32) H.size v12 hv13) (cwV 1 hts gX13_line_X13_is rfl rfl rfl (by decide +kernel) ⟨Nat.le_of_ble_eq_true rfl, Nat.le_of_ble_eq_true rfl⟩) (va_recv hK hP (ci := 11) (q0 := 0) rfl rfl) cl_blind (cl_pre hK hP hD [0, 2] (by decide) rfl) hP hD hS hA [0, 2] rfl rfl hl.1 rfl (lv_room (Nat.le_of_ble_eq_true rfl)) dX13_line_345 ⟨Nat.le_of_ble_eq_true rfl, Nat.le_of_ble_eq_true rfl⟩ ⟨rfl, rfl⟩ (fun _ => updR [0, 2] rfl) (fun r u H locs hw hP hD hS => ?_)
          have hw := hw.symm
          subst hw
          have hP : va_P (dC, dI) vwCl (w_X13_line cy a0 gth gvm gtt gtd gfl v4 ((gnv.1, gnv.2.1, gnv.2.2.1, gnv.2.2.2.1, (1 : Int32), gnv.2.2.2.2.2)) gac grc gim) H := hP
          have hD : va_D A (w_X13_line cy a0 gth gvm gtt gtd gfl v4 ((gnv.1, gnv.2.1, gnv.2.2.1, gnv.2.2.2.1, (1 : Int32), gnv.2.2.2.2.2)) gac grc gim) := hD
          refine lv_if_eq (tgt := 355) hx hb dX13_line_348 (by decide) (fun c14 => ?_) (fun c14 => ?_)
          · rw [if_pos c14] at h
            refine lv_iconst (v := (-1 : Int32)) hx hb dX13_line_355 (by decide) ?_
            exact c356 () gfl v4 (gnv.1, gnv.2.1, gnv.2.2.1, gnv.2.2.2.1, (1 : Int32), gnv.2.2.2.2.2) (-1 : Int32) H locs ls h hP hD hS (lv_sub hl [0] rfl)
          · rw [if_neg c14] at h
            refine lv_iconst (v := (2 : Int32)) hx hb dX13_line_351 (by decide) ?_
            refine lv_goto (tgt := 356) hx hb dX13_line_352 (by decide) ?_
            exact c356 () gfl v4 (gnv.1, gnv.2.1, gnv.2.2.1, gnv.2.2.2.1, (1 : Int32), gnv.2.2.2.2.2) (2 : Int32) H locs ls h hP hD hS (lv_sub hl [0] rfl)
        · rw [if_neg c11] at h
          refine lv_iconst (v := (1 : Int32)) hx hb dX13_line_338 (by decide) ?_
          refine lv_goto (tgt := 356) hx hb dX13_line_339 (by decide) ?_
          exact c356 () gfl v4 (gnv.1, gnv.2.1, gnv.2.2.1, gnv.2.2.2.1, (1 : Int32), gnv.2.2.2.2.2) (1 : Int32) H locs ls h hP hD hS (lv_sub hl [0] rfl)
      · rw [if_neg c8] at h
        refine lv_iconst (v := (0 : Int32)) hx hb dX13_line_325 (by decide) ?_
        refine lv_goto (tgt := 356) hx hb dX13_line_326 (by decide) ?_
        exact c356 () gfl v4 (gnv.1, gnv.2.1, gnv.2.2.1, gnv.2.2.2.1, (1 : Int32), gnv.2.2.2.2.2) (0 : Int32) H locs ls h hP hD hS (lv_sub hl [0] rfl)
    · rw [if_pos c3] at h
      exact W.vret hx hb hr (fun t ht hW => by rw [hqq]; have hh := Option.some.inj h; exact ⟨⟨((gfl, grd, gnv)), rfl, Option.some.inj h, by rw [ht]; exact hP, va_K.moved hW.alike hK⟩, hS.F ht⟩) hS.2.2 dX13_line_305
  have c178 : ∀ (_u : Unit), ∀ (gfl : Int32 × Int32) (grd : Int32 × Int32 × Int32 × Int32 × Int32 × Int32 × Int64 × (Nat → Int32)) (gnv : Int32 × Int32 × Int32 × Int32 × Int32 × (Nat → Int32) × (Nat → Int32) × (Nat → Int32) × (Nat → Int32) × (Nat → Int32) × (Nat → Int32)) (H : Heap) (locs : List Loc) (ls : Array Slot), p_X13_line_178 gtt gfl grd gnv = some R0 → va_P (dC, dI) vwCl (w_X13_line cy a0 gth gvm gtt gtd gfl grd gnv gac grc gim) H → va_D A (w_X13_line cy a0 gth gvm gtt gtd gfl grd gnv gac grc gim) → va_S A s.heap H locs → lv_has ls 1 [(0, .ref (a0 0))] → W p l e rm_X13_line s m aa below meth c H locs 0 0 (MQ below qq aa s 0 0 A) (F0 m 178 ls []) := by
    intro _ gfl grd gnv H locs ls h hP hD hS hl
    unfold p_X13_line_178 at h
    refine lv_aload_n hx hb dX13_line_178 rfl (lv_at hl 0 rfl) ?_
    obtain ⟨v1, hv2, h⟩ := ok_bind h
    refine cl_vi (w2 := fun (_ : Unit) => w_X13_line cy a0 gth gvm gtt gtd gfl grd gnv gac grc gim) (As := []) (rest := []) ⟨hx, hb, hml, hown, hts⟩ (c_X13_isGood l dC dI cy a0 gth gvm gtd gfl grd gnv gac grc gim H.size v1 hv2) (cwV 0 hts gX13_line_X13_isGood rfl rfl rfl (by decide +kernel) ⟨Nat.le_of_ble_eq_true rfl, Nat.le_of_ble_eq_true rfl⟩) (va_recv hK hP (ci := 11) (q0 := 0) rfl rfl) cl_blind (cl_pre hK hP hD [0] (by decide) rfl) hP hD hS hA [0] rfl rfl hl.1 rfl (lv_room (Nat.le_of_ble_eq_true rfl)) dX13_line_179 ⟨Nat.le_of_ble_eq_true rfl, Nat.le_of_ble_eq_true rfl⟩ ⟨rfl, rfl⟩ (fun _ => updR [0] rfl) (fun r u H locs hw hP hD hS => ?_)
    have hw := hw.symm
    subst hw
    have hP : va_P (dC, dI) vwCl (w_X13_line cy a0 gth gvm gtt gtd gfl grd gnv gac grc gim) H := hP
    have hD : va_D A (w_X13_line cy a0 gth gvm gtt gtd gfl grd gnv gac grc gim) := hD
    refine lv_if_ne (tgt := 186) hx hb dX13_line_182 (by decide) (fun c3 => ?_) (fun c3 => ?_)
    · rw [if_neg c3] at h
      refine lv_aload_n hx hb dX13_line_186 rfl (lv_at hl 0 rfl) ?_
      obtain ⟨v4, hv5, h⟩ := ok_bind h
      refine cl_vv (w2 := fun (u : (Int32 × Int32 × Int32 × Int32 × Int32 × Int32 × Int64 × (Nat → Int32))) => w_X13_line cy a0 gth gvm gtt gtd gfl u gnv gac grc gim) (As := []) (rest := []) ⟨hx, hb, hml, hown, hts⟩ (c_X13_steps l dC dI cy a0 gth gvm gtt gtd gfl grd gnv gac grc gim H.size v4 hv5) (cwV 0 hts gX13_line_X13_steps rfl rfl rfl (by decide +kernel) ⟨Nat.le_of_ble_eq_true rfl, Nat.le_of_ble_eq_true rfl⟩) (va_recv hK hP (ci := 11) (q0 := 0) rfl rfl) cl_blind (cl_pre hK hP hD [0, 1, 2] (by decide) rfl) hP hD hS hA [0, 1, 2] rfl rfl hl.1 rfl (lv_room (Nat.le_of_ble_eq_true rfl)) dX13_line_187 ⟨Nat.le_of_ble_eq_true rfl, Nat.le_of_ble_eq_true rfl⟩ ⟨rfl, rfl⟩ (fun _ => updM [0, 1, 2] [3, 4, 5, 6, 7, 8] [(a0 13, .inl (cy 1, 5, .inl (gnv.2.2.2.2.2.1))), (a0 14, .inl (cy 1, 5, .inl (gnv.2.2.2.2.2.2.1))), (a0 15, .inl (cy 1, 10, .inl (gnv.2.2.2.2.2.2.2.1))), (a0 16, .inl (cy 1, 10, .inl (gnv.2.2.2.2.2.2.2.2.1))), (a0 17, .inl (cy 1, 10, .inl (gnv.2.2.2.2.2.2.2.2.2.1))), (a0 18, .inl (cy 1, 50, .inl (gnv.2.2.2.2.2.2.2.2.2.2)))] 9 rfl rfl rfl rfl rfl (by decide +kernel) (by decide +kernel) rfl) (fun u H locs hw hP hD hS => ?_)
      have hw := hw.symm
      subst hw
      have hP : va_P (dC, dI) vwCl (w_X13_line cy a0 gth gvm gtt gtd gfl v4 gnv gac grc gim) H := hP
      have hD : va_D A (w_X13_line cy a0 gth gvm gtt gtd gfl v4 gnv gac grc gim) := hD
      refine lv_aload_n hx hb dX13_line_190 rfl (lv_at hl 0 rfl) ?_
      refine va_get (D := (dC, dI)) (ci := 11) (v := .ref (a0 15)) (C := RX13) (T := TX13) (N := 64) hx hb hts in_X13 hown hK hP 0 rfl rfl 33 (by decide) lk3 (fun _ h9 => h9) rfl dX13_line_191 ?_
      refine lv_aload_n hx hb dX13_line_194 rfl (lv_at hl 0 rfl) ?_
      refine va_get (D := (dC, dI)) (ci := 11) (v := .int gnv.2.1) (C := RX13) (T := TX13) (N := 64) hx hb hts in_X13 hown hK hP 0 rfl rfl 27 (by decide) lk4 (fun _ h9 => h9) rfl dX13_line_195 ?_
      refine lv_aload_n hx hb dX13_line_198 rfl (lv_at hl 0 rfl) ?_
      refine lv_aload_n hx hb dX13_line_199 rfl (lv_at hl 0 rfl) ?_
      refine va_get (D := (dC, dI)) (ci := 11) (v := .int gnv.1) (C := RX13) (T := TX13) (N := 64) hx hb hts in_X13 hown hK hP 0 rfl rfl 26 (by decide) lk5 (fun _ h9 => h9) rfl dX13_line_200 ?_
      refine lv_iconst (v := (-1 : Int32)) hx hb dX13_line_203 (by decide) ?_
      obtain ⟨v6, hv7, h⟩ := ok_bind h
      refine cl_vi (w2 := fun (u : (Int32 × Int32) × (Int32 × Int32 × Int32 × Int32 × Int32 × Int32 × Int64 × (Nat → Int32))) => w_X13_line cy a0 gth gvm gtt gtd u.1 u.2 gnv gac grc gim) (As := [.int gnv.1, .int (-1 : Int32)]) (rest := [.int gnv.2.1, .ref (a0 15)]) ⟨hx, hb, hml, hown, hts⟩ (c_X13_among l dC dI cy a0 gth gvm gtt gtd gfl v4 gnv gac grc gim gnv.1 (-1 : Int32) H.size v6 hv7) (cwV 2 hts gX13_line_X13_among rfl rfl rfl (by decide +kernel) ⟨Nat.le_of_ble_eq_true rfl, Nat.le_of_ble_eq_true rfl⟩) (va_recv hK hP (ci := 11) (q0 := 0) rfl rfl) cl_blind (cl_pre hK hP hD [0, 1, 2] (by decide) rfl) hP hD hS hA [0, 1, 2] rfl rfl hl.1 rfl (lv_room (Nat.le_of_ble_eq_true rfl)) dX13_line_204 ⟨Nat.le_of_ble_eq_true rfl, Nat.le_of_ble_eq_true rfl⟩ ⟨rfl, rfl⟩ (fun _ => updM [0, 1, 2] [3, 4, 5, 6, 7, 8] [(a0 13, .inl (cy 1, 5, .inl (gnv.2.2.2.2.2.1))), (a0 14, .inl (cy 1, 5, .inl (gnv.2.2.2.2.2.2.1))), (a0 15, .inl (cy 1, 10, .inl (gnv.2.2.2.2.2.2.2.1))), (a0 16, .inl (cy 1, 10, .inl (gnv.2.2.2.2.2.2.2.2.1))), (a0 17, .inl (cy 1, 10, .inl (gnv.2.2.2.2.2.2.2.2.2.1))), (a0 18, .inl (cy 1, 50, .inl (gnv.2.2.2.2.2.2.2.2.2.2)))] 9 rfl rfl rfl rfl rfl (by decide +kernel) (by decide +kernel) rfl) (fun r u H locs hw hP hD hS => ?_)
      obtain ⟨rfl, rfl⟩ := hw
      have hP : va_P (dC, dI) vwCl (w_X13_line cy a0 gth gvm gtt gtd v6.2.1 v6.2.2 gnv gac grc gim) H := hP
      have hD : va_D A (w_X13_line cy a0 gth gvm gtt gtd v6.2.1 v6.2.2 gnv gac grc gim) := hD
      obtain ⟨hi8, h⟩ := ok_if h
      refine va_iast hx hb hK hP hD hS 5 1 rfl rfl (ix_in hi8) dX13_line_207 (fun H locs hP hD hS => ?_)
      have hP : va_P (dC, dI) vwCl (w_X13_line cy a0 gth gvm gtt gtd v6.2.1 v6.2.2 ((gnv.1, gnv.2.1, gnv.2.2.1, gnv.2.2.2.1, gnv.2.2.2.2.1, gnv.2.2.2.2.2.1, gnv.2.2.2.2.2.2.1, (upd gnv.2.2.2.2.2.2.2.1 gnv.2.1.toNatClampNeg v6.1), gnv.2.2.2.2.2.2.2.2)) gac grc gim) H := hP
      have hD : va_D A (w_X13_line cy a0 gth gvm gtt gtd v6.2.1 v6.2.2 ((gnv.1, gnv.2.1, gnv.2.2.1, gnv.2.2.2.1, gnv.2.2.2.2.1, gnv.2.2.2.2.2.1, gnv.2.2.2.2.2.2.1, (upd gnv.2.2.2.2.2.2.2.1 gnv.2.1.toNatClampNeg v6.1), gnv.2.2.2.2.2.2.2.2)) gac grc gim) := hD
      refine lv_aload_n hx hb dX13_line_208 rfl (lv_at hl 0 rfl) ?_
      refine va_get (D := (dC, dI)) (ci := 11) (v := .ref (a0 16)) (C := RX13) (T := TX13) (N := 64) hx hb hts in_X13 hown hK hP 0 rfl rfl 34 (by decide) lk6 (fun _ h9 => h9) rfl dX13_line_209 ?_
      refine lv_aload_n hx hb dX13_line_212 rfl (lv_at hl 0 rfl) ?_
      refine va_get (D := (dC, dI)) (ci := 11) (v := .int gnv.2.1) (C := RX13) (T := TX13) (N := 64) hx hb hts in_X13 hown hK hP 0 rfl rfl 27 (by decide) lk4 (fun _ h9 => h9) rfl dX13_line_213 ?_
      refine lv_aload_n hx hb dX13_line_216 rfl (lv_at hl 0 rfl) ?_
      refine lv_aload_n hx hb dX13_line_217 rfl (lv_at hl 0 rfl) ?_
      refine va_get (D := (dC, dI)) (ci := 11) (v := .int gnv.1) (C := RX13) (T := TX13) (N := 64) hx hb hts in_X13 hown hK hP 0 rfl rfl 26 (by decide) lk5 (fun _ h9 => h9) rfl dX13_line_218 ?_
      refine lv_aload_n hx hb dX13_line_221 rfl (lv_at hl 0 rfl) ?_
      refine va_get (D := (dC, dI)) (ci := 11) (v := .ref (a0 15)) (C := RX13) (T := TX13) (N := 64) hx hb hts in_X13 hown hK hP 0 rfl rfl 33 (by decide) lk3 (fun _ h9 => h9) rfl dX13_line_222 ?_
      refine lv_aload_n hx hb dX13_line_225 rfl (lv_at hl 0 rfl) ?_
      refine va_get (D := (dC, dI)) (ci := 11) (v := .int gnv.2.1) (C := RX13) (T := TX13) (N := 64) hx hb hts in_X13 hown hK hP 0 rfl rfl 27 (by decide) lk4 (fun _ h9 => h9) rfl dX13_line_226 ?_
      obtain ⟨hi9, h⟩ := ok_if h
      refine va_iald hx hb hK hP 5 1 rfl rfl (ix_in hi9) dX13_line_229 ?_
      obtain ⟨v10, hv11, h⟩ := ok_bind h
      refine cl_vi (w2 := fun (u : (Int32 × Int32) × (Int32 × Int32 × Int32 × Int32 × Int32 × Int32 × Int64 × (Nat → Int32))) => w_X13_line cy a0 gth gvm gtt gtd u.1 u.2 ((gnv.1, gnv.2.1, gnv.2.2.1, gnv.2.2.2.1, gnv.2.2.2.2.1, gnv.2.2.2.2.2.1, gnv.2.2.2.2.2.2.1, (upd gnv.2.2.2.2.2.2.2.1 gnv.2.1.toNatClampNeg v6.1), gnv.2.2.2.2.2.2.2.2)) gac grc gim) (As := [.int gnv.1, .int ((upd gnv.2.2.2.2.2.2.2.1 gnv.2.1.toNatClampNeg v6.1) gnv.2.1.toNatClampNeg)]) (rest := [.int gnv.2.1, .ref (a0 16)]) ⟨hx, hb, hml, hown, hts⟩ (c_X13_among l dC dI cy a0 gth gvm gtt gtd v6.2.1 v6.2.2 (gnv.1, gnv.2.1, gnv.2.2.1, gnv.2.2.2.1, gnv.2.2.2.2.1, gnv.2.2.2.2.2.1, gnv.2.2.2.2.2.2.1, (upd gnv.2.2.2.2.2.2.2.1 gnv.2.1.toNatClampNeg v6.1), gnv.2.2.2.2.2.2.2.2) gac grc gim gnv.1 ((upd gnv.2.2.2.2.2.2.2.1 gnv.2.1.toNatClampNeg v6.1) gnv.2.1.toNatClampNeg) H.size v10 hv11) (cwV 2 hts gX13_line_X13_among rfl rfl rfl (by decide +kernel) ⟨Nat.le_of_ble_eq_true rfl, Nat.le_of_ble_eq_true rfl⟩) (va_recv hK hP (ci := 11) (q0 := 0) rfl rfl) cl_blind (cl_pre hK hP hD [0, 1, 2] (by decide) rfl) hP hD hS hA [0, 1, 2] rfl rfl hl.1 rfl (lv_room (Nat.le_of_ble_eq_true rfl)) dX13_line_230 ⟨Nat.le_of_ble_eq_true rfl, Nat.le_of_ble_eq_true rfl⟩ ⟨rfl, rfl⟩ (fun _ => updM [0, 1, 2] [3, 4, 5, 6, 7, 8] [(a0 13, .inl (cy 1, 5, .inl (gnv.2.2.2.2.2.1))), (a0 14, .inl (cy 1, 5, .inl (gnv.2.2.2.2.2.2.1))), (a0 15, .inl (cy 1, 10, .inl ((upd gnv.2.2.2.2.2.2.2.1 gnv.2.1.toNatClampNeg v6.1)))), (a0 16, .inl (cy 1, 10, .inl (gnv.2.2.2.2.2.2.2.2.1))), (a0 17, .inl (cy 1, 10, .inl (gnv.2.2.2.2.2.2.2.2.2.1))), (a0 18, .inl (cy 1, 50, .inl (gnv.2.2.2.2.2.2.2.2.2.2)))] 9 rfl rfl rfl rfl rfl (by decide +kernel) (by decide +kernel) rfl) (fun r u H locs hw hP hD hS => ?_)
      obtain ⟨rfl, rfl⟩ := hw
      have hP : va_P (dC, dI) vwCl (w_X13_line cy a0 gth gvm gtt gtd v10.2.1 v10.2.2 ((gnv.1, gnv.2.1, gnv.2.2.1, gnv.2.2.2.1, gnv.2.2.2.2.1, gnv.2.2.2.2.2.1, gnv.2.2.2.2.2.2.1, (upd gnv.2.2.2.2.2.2.2.1 gnv.2.1.toNatClampNeg v6.1), gnv.2.2.2.2.2.2.2.2)) gac grc gim) H := hP
      have hD : va_D A (w_X13_line cy a0 gth gvm gtt gtd v10.2.1 v10.2.2 ((gnv.1, gnv.2.1, gnv.2.2.1, gnv.2.2.2.1, gnv.2.2.2.2.1, gnv.2.2.2.2.2.1, gnv.2.2.2.2.2.2.1, (upd gnv.2.2.2.2.2.2.2.1 gnv.2.1.toNatClampNeg v6.1), gnv.2.2.2.2.2.2.2.2)) gac grc gim) := hD
      obtain ⟨hi12, h⟩ := ok_if h
      refine va_iast hx hb hK hP hD hS 6 1 rfl rfl (ix_in hi12) dX13_line_233 (fun H locs hP hD hS => ?_)
      have hP : va_P (dC, dI) vwCl (w_X13_line cy a0 gth gvm gtt gtd v10.2.1 v10.2.2 ((gnv.1, gnv.2.1, gnv.2.2.1, gnv.2.2.2.1, gnv.2.2.2.2.1, gnv.2.2.2.2.2.1, gnv.2.2.2.2.2.2.1, (upd gnv.2.2.2.2.2.2.2.1 gnv.2.1.toNatClampNeg v6.1), (upd gnv.2.2.2.2.2.2.2.2.1 gnv.2.1.toNatClampNeg v10.1), gnv.2.2.2.2.2.2.2.2.2)) gac grc gim) H := hP
      have hD : va_D A (w_X13_line cy a0 gth gvm gtt gtd v10.2.1 v10.2.2 ((gnv.1, gnv.2.1, gnv.2.2.1, gnv.2.2.2.1, gnv.2.2.2.2.1, gnv.2.2.2.2.2.1, gnv.2.2.2.2.2.2.1, (upd gnv.2.2.2.2.2.2.2.1 gnv.2.1.toNatClampNeg v6.1), (upd gnv.2.2.2.2.2.2.2.2.1 gnv.2.1.toNatClampNeg v10.1), gnv.2.2.2.2.2.2.2.2.2)) gac grc gim) := hD
      refine lv_aload_n hx hb dX13_line_234 rfl (lv_at hl 0 rfl) ?_
      refine va_get (D := (dC, dI)) (ci := 11) (v := .ref (a0 17)) (C := RX13) (T := TX13) (N := 64) hx hb hts in_X13 hown hK hP 0 rfl rfl 35 (by decide) lk7 (fun _ h9 => h9) rfl dX13_line_235 ?_
      refine lv_aload_n hx hb dX13_line_238 rfl (lv_at hl 0 rfl) ?_
      refine va_get (D := (dC, dI)) (ci := 11) (v := .int gnv.2.1) (C := RX13) (T := TX13) (N := 64) hx hb hts in_X13 hown hK hP 0 rfl rfl 27 (by decide) lk4 (fun _ h9 => h9) rfl dX13_line_239 ?_
      refine lv_aload_n hx hb dX13_line_242 rfl (lv_at hl 0 rfl) ?_
      refine lv_aload_n hx hb dX13_line_243 rfl (lv_at hl 0 rfl) ?_
      refine va_get (D := (dC, dI)) (ci := 11) (v := .ref (a0 18)) (C := RX13) (T := TX13) (N := 64) hx hb hts in_X13 hown hK hP 0 rfl rfl 36 (by decide) lk8 (fun _ h9 => h9) rfl dX13_line_244 ?_
      refine lv_iconst (v := (5 : Int32)) hx hb dX13_line_247 (by decide) ?_
      refine lv_aload_n hx hb dX13_line_248 rfl (lv_at hl 0 rfl) ?_
      refine va_get (D := (dC, dI)) (ci := 11) (v := .int gnv.2.1) (C := RX13) (T := TX13) (N := 64) hx hb hts in_X13 hown hK hP 0 rfl rfl 27 (by decide) lk4 (fun _ h9 => h9) rfl dX13_line_249 ?_
      refine lv_imul hx hb dX13_line_252 ?_
      obtain ⟨v13, hv14, h⟩ := ok_bind h
      refine cl_vi (w2 := fun (u : (Int32 × Int32) × (Int32 × Int32 × Int32 × Int32 × Int32 × Int32 × Int64 × (Nat → Int32)) × ((Nat → Int32))) => w_X13_line cy a0 gth gvm gtt gtd u.1 u.2.1 ((gnv.1, gnv.2.1, gnv.2.2.1, gnv.2.2.2.1, gnv.2.2.2.2.1, gnv.2.2.2.2.2.1, gnv.2.2.2.2.2.2.1, (upd gnv.2.2.2.2.2.2.2.1 gnv.2.1.toNatClampNeg v6.1), (upd gnv.2.2.2.2.2.2.2.2.1 gnv.2.1.toNatClampNeg v10.1), gnv.2.2.2.2.2.2.2.2.2.1, u.2.2)) gac grc gim) (As := [.ref (a0 18), .int ((5 : Int32) * gnv.2.1)]) (rest := [.int gnv.2.1, .ref (a0 17)]) ⟨hx, hb, hml, hown, hts⟩ (c_X13_figures l dC dI cy a0 (fun k => a0 (k + 18)) 50 gth gvm gtt gtd v10.2.1 v10.2.2 (gnv.1, gnv.2.1, gnv.2.2.1, gnv.2.2.2.1, gnv.2.2.2.2.1, gnv.2.2.2.2.2.1, gnv.2.2.2.2.2.2.1, (upd gnv.2.2.2.2.2.2.2.1 gnv.2.1.toNatClampNeg v6.1), (upd gnv.2.2.2.2.2.2.2.2.1 gnv.2.1.toNatClampNeg v10.1), gnv.2.2.2.2.2.2.2.2.2) gac grc gim gnv.2.2.2.2.2.2.2.2.2.2 ((5 : Int32) * gnv.2.1) H.size v13 hv14) (cwV 2 hts gX13_line_X13_figures rfl rfl rfl (by decide +kernel) ⟨Nat.le_of_ble_eq_true rfl, Nat.le_of_ble_eq_true rfl⟩) (va_recv hK hP (ci := 11) (q0 := 0) rfl rfl) cl_blind (cl_pre hK hP hD [0, 1, 2, 8] (by decide) rfl) hP hD hS hA [0, 1, 2, 8] rfl rfl hl.1 rfl (lv_room (Nat.le_of_ble_eq_true rfl)) dX13_line_253 ⟨Nat.le_of_ble_eq_true rfl, Nat.le_of_ble_eq_true rfl⟩ ⟨rfl, rfl⟩ (fun _ => updM [0, 1, 2, 8] [3, 4, 5, 6, 7] [(a0 13, .inl (cy 1, 5, .inl (gnv.2.2.2.2.2.1))), (a0 14, .inl (cy 1, 5, .inl (gnv.2.2.2.2.2.2.1))), (a0 15, .inl (cy 1, 10, .inl ((upd gnv.2.2.2.2.2.2.2.1 gnv.2.1.toNatClampNeg v6.1)))), (a0 16, .inl (cy 1, 10, .inl ((upd gnv.2.2.2.2.2.2.2.2.1 gnv.2.1.toNatClampNeg v10.1)))), (a0 17, .inl (cy 1, 10, .inl (gnv.2.2.2.2.2.2.2.2.2.1)))] 9 rfl rfl rfl rfl rfl (by decide +kernel) (by decide +kernel) rfl) (fun r u H locs hw hP hD hS => ?_)
      obtain ⟨rfl, rfl⟩ := hw
      have hP : va_P (dC, dI) vwCl (w_X13_line cy a0 gth gvm gtt gtd v13.2.1 v13.2.2.1 ((gnv.1, gnv.2.1, gnv.2.2.1, gnv.2.2.2.1, gnv.2.2.2.2.1, gnv.2.2.2.2.2.1, gnv.2.2.2.2.2.2.1, (upd gnv.2.2.2.2.2.2.2.1 gnv.2.1.toNatClampNeg v6.1), (upd gnv.2.2.2.2.2.2.2.2.1 gnv.2.1.toNatClampNeg v10.1), gnv.2.2.2.2.2.2.2.2.2.1, v13.2.2.2)) gac grc gim) H := hP
      have hD : va_D A (w_X13_line cy a0 gth gvm gtt gtd v13.2.1 v13.2.2.1 ((gnv.1, gnv.2.1, gnv.2.2.1, gnv.2.2.2.1, gnv.2.2.2.2.1, gnv.2.2.2.2.2.1, gnv.2.2.2.2.2.2.1, (upd gnv.2.2.2.2.2.2.2.1 gnv.2.1.toNatClampNeg v6.1), (upd gnv.2.2.2.2.2.2.2.2.1 gnv.2.1.toNatClampNeg v10.1), gnv.2.2.2.2.2.2.2.2.2.1, v13.2.2.2)) gac grc gim) := hD
      obtain ⟨hi15, h⟩ := ok_if h
      refine va_iast hx hb hK hP hD hS 7 1 rfl rfl (ix_in hi15) dX13_line_256 (fun H locs hP hD hS => ?_)
      have hP : va_P (dC, dI) vwCl (w_X13_line cy a0 gth gvm gtt gtd v13.2.1 v13.2.2.1 ((gnv.1, gnv.2.1, gnv.2.2.1, gnv.2.2.2.1, gnv.2.2.2.2.1, gnv.2.2.2.2.2.1, gnv.2.2.2.2.2.2.1, (upd gnv.2.2.2.2.2.2.2.1 gnv.2.1.toNatClampNeg v6.1), (upd gnv.2.2.2.2.2.2.2.2.1 gnv.2.1.toNatClampNeg v10.1), (upd gnv.2.2.2.2.2.2.2.2.2.1 gnv.2.1.toNatClampNeg v13.1), v13.2.2.2)) gac grc gim) H := hP
      have hD : va_D A (w_X13_line cy a0 gth gvm gtt gtd v13.2.1 v13.2.2.1 ((gnv.1, gnv.2.1, gnv.2.2.1, gnv.2.2.2.1, gnv.2.2.2.2.1, gnv.2.2.2.2.2.1, gnv.2.2.2.2.2.2.1, (upd gnv.2.2.2.2.2.2.2.1 gnv.2.1.toNatClampNeg v6.1), (upd gnv.2.2.2.2.2.2.2.2.1 gnv.2.1.toNatClampNeg v10.1), (upd gnv.2.2.2.2.2.2.2.2.2.1 gnv.2.1.toNatClampNeg v13.1), v13.2.2.2)) gac grc gim) := hD
      refine lv_aload_n hx hb dX13_line_257 rfl (lv_at hl 0 rfl) ?_
      obtain ⟨v16, hv17, h⟩ := ok_bind h
      refine cl_vi (w2 := fun (_ : Unit) => w_X13_line cy a0 gth gvm gtt gtd v13.2.1 v13.2.2.1 ((gnv.1, gnv.2.1, gnv.2.2.1, gnv.2.2.2.1, gnv.2.2.2.2.1, gnv.2.2.2.2.2.1, gnv.2.2.2.2.2.2.1, (upd gnv.2.2.2.2.2.2.2.1 gnv.2.1.toNatClampNeg v6.1), (upd gnv.2.2.2.2.2.2.2.2.1 gnv.2.1.toNatClampNeg v10.1), (upd gnv.2.2.2.2.2.2.2.2.2.1 gnv.2.1.toNatClampNeg v13.1), v13.2.2.2)) gac grc gim) (As := []) (rest := []) ⟨hx, hb, hml, hown, hts⟩ (c_X13_isGood l dC dI cy a0 gth gvm gtd v13.2.1 v13.2.2.1 (gnv.1, gnv.2.1, gnv.2.2.1, gnv.2.2.2.1, gnv.2.2.2.2.1, gnv.2.2.2.2.2.1, gnv.2.2.2.2.2.2.1, (upd gnv.2.2.2.2.2.2.2.1 gnv.2.1.toNatClampNeg v6.1), (upd gnv.2.2.2.2.2.2.2.2.1 gnv.2.1.toNatClampNeg v10.1), (upd gnv.2.2.2.2.2.2.2.2.2.1 gnv.2.1.toNatClampNeg v13.1), v13.2.2.2) gac grc gim H.size v16 hv17) (cwV 0 hts gX13_line_X13_isGood rfl rfl rfl (by decide +kernel) ⟨Nat.le_of_ble_eq_true rfl, Nat.le_of_ble_eq_true rfl⟩) (va_recv hK hP (ci := 11) (q0 := 0) rfl rfl) cl_blind (cl_pre hK hP hD [0] (by decide) rfl) hP hD hS hA [0] rfl rfl hl.1 rfl (lv_room (Nat.le_of_ble_eq_true rfl)) dX13_line_258 ⟨Nat.le_of_ble_eq_true rfl, Nat.le_of_ble_eq_true rfl⟩ ⟨rfl, rfl⟩ (fun _ => updR [0] rfl) (fun r u H locs hw hP hD hS => ?_)
      have hw := hw.symm
      subst hw
      have hP : va_P (dC, dI) vwCl (w_X13_line cy a0 gth gvm gtt gtd v13.2.1 v13.2.2.1 ((gnv.1, gnv.2.1, gnv.2.2.1, gnv.2.2.2.1, gnv.2.2.2.2.1, gnv.2.2.2.2.2.1, gnv.2.2.2.2.2.2.1, (upd gnv.2.2.2.2.2.2.2.1 gnv.2.1.toNatClampNeg v6.1), (upd gnv.2.2.2.2.2.2.2.2.1 gnv.2.1.toNatClampNeg v10.1), (upd gnv.2.2.2.2.2.2.2.2.2.1 gnv.2.1.toNatClampNeg v13.1), v13.2.2.2)) gac grc gim) H := hP
      have hD : va_D A (w_X13_line cy a0 gth gvm gtt gtd v13.2.1 v13.2.2.1 ((gnv.1, gnv.2.1, gnv.2.2.1, gnv.2.2.2.1, gnv.2.2.2.2.1, gnv.2.2.2.2.2.1, gnv.2.2.2.2.2.2.1, (upd gnv.2.2.2.2.2.2.2.1 gnv.2.1.toNatClampNeg v6.1), (upd gnv.2.2.2.2.2.2.2.2.1 gnv.2.1.toNatClampNeg v10.1), (upd gnv.2.2.2.2.2.2.2.2.2.1 gnv.2.1.toNatClampNeg v13.1), v13.2.2.2)) gac grc gim) := hD
      refine lv_if_eq (tgt := 384) hx hb dX13_line_261 (by decide) (fun c18 => ?_) (fun c18 => ?_)
      · rw [if_pos c18] at h
        exact c384 () v13.2.1 v13.2.2.1 (gnv.1, gnv.2.1, gnv.2.2.1, gnv.2.2.2.1, gnv.2.2.2.2.1, gnv.2.2.2.2.2.1, gnv.2.2.2.2.2.2.1, (upd gnv.2.2.2.2.2.2.2.1 gnv.2.1.toNatClampNeg v6.1), (upd gnv.2.2.2.2.2.2.2.2.1 gnv.2.1.toNatClampNeg v10.1), (upd gnv.2.2.2.2.2.2.2.2.2.1 gnv.2.1.toNatClampNeg v13.1), v13.2.2.2) H locs ls h hP hD hS (lv_sub hl [0] rfl)
      · rw [if_neg c18] at h
        refine lv_aload_n hx hb dX13_line_264 rfl (lv_at hl 0 rfl) ?_
        refine lv_dup hx hb dX13_line_265 rfl ?_
        refine va_get (D := (dC, dI)) (ci := 11) (v := .int gnv.2.1) (C := RX13) (T := TX13) (N := 64) hx hb hts in_X13 hown hK hP 0 rfl rfl 27 (by decide) lk4 (fun _ h9 => h9) rfl dX13_line_266 ?_
        refine lv_iconst (v := (1 : Int32)) hx hb dX13_line_269 (by decide) ?_
        refine lv_iadd hx hb dX13_line_270 ?_
        refine va_put (D := (dC, dI)) (ci := 11) (v := .int (gnv.2.1 + (1 : Int32))) (ty := .int) (C := RX13) (T := TX13) (N := 64) hx hb hts in_X13 tyX13 tyX13_ok nmX13 hown hK hP hD hS 0 rfl rfl 27 (by decide) lk4 (fun _ h9 => h9) rfl (by decide +kernel) rfl rfl (Nat.le_of_ble_eq_true rfl) dX13_line_271 (fun H locs hP hD hS => ?_)
        have hP : va_P (dC, dI) vwCl (w_X13_line cy a0 gth gvm gtt gtd v13.2.1 v13.2.2.1 ((gnv.1, (gnv.2.1 + (1 : Int32)), gnv.2.2.1, gnv.2.2.2.1, gnv.2.2.2.2.1, gnv.2.2.2.2.2.1, gnv.2.2.2.2.2.2.1, (upd gnv.2.2.2.2.2.2.2.1 gnv.2.1.toNatClampNeg v6.1), (upd gnv.2.2.2.2.2.2.2.2.1 gnv.2.1.toNatClampNeg v10.1), (upd gnv.2.2.2.2.2.2.2.2.2.1 gnv.2.1.toNatClampNeg v13.1), v13.2.2.2)) gac grc gim) H := hP
        have hD : va_D A (w_X13_line cy a0 gth gvm gtt gtd v13.2.1 v13.2.2.1 ((gnv.1, (gnv.2.1 + (1 : Int32)), gnv.2.2.1, gnv.2.2.2.1, gnv.2.2.2.2.1, gnv.2.2.2.2.2.1, gnv.2.2.2.2.2.2.1, (upd gnv.2.2.2.2.2.2.2.1 gnv.2.1.toNatClampNeg v6.1), (upd gnv.2.2.2.2.2.2.2.2.1 gnv.2.1.toNatClampNeg v10.1), (upd gnv.2.2.2.2.2.2.2.2.2.1 gnv.2.1.toNatClampNeg v13.1), v13.2.2.2)) gac grc gim) := hD
        refine lv_goto (tgt := 384) hx hb dX13_line_274 (by decide) ?_
        exact c384 () v13.2.1 v13.2.2.1 (gnv.1, (gnv.2.1 + (1 : Int32)), gnv.2.2.1, gnv.2.2.2.1, gnv.2.2.2.2.1, gnv.2.2.2.2.2.1, gnv.2.2.2.2.2.2.1, (upd gnv.2.2.2.2.2.2.2.1 gnv.2.1.toNatClampNeg v6.1), (upd gnv.2.2.2.2.2.2.2.2.1 gnv.2.1.toNatClampNeg v10.1), (upd gnv.2.2.2.2.2.2.2.2.2.1 gnv.2.1.toNatClampNeg v13.1), v13.2.2.2) H locs ls h hP hD hS (lv_sub hl [0] rfl)
    · rw [if_pos c3] at h
      exact W.vret hx hb hr (fun t ht hW => by rw [hqq]; have hh := Option.some.inj h; exact ⟨⟨((gfl, grd, gnv)), rfl, Option.some.inj h, by rw [ht]; exact hP, va_K.moved hW.alike hK⟩, hS.F ht⟩) hS.2.2 dX13_line_185
  have c135 : ∀ (_u : Unit), ∀ (gfl : Int32 × Int32) (grd : Int32 × Int32 × Int32 × Int32 × Int32 × Int32 × Int64 × (Nat → Int32)) (gnv : Int32 × Int32 × Int32 × Int32 × Int32 × (Nat → Int32) × (Nat → Int32) × (Nat → Int32) × (Nat → Int32) × (Nat → Int32) × (Nat → Int32)) (H : Heap) (locs : List Loc) (ls : Array Slot), p_X13_line_135 gtt gfl grd gnv = some R0 → va_P (dC, dI) vwCl (w_X13_line cy a0 gth gvm gtt gtd gfl grd gnv gac grc gim) H → va_D A (w_X13_line cy a0 gth gvm gtt gtd gfl grd gnv gac grc gim) → va_S A s.heap H locs → lv_has ls 1 [(0, .ref (a0 0))] → W p l e rm_X13_line s m aa below meth c H locs 0 0 (MQ below qq aa s 0 0 A) (F0 m 135 ls []) := by
    intro _ gfl grd gnv H locs ls h hP hD hS hl
    unfold p_X13_line_135 at h
    refine lv_aload_n hx hb dX13_line_135 rfl (lv_at hl 0 rfl) ?_
    obtain ⟨v1, hv2, h⟩ := ok_bind h
    refine cl_vi (w2 := fun (_ : Unit) => w_X13_line cy a0 gth gvm gtt gtd gfl grd gnv gac grc gim) (As := []) (rest := []) ⟨hx, hb, hml, hown, hts⟩ (c_X13_isGood l dC dI cy a0 gth gvm gtd gfl grd gnv gac grc gim H.size v1 hv2) (cwV 0 hts gX13_line_X13_isGood rfl rfl rfl (by decide +kernel) ⟨Nat.le_of_ble_eq_true rfl, Nat.le_of_ble_eq_true rfl⟩) (va_recv hK hP (ci := 11) (q0 := 0) rfl rfl) cl_blind (cl_pre hK hP hD [0] (by decide) rfl) hP hD hS hA [0] rfl rfl hl.1 rfl (lv_room (Nat.le_of_ble_eq_true rfl)) dX13_line_136 ⟨Nat.le_of_ble_eq_true rfl, Nat.le_of_ble_eq_true rfl⟩ ⟨rfl, rfl⟩ (fun _ => updR [0] rfl) (fun r u H locs hw hP hD hS => ?_)
    have hw := hw.symm
    subst hw
    have hP : va_P (dC, dI) vwCl (w_X13_line cy a0 gth gvm gtt gtd gfl grd gnv gac grc gim) H := hP
    have hD : va_D A (w_X13_line cy a0 gth gvm gtt gtd gfl grd gnv gac grc gim) := hD
    refine lv_if_eq (tgt := 384) hx hb dX13_line_139 (by decide) (fun c3 => ?_) (fun c3 => ?_)
    · rw [if_pos c3] at h
      exact c384 () gfl grd gnv H locs ls h hP hD hS (lv_sub hl [0] rfl)
    · rw [if_neg c3] at h
      refine lv_aload_n hx hb dX13_line_142 rfl (lv_at hl 0 rfl) ?_
      refine lv_dup hx hb dX13_line_143 rfl ?_
      refine va_get (D := (dC, dI)) (ci := 11) (v := .int gnv.1) (C := RX13) (T := TX13) (N := 64) hx hb hts in_X13 hown hK hP 0 rfl rfl 26 (by decide) lk5 (fun _ h9 => h9) rfl dX13_line_144 ?_
      refine lv_iconst (v := (1 : Int32)) hx hb dX13_line_147 (by decide) ?_
      refine lv_iadd hx hb dX13_line_148 ?_
      refine va_put (D := (dC, dI)) (ci := 11) (v := .int (gnv.1 + (1 : Int32))) (ty := .int) (C := RX13) (T := TX13) (N := 64) hx hb hts in_X13 tyX13 tyX13_ok nmX13 hown hK hP hD hS 0 rfl rfl 26 (by decide) lk5 (fun _ h9 => h9) rfl (by decide +kernel) rfl rfl (Nat.le_of_ble_eq_true rfl) dX13_line_149 (fun H locs hP hD hS => ?_)
      have hP : va_P (dC, dI) vwCl (w_X13_line cy a0 gth gvm gtt gtd gfl grd (((gnv.1 + (1 : Int32)), gnv.2)) gac grc gim) H := hP
      have hD : va_D A (w_X13_line cy a0 gth gvm gtt gtd gfl grd (((gnv.1 + (1 : Int32)), gnv.2)) gac grc gim) := hD
      refine lv_goto (tgt := 384) hx hb dX13_line_152 (by decide) ?_
      exact c384 () gfl grd ((gnv.1 + (1 : Int32)), gnv.2) H locs ls h hP hD hS (lv_sub hl [0] rfl)
  have c68 : ∀ (_u : Unit), ∀ (gfl : Int32 × Int32) (grd : Int32 × Int32 × Int32 × Int32 × Int32 × Int32 × Int64 × (Nat → Int32)) (gnv : Int32 × Int32 × Int32 × Int32 × Int32 × (Nat → Int32) × (Nat → Int32) × (Nat → Int32) × (Nat → Int32) × (Nat → Int32) × (Nat → Int32)) (t1 : Int32) (t3 : Int32) (t4 : Int32) (H : Heap) (locs : List Loc) (ls : Array Slot), p_X13_line_68 gtt gfl grd gnv t1 t3 t4 = some R0 → va_P (dC, dI) vwCl (w_X13_line cy a0 gth gvm gtt gtd gfl grd gnv gac grc gim) H → va_D A (w_X13_line cy a0 gth gvm gtt gtd gfl grd gnv gac grc gim) → va_S A s.heap H locs → lv_has ls 1 [(0, .ref (a0 0))] → W p l e rm_X13_line s m aa below meth c H locs 0 0 (MQ below qq aa s 0 0 A) (F0 m 68 ls [.int t4, .int t3, .ref (a0 0), .int t1, .ref (a0 13)]) := by
    intro _ gfl grd gnv t1 t3 t4 H locs ls h hP hD hS hl
    unfold p_X13_line_68 at h
    obtain ⟨v1, hv2, h⟩ := ok_bind h
    refine cl_vi (w2 := fun (u : (Int32 × Int32) × (Int32 × Int32 × Int32 × Int32 × Int32 × Int32 × Int64 × (Nat → Int32))) => w_X13_line cy a0 gth gvm gtt gtd u.1 u.2 gnv gac grc gim) (As := [.int t3, .int t4]) (rest := [.int t1, .ref (a0 13)]) ⟨hx, hb, hml, hown, hts⟩ (c_X13_number l dC dI cy a0 gth gvm gtt gtd gfl grd gnv gac grc gim t3 t4 H.size v1 hv2) (cwV 2 hts gX13_line_X13_number rfl rfl rfl (by decide +kernel) ⟨Nat.le_of_ble_eq_true rfl, Nat.le_of_ble_eq_true rfl⟩) (va_recv hK hP (ci := 11) (q0 := 0) rfl rfl) cl_blind (cl_pre hK hP hD [0, 1, 2] (by decide) rfl) hP hD hS hA [0, 1, 2] rfl rfl hl.1 rfl (lv_room (Nat.le_of_ble_eq_true rfl)) dX13_line_68 ⟨Nat.le_of_ble_eq_true rfl, Nat.le_of_ble_eq_true rfl⟩ ⟨rfl, rfl⟩ (fun _ => updM [0, 1, 2] [3, 4, 5, 6, 7, 8] [(a0 13, .inl (cy 1, 5, .inl (gnv.2.2.2.2.2.1))), (a0 14, .inl (cy 1, 5, .inl (gnv.2.2.2.2.2.2.1))), (a0 15, .inl (cy 1, 10, .inl (gnv.2.2.2.2.2.2.2.1))), (a0 16, .inl (cy 1, 10, .inl (gnv.2.2.2.2.2.2.2.2.1))), (a0 17, .inl (cy 1, 10, .inl (gnv.2.2.2.2.2.2.2.2.2.1))), (a0 18, .inl (cy 1, 50, .inl (gnv.2.2.2.2.2.2.2.2.2.2)))] 9 rfl rfl rfl rfl rfl (by decide +kernel) (by decide +kernel) rfl) (fun r u H locs hw hP hD hS => ?_)
    obtain ⟨rfl, rfl⟩ := hw
    have hP : va_P (dC, dI) vwCl (w_X13_line cy a0 gth gvm gtt gtd v1.2.1 v1.2.2 gnv gac grc gim) H := hP
    have hD : va_D A (w_X13_line cy a0 gth gvm gtt gtd v1.2.1 v1.2.2 gnv gac grc gim) := hD
    obtain ⟨hi3, h⟩ := ok_if h
    refine va_iast hx hb hK hP hD hS 3 1 rfl rfl (ix_in hi3) dX13_line_71 (fun H locs hP hD hS => ?_)
    have hP : va_P (dC, dI) vwCl (w_X13_line cy a0 gth gvm gtt gtd v1.2.1 v1.2.2 ((gnv.1, gnv.2.1, gnv.2.2.1, gnv.2.2.2.1, gnv.2.2.2.2.1, (upd gnv.2.2.2.2.2.1 t1.toNatClampNeg v1.1), gnv.2.2.2.2.2.2)) gac grc gim) H := hP
    have hD : va_D A (w_X13_line cy a0 gth gvm gtt gtd v1.2.1 v1.2.2 ((gnv.1, gnv.2.1, gnv.2.2.1, gnv.2.2.2.1, gnv.2.2.2.2.1, (upd gnv.2.2.2.2.2.1 t1.toNatClampNeg v1.1), gnv.2.2.2.2.2.2)) gac grc gim) := hD
    refine lv_aload_n hx hb dX13_line_72 rfl (lv_at hl 0 rfl) ?_
    refine lv_dup hx hb dX13_line_73 rfl ?_
    refine va_get (D := (dC, dI)) (ci := 11) (v := .int gnv.2.2.2.1) (C := RX13) (T := TX13) (N := 64) hx hb hts in_X13 hown hK hP 0 rfl rfl 29 (by decide) lk9 (fun _ h9 => h9) rfl dX13_line_74 ?_
    refine lv_aload_n hx hb dX13_line_77 rfl (lv_at hl 0 rfl) ?_
    refine va_get (D := (dC, dI)) (ci := 11) (v := .ref (a0 13)) (C := RX13) (T := TX13) (N := 64) hx hb hts in_X13 hown hK hP 0 rfl rfl 31 (by decide) lk10 (fun _ h9 => h9) rfl dX13_line_78 ?_
    refine lv_aload_n hx hb dX13_line_81 rfl (lv_at hl 0 rfl) ?_
    refine va_get (D := (dC, dI)) (ci := 11) (v := .int gnv.1) (C := RX13) (T := TX13) (N := 64) hx hb hts in_X13 hown hK hP 0 rfl rfl 26 (by decide) lk5 (fun _ h9 => h9) rfl dX13_line_82 ?_
    obtain ⟨hi4, h⟩ := ok_if h
    refine va_iald hx hb hK hP 3 1 rfl rfl (ix_in hi4) dX13_line_85 ?_
    refine lv_iadd hx hb dX13_line_86 ?_
    refine va_put (D := (dC, dI)) (ci := 11) (v := .int (gnv.2.2.2.1 + ((upd gnv.2.2.2.2.2.1 t1.toNatClampNeg v1.1) gnv.1.toNatClampNeg))) (ty := .int) (C := RX13) (T := TX13) (N := 64) hx hb hts in_X13 tyX13 tyX13_ok nmX13 hown hK hP hD hS 0 rfl rfl 29 (by decide) lk9 (fun _ h9 => h9) rfl (by decide +kernel) rfl rfl (Nat.le_of_ble_eq_true rfl) dX13_line_87 (fun H locs hP hD hS => ?_)
    have hP : va_P (dC, dI) vwCl (w_X13_line cy a0 gth gvm gtt gtd v1.2.1 v1.2.2 ((gnv.1, gnv.2.1, gnv.2.2.1, (gnv.2.2.2.1 + ((upd gnv.2.2.2.2.2.1 t1.toNatClampNeg v1.1) gnv.1.toNatClampNeg)), gnv.2.2.2.2.1, (upd gnv.2.2.2.2.2.1 t1.toNatClampNeg v1.1), gnv.2.2.2.2.2.2)) gac grc gim) H := hP
    have hD : va_D A (w_X13_line cy a0 gth gvm gtt gtd v1.2.1 v1.2.2 ((gnv.1, gnv.2.1, gnv.2.2.1, (gnv.2.2.2.1 + ((upd gnv.2.2.2.2.2.1 t1.toNatClampNeg v1.1) gnv.1.toNatClampNeg)), gnv.2.2.2.2.1, (upd gnv.2.2.2.2.2.1 t1.toNatClampNeg v1.1), gnv.2.2.2.2.2.2)) gac grc gim) := hD
    refine lv_aload_n hx hb dX13_line_90 rfl (lv_at hl 0 rfl) ?_
    refine va_get (D := (dC, dI)) (ci := 11) (v := .ref (a0 14)) (C := RX13) (T := TX13) (N := 64) hx hb hts in_X13 hown hK hP 0 rfl rfl 32 (by decide) lk11 (fun _ h9 => h9) rfl dX13_line_91 ?_
    refine lv_aload_n hx hb dX13_line_94 rfl (lv_at hl 0 rfl) ?_
    refine va_get (D := (dC, dI)) (ci := 11) (v := .int gnv.1) (C := RX13) (T := TX13) (N := 64) hx hb hts in_X13 hown hK hP 0 rfl rfl 26 (by decide) lk5 (fun _ h9 => h9) rfl dX13_line_95 ?_
    refine lv_iconst (v := (0 : Int32)) hx hb dX13_line_98 (by decide) ?_
    obtain ⟨hi5, h⟩ := ok_if h
    refine va_iast hx hb hK hP hD hS 4 1 rfl rfl (ix_in hi5) dX13_line_99 (fun H locs hP hD hS => ?_)
    have hP : va_P (dC, dI) vwCl (w_X13_line cy a0 gth gvm gtt gtd v1.2.1 v1.2.2 ((gnv.1, gnv.2.1, gnv.2.2.1, (gnv.2.2.2.1 + ((upd gnv.2.2.2.2.2.1 t1.toNatClampNeg v1.1) gnv.1.toNatClampNeg)), gnv.2.2.2.2.1, (upd gnv.2.2.2.2.2.1 t1.toNatClampNeg v1.1), (upd gnv.2.2.2.2.2.2.1 gnv.1.toNatClampNeg (0 : Int32)), gnv.2.2.2.2.2.2.2)) gac grc gim) H := hP
    have hD : va_D A (w_X13_line cy a0 gth gvm gtt gtd v1.2.1 v1.2.2 ((gnv.1, gnv.2.1, gnv.2.2.1, (gnv.2.2.2.1 + ((upd gnv.2.2.2.2.2.1 t1.toNatClampNeg v1.1) gnv.1.toNatClampNeg)), gnv.2.2.2.2.1, (upd gnv.2.2.2.2.2.1 t1.toNatClampNeg v1.1), (upd gnv.2.2.2.2.2.2.1 gnv.1.toNatClampNeg (0 : Int32)), gnv.2.2.2.2.2.2.2)) gac grc gim) := hD
    refine lv_aload_n hx hb dX13_line_100 rfl (lv_at hl 0 rfl) ?_
    obtain ⟨v6, hv7, h⟩ := ok_bind h
    refine cl_vi (w2 := fun (_ : Unit) => w_X13_line cy a0 gth gvm gtt gtd v1.2.1 v1.2.2 ((gnv.1, gnv.2.1, gnv.2.2.1, (gnv.2.2.2.1 + ((upd gnv.2.2.2.2.2.1 t1.toNatClampNeg v1.1) gnv.1.toNatClampNeg)), gnv.2.2.2.2.1, (upd gnv.2.2.2.2.2.1 t1.toNatClampNeg v1.1), (upd gnv.2.2.2.2.2.2.1 gnv.1.toNatClampNeg (0 : Int32)), gnv.2.2.2.2.2.2.2)) gac grc gim) (As := []) (rest := []) ⟨hx, hb, hml, hown, hts⟩ (c_X13_isGood l dC dI cy a0 gth gvm gtd v1.2.1 v1.2.2 (gnv.1, gnv.2.1, gnv.2.2.1, (gnv.2.2.2.1 + ((upd gnv.2.2.2.2.2.1 t1.toNatClampNeg v1.1) gnv.1.toNatClampNeg)), gnv.2.2.2.2.1, (upd gnv.2.2.2.2.2.1 t1.toNatClampNeg v1.1), (upd gnv.2.2.2.2.2.2.1 gnv.1.toNatClampNeg (0 : Int32)), gnv.2.2.2.2.2.2.2) gac grc gim H.size v6 hv7) (cwV 0 hts gX13_line_X13_isGood rfl rfl rfl (by decide +kernel) ⟨Nat.le_of_ble_eq_true rfl, Nat.le_of_ble_eq_true rfl⟩) (va_recv hK hP (ci := 11) (q0 := 0) rfl rfl) cl_blind (cl_pre hK hP hD [0] (by decide) rfl) hP hD hS hA [0] rfl rfl hl.1 rfl (lv_room (Nat.le_of_ble_eq_true rfl)) dX13_line_101 ⟨Nat.le_of_ble_eq_true rfl, Nat.le_of_ble_eq_true rfl⟩ ⟨rfl, rfl⟩ (fun _ => updR [0] rfl) (fun r u H locs hw hP hD hS => ?_)
    have hw := hw.symm
    subst hw
    have hP : va_P (dC, dI) vwCl (w_X13_line cy a0 gth gvm gtt gtd v1.2.1 v1.2.2 ((gnv.1, gnv.2.1, gnv.2.2.1, (gnv.2.2.2.1 + ((upd gnv.2.2.2.2.2.1 t1.toNatClampNeg v1.1) gnv.1.toNatClampNeg)), gnv.2.2.2.2.1, (upd gnv.2.2.2.2.2.1 t1.toNatClampNeg v1.1), (upd gnv.2.2.2.2.2.2.1 gnv.1.toNatClampNeg (0 : Int32)), gnv.2.2.2.2.2.2.2)) gac grc gim) H := hP
    have hD : va_D A (w_X13_line cy a0 gth gvm gtt gtd v1.2.1 v1.2.2 ((gnv.1, gnv.2.1, gnv.2.2.1, (gnv.2.2.2.1 + ((upd gnv.2.2.2.2.2.1 t1.toNatClampNeg v1.1) gnv.1.toNatClampNeg)), gnv.2.2.2.2.1, (upd gnv.2.2.2.2.2.1 t1.toNatClampNeg v1.1), (upd gnv.2.2.2.2.2.2.1 gnv.1.toNatClampNeg (0 : Int32)), gnv.2.2.2.2.2.2.2)) gac grc gim) := hD
    refine lv_if_eq (tgt := 135) hx hb dX13_line_104 (by decide) (fun c8 => ?_) (fun c8 => ?_)
    · rw [if_pos c8] at h
      exact c135 () v1.2.1 v1.2.2 (gnv.1, gnv.2.1, gnv.2.2.1, (gnv.2.2.2.1 + ((upd gnv.2.2.2.2.2.1 t1.toNatClampNeg v1.1) gnv.1.toNatClampNeg)), gnv.2.2.2.2.1, (upd gnv.2.2.2.2.2.1 t1.toNatClampNeg v1.1), (upd gnv.2.2.2.2.2.2.1 gnv.1.toNatClampNeg (0 : Int32)), gnv.2.2.2.2.2.2.2) H locs ls h hP hD hS (lv_sub hl [0] rfl)
    · rw [if_neg c8] at h
      refine lv_aload_n hx hb dX13_line_107 rfl (lv_at hl 0 rfl) ?_
      refine lv_bipush (v := (9 : Int32)) hx hb dX13_line_108 (by decide) ?_
      obtain ⟨v9, hv10, h⟩ := ok_bind h
      refine cl_vi (w2 := fun (_ : Unit) => w_X13_line cy a0 gth gvm gtt gtd v1.2.1 v1.2.2 ((gnv.1, gnv.2.1, gnv.2.2.1, (gnv.2.2.2.1 + ((upd gnv.2.2.2.2.2.1 t1.toNatClampNeg v1.1) gnv.1.toNatClampNeg)), gnv.2.2.2.2.1, (upd gnv.2.2.2.2.2.1 t1.toNatClampNeg v1.1), (upd gnv.2.2.2.2.2.2.1 gnv.1.toNatClampNeg (0 : Int32)), gnv.2.2.2.2.2.2.2)) gac grc gim) (As := [.int (9 : Int32)]) (rest := []) ⟨hx, hb, hml, hown, hts⟩ (c_X13_is l dC dI cy a0 gth gvm gtd v1.2.1 v1.2.2 (gnv.1, gnv.2.1, gnv.2.2.1, (gnv.2.2.2.1 + ((upd gnv.2.2.2.2.2.1 t1.toNatClampNeg v1.1) gnv.1.toNatClampNeg)), gnv.2.2.2.2.1, (upd gnv.2.2.2.2.2.1 t1.toNatClampNeg v1.1), (upd gnv.2.2.2.2.2.2.1 gnv.1.toNatClampNeg (0 : Int32)), gnv.2.2.2.2.2.2.2) gac grc gim (9 : Int32) H.size v9 hv10) (cwV 1 hts gX13_line_X13_is rfl rfl rfl (by decide +kernel) ⟨Nat.le_of_ble_eq_true rfl, Nat.le_of_ble_eq_true rfl⟩) (va_recv hK hP (ci := 11) (q0 := 0) rfl rfl) cl_blind (cl_pre hK hP hD [0, 2] (by decide) rfl) hP hD hS hA [0, 2] rfl rfl hl.1 rfl (lv_room (Nat.le_of_ble_eq_true rfl)) dX13_line_110 ⟨Nat.le_of_ble_eq_true rfl, Nat.le_of_ble_eq_true rfl⟩ ⟨rfl, rfl⟩ (fun _ => updR [0, 2] rfl) (fun r u H locs hw hP hD hS => ?_)
      have hw := hw.symm
      subst hw
      have hP : va_P (dC, dI) vwCl (w_X13_line cy a0 gth gvm gtt gtd v1.2.1 v1.2.2 ((gnv.1, gnv.2.1, gnv.2.2.1, (gnv.2.2.2.1 + ((upd gnv.2.2.2.2.2.1 t1.toNatClampNeg v1.1) gnv.1.toNatClampNeg)), gnv.2.2.2.2.1, (upd gnv.2.2.2.2.2.1 t1.toNatClampNeg v1.1), (upd gnv.2.2.2.2.2.2.1 gnv.1.toNatClampNeg (0 : Int32)), gnv.2.2.2.2.2.2.2)) gac grc gim) H := hP
      have hD : va_D A (w_X13_line cy a0 gth gvm gtt gtd v1.2.1 v1.2.2 ((gnv.1, gnv.2.1, gnv.2.2.1, (gnv.2.2.2.1 + ((upd gnv.2.2.2.2.2.1 t1.toNatClampNeg v1.1) gnv.1.toNatClampNeg)), gnv.2.2.2.2.1, (upd gnv.2.2.2.2.2.1 t1.toNatClampNeg v1.1), (upd gnv.2.2.2.2.2.2.1 gnv.1.toNatClampNeg (0 : Int32)), gnv.2.2.2.2.2.2.2)) gac grc gim) := hD
      refine lv_if_eq (tgt := 135) hx hb dX13_line_113 (by decide) (fun c11 => ?_) (fun c11 => ?_)
      · rw [if_pos c11] at h
        exact c135 () v1.2.1 v1.2.2 (gnv.1, gnv.2.1, gnv.2.2.1, (gnv.2.2.2.1 + ((upd gnv.2.2.2.2.2.1 t1.toNatClampNeg v1.1) gnv.1.toNatClampNeg)), gnv.2.2.2.2.1, (upd gnv.2.2.2.2.2.1 t1.toNatClampNeg v1.1), (upd gnv.2.2.2.2.2.2.1 gnv.1.toNatClampNeg (0 : Int32)), gnv.2.2.2.2.2.2.2) H locs ls h hP hD hS (lv_sub hl [0] rfl)
      · rw [if_neg c11] at h
        refine lv_aload_n hx hb dX13_line_116 rfl (lv_at hl 0 rfl) ?_
        obtain ⟨v12, hv13, h⟩ := ok_bind h
        refine cl_vv (w2 := fun (u : (Int32 × Int32 × Int32 × Int32 × Int32 × Int32 × Int64 × (Nat → Int32))) => w_X13_line cy a0 gth gvm gtt gtd v1.2.1 u ((gnv.1, gnv.2.1, gnv.2.2.1, (gnv.2.2.2.1 + ((upd gnv.2.2.2.2.2.1 t1.toNatClampNeg v1.1) gnv.1.toNatClampNeg)), gnv.2.2.2.2.1, (upd gnv.2.2.2.2.2.1 t1.toNatClampNeg v1.1), (upd gnv.2.2.2.2.2.2.1 gnv.1.toNatClampNeg (0 : Int32)), gnv.2.2.2.2.2.2.2)) gac grc gim) (As := []) (rest := []) ⟨hx, hb, hml, hown, hts⟩ (c_X13_steps l dC dI cy a0 gth gvm gtt gtd v1.2.1 v1.2.2 (gnv.1, gnv.2.1, gnv.2.2.1, (gnv.2.2.2.1 + ((upd gnv.2.2.2.2.2.1 t1.toNatClampNeg v1.1) gnv.1.toNatClampNeg)), gnv.2.2.2.2.1, (upd gnv.2.2.2.2.2.1 t1.toNatClampNeg v1.1), (upd gnv.2.2.2.2.2.2.1 gnv.1.toNatClampNeg (0 : Int32)), gnv.2.2.2.2.2.2.2) gac grc gim H.size v12 hv13) (cwV 0 hts gX13_line_X13_steps rfl rfl rfl (by decide +kernel) ⟨Nat.le_of_ble_eq_true rfl, Nat.le_of_ble_eq_true rfl⟩) (va_recv hK hP (ci := 11) (q0 := 0) rfl rfl) cl_blind (cl_pre hK hP hD [0, 1, 2] (by decide) rfl) hP hD hS hA [0, 1, 2] rfl rfl hl.1 rfl (lv_room (Nat.le_of_ble_eq_true rfl)) dX13_line_117 ⟨Nat.le_of_ble_eq_true rfl, Nat.le_of_ble_eq_true rfl⟩ ⟨rfl, rfl⟩ (fun _ => updM [0, 1, 2] [3, 4, 5, 6, 7, 8] [(a0 13, .inl (cy 1, 5, .inl ((upd gnv.2.2.2.2.2.1 t1.toNatClampNeg v1.1)))), (a0 14, .inl (cy 1, 5, .inl ((upd gnv.2.2.2.2.2.2.1 gnv.1.toNatClampNeg (0 : Int32))))), (a0 15, .inl (cy 1, 10, .inl (gnv.2.2.2.2.2.2.2.1))), (a0 16, .inl (cy 1, 10, .inl (gnv.2.2.2.2.2.2.2.2.1))), (a0 17, .inl (cy 1, 10, .inl (gnv.2.2.2.2.2.2.2.2.2.1))), (a0 18, .inl (cy 1, 50, .inl (gnv.2.2.2.2.2.2.2.2.2.2)))] 9 rfl rfl rfl rfl rfl (by decide +kernel) (by decide +kernel) rfl) (fun u H locs hw hP hD hS => ?_)
        have hw := hw.symm
        subst hw
        have hP : va_P (dC, dI) vwCl (w_X13_line cy a0 gth gvm gtt gtd v1.2.1 v12 ((gnv.1, gnv.2.1, gnv.2.2.1, (gnv.2.2.2.1 + ((upd gnv.2.2.2.2.2.1 t1.toNatClampNeg v1.1) gnv.1.toNatClampNeg)), gnv.2.2.2.2.1, (upd gnv.2.2.2.2.2.1 t1.toNatClampNeg v1.1), (upd gnv.2.2.2.2.2.2.1 gnv.1.toNatClampNeg (0 : Int32)), gnv.2.2.2.2.2.2.2)) gac grc gim) H := hP
        have hD : va_D A (w_X13_line cy a0 gth gvm gtt gtd v1.2.1 v12 ((gnv.1, gnv.2.1, gnv.2.2.1, (gnv.2.2.2.1 + ((upd gnv.2.2.2.2.2.1 t1.toNatClampNeg v1.1) gnv.1.toNatClampNeg)), gnv.2.2.2.2.1, (upd gnv.2.2.2.2.2.1 t1.toNatClampNeg v1.1), (upd gnv.2.2.2.2.2.2.1 gnv.1.toNatClampNeg (0 : Int32)), gnv.2.2.2.2.2.2.2)) gac grc gim) := hD
        refine lv_aload_n hx hb dX13_line_120 rfl (lv_at hl 0 rfl) ?_
        refine va_get (D := (dC, dI)) (ci := 11) (v := .ref (a0 14)) (C := RX13) (T := TX13) (N := 64) hx hb hts in_X13 hown hK hP 0 rfl rfl 32 (by decide) lk11 (fun _ h9 => h9) rfl dX13_line_121 ?_
        refine lv_aload_n hx hb dX13_line_124 rfl (lv_at hl 0 rfl) ?_
        refine va_get (D := (dC, dI)) (ci := 11) (v := .int gnv.1) (C := RX13) (T := TX13) (N := 64) hx hb hts in_X13 hown hK hP 0 rfl rfl 26 (by decide) lk5 (fun _ h9 => h9) rfl dX13_line_125 ?_
        refine lv_aload_n hx hb dX13_line_128 rfl (lv_at hl 0 rfl) ?_
        refine lv_iconst (v := (0 : Int32)) hx hb dX13_line_129 (by decide) ?_
        refine lv_iconst (v := (5 : Int32)) hx hb dX13_line_130 (by decide) ?_
        obtain ⟨v14, hv15, h⟩ := ok_bind h
        refine cl_vi (w2 := fun (u : (Int32 × Int32) × (Int32 × Int32 × Int32 × Int32 × Int32 × Int32 × Int64 × (Nat → Int32))) => w_X13_line cy a0 gth gvm gtt gtd u.1 u.2 ((gnv.1, gnv.2.1, gnv.2.2.1, (gnv.2.2.2.1 + ((upd gnv.2.2.2.2.2.1 t1.toNatClampNeg v1.1) gnv.1.toNatClampNeg)), gnv.2.2.2.2.1, (upd gnv.2.2.2.2.2.1 t1.toNatClampNeg v1.1), (upd gnv.2.2.2.2.2.2.1 gnv.1.toNatClampNeg (0 : Int32)), gnv.2.2.2.2.2.2.2)) gac grc gim) (As := [.int (0 : Int32), .int (5 : Int32)]) (rest := [.int gnv.1, .ref (a0 14)]) ⟨hx, hb, hml, hown, hts⟩ (c_X13_number l dC dI cy a0 gth gvm gtt gtd v1.2.1 v12 (gnv.1, gnv.2.1, gnv.2.2.1, (gnv.2.2.2.1 + ((upd gnv.2.2.2.2.2.1 t1.toNatClampNeg v1.1) gnv.1.toNatClampNeg)), gnv.2.2.2.2.1, (upd gnv.2.2.2.2.2.1 t1.toNatClampNeg v1.1), (upd gnv.2.2.2.2.2.2.1 gnv.1.toNatClampNeg (0 : Int32)), gnv.2.2.2.2.2.2.2) gac grc gim (0 : Int32) (5 : Int32) H.size v14 hv15) (cwV 2 hts gX13_line_X13_number rfl rfl rfl (by decide +kernel) ⟨Nat.le_of_ble_eq_true rfl, Nat.le_of_ble_eq_true rfl⟩) (va_recv hK hP (ci := 11) (q0 := 0) rfl rfl) cl_blind (cl_pre hK hP hD [0, 1, 2] (by decide) rfl) hP hD hS hA [0, 1, 2] rfl rfl hl.1 rfl (lv_room (Nat.le_of_ble_eq_true rfl)) dX13_line_131 ⟨Nat.le_of_ble_eq_true rfl, Nat.le_of_ble_eq_true rfl⟩ ⟨rfl, rfl⟩ (fun _ => updM [0, 1, 2] [3, 4, 5, 6, 7, 8] [(a0 13, .inl (cy 1, 5, .inl ((upd gnv.2.2.2.2.2.1 t1.toNatClampNeg v1.1)))), (a0 14, .inl (cy 1, 5, .inl ((upd gnv.2.2.2.2.2.2.1 gnv.1.toNatClampNeg (0 : Int32))))), (a0 15, .inl (cy 1, 10, .inl (gnv.2.2.2.2.2.2.2.1))), (a0 16, .inl (cy 1, 10, .inl (gnv.2.2.2.2.2.2.2.2.1))), (a0 17, .inl (cy 1, 10, .inl (gnv.2.2.2.2.2.2.2.2.2.1))), (a0 18, .inl (cy 1, 50, .inl (gnv.2.2.2.2.2.2.2.2.2.2)))] 9 rfl rfl rfl rfl rfl (by decide +kernel) (by decide +kernel) rfl) (fun r u H locs hw hP hD hS => ?_)
        obtain ⟨rfl, rfl⟩ := hw
        have hP : va_P (dC, dI) vwCl (w_X13_line cy a0 gth gvm gtt gtd v14.2.1 v14.2.2 ((gnv.1, gnv.2.1, gnv.2.2.1, (gnv.2.2.2.1 + ((upd gnv.2.2.2.2.2.1 t1.toNatClampNeg v1.1) gnv.1.toNatClampNeg)), gnv.2.2.2.2.1, (upd gnv.2.2.2.2.2.1 t1.toNatClampNeg v1.1), (upd gnv.2.2.2.2.2.2.1 gnv.1.toNatClampNeg (0 : Int32)), gnv.2.2.2.2.2.2.2)) gac grc gim) H := hP
        have hD : va_D A (w_X13_line cy a0 gth gvm gtt gtd v14.2.1 v14.2.2 ((gnv.1, gnv.2.1, gnv.2.2.1, (gnv.2.2.2.1 + ((upd gnv.2.2.2.2.2.1 t1.toNatClampNeg v1.1) gnv.1.toNatClampNeg)), gnv.2.2.2.2.1, (upd gnv.2.2.2.2.2.1 t1.toNatClampNeg v1.1), (upd gnv.2.2.2.2.2.2.1 gnv.1.toNatClampNeg (0 : Int32)), gnv.2.2.2.2.2.2.2)) gac grc gim) := hD
        obtain ⟨hi16, h⟩ := ok_if h
        refine va_iast hx hb hK hP hD hS 4 1 rfl rfl (ix_in hi16) dX13_line_134 (fun H locs hP hD hS => ?_)
        have hP : va_P (dC, dI) vwCl (w_X13_line cy a0 gth gvm gtt gtd v14.2.1 v14.2.2 ((gnv.1, gnv.2.1, gnv.2.2.1, (gnv.2.2.2.1 + ((upd gnv.2.2.2.2.2.1 t1.toNatClampNeg v1.1) gnv.1.toNatClampNeg)), gnv.2.2.2.2.1, (upd gnv.2.2.2.2.2.1 t1.toNatClampNeg v1.1), (upd (upd gnv.2.2.2.2.2.2.1 gnv.1.toNatClampNeg (0 : Int32)) gnv.1.toNatClampNeg v14.1), gnv.2.2.2.2.2.2.2)) gac grc gim) H := hP
        have hD : va_D A (w_X13_line cy a0 gth gvm gtt gtd v14.2.1 v14.2.2 ((gnv.1, gnv.2.1, gnv.2.2.1, (gnv.2.2.2.1 + ((upd gnv.2.2.2.2.2.1 t1.toNatClampNeg v1.1) gnv.1.toNatClampNeg)), gnv.2.2.2.2.1, (upd gnv.2.2.2.2.2.1 t1.toNatClampNeg v1.1), (upd (upd gnv.2.2.2.2.2.2.1 gnv.1.toNatClampNeg (0 : Int32)) gnv.1.toNatClampNeg v14.1), gnv.2.2.2.2.2.2.2)) gac grc gim) := hD
        exact c135 () v14.2.1 v14.2.2 (gnv.1, gnv.2.1, gnv.2.2.1, (gnv.2.2.2.1 + ((upd gnv.2.2.2.2.2.1 t1.toNatClampNeg v1.1) gnv.1.toNatClampNeg)), gnv.2.2.2.2.1, (upd gnv.2.2.2.2.2.1 t1.toNatClampNeg v1.1), (upd (upd gnv.2.2.2.2.2.2.1 gnv.1.toNatClampNeg (0 : Int32)) gnv.1.toNatClampNeg v14.1), gnv.2.2.2.2.2.2.2) H locs ls h hP hD hS (lv_sub hl [0] rfl)
  have c22 : ∀ (_u : Unit), ∀ (gfl : Int32 × Int32) (grd : Int32 × Int32 × Int32 × Int32 × Int32 × Int32 × Int64 × (Nat → Int32)) (gnv : Int32 × Int32 × Int32 × Int32 × Int32 × (Nat → Int32) × (Nat → Int32) × (Nat → Int32) × (Nat → Int32) × (Nat → Int32) × (Nat → Int32)) (H : Heap) (locs : List Loc) (ls : Array Slot), p_X13_line_22 gtt gfl grd gnv = some R0 → va_P (dC, dI) vwCl (w_X13_line cy a0 gth gvm gtt gtd gfl grd gnv gac grc gim) H → va_D A (w_X13_line cy a0 gth gvm gtt gtd gfl grd gnv gac grc gim) → va_S A s.heap H locs → lv_has ls 1 [(0, .ref (a0 0))] → W p l e rm_X13_line s m aa below meth c H locs 0 0 (MQ below qq aa s 0 0 A) (F0 m 22 ls []) := by
    intro _ gfl grd gnv H locs ls h hP hD hS hl
    unfold p_X13_line_22 at h
    refine lv_aload_n hx hb dX13_line_22 rfl (lv_at hl 0 rfl) ?_
    obtain ⟨v1, hv2, h⟩ := ok_bind h
    refine cl_vi (w2 := fun (_ : Unit) => w_X13_line cy a0 gth gvm gtt gtd gfl grd gnv gac grc gim) (As := []) (rest := []) ⟨hx, hb, hml, hown, hts⟩ (c_X13_isGood l dC dI cy a0 gth gvm gtd gfl grd gnv gac grc gim H.size v1 hv2) (cwV 0 hts gX13_line_X13_isGood rfl rfl rfl (by decide +kernel) ⟨Nat.le_of_ble_eq_true rfl, Nat.le_of_ble_eq_true rfl⟩) (va_recv hK hP (ci := 11) (q0 := 0) rfl rfl) cl_blind (cl_pre hK hP hD [0] (by decide) rfl) hP hD hS hA [0] rfl rfl hl.1 rfl (lv_room (Nat.le_of_ble_eq_true rfl)) dX13_line_23 ⟨Nat.le_of_ble_eq_true rfl, Nat.le_of_ble_eq_true rfl⟩ ⟨rfl, rfl⟩ (fun _ => updR [0] rfl) (fun r u H locs hw hP hD hS => ?_)
    have hw := hw.symm
    subst hw
    have hP : va_P (dC, dI) vwCl (w_X13_line cy a0 gth gvm gtt gtd gfl grd gnv gac grc gim) H := hP
    have hD : va_D A (w_X13_line cy a0 gth gvm gtt gtd gfl grd gnv gac grc gim) := hD
    refine lv_if_ne (tgt := 30) hx hb dX13_line_26 (by decide) (fun c3 => ?_) (fun c3 => ?_)
    · rw [if_neg c3] at h
      refine lv_aload_n hx hb dX13_line_30 rfl (lv_at hl 0 rfl) ?_
      obtain ⟨v4, hv5, h⟩ := ok_bind h
      refine cl_vv (w2 := fun (u : (Int32 × Int32 × Int32 × Int32 × Int32 × Int32 × Int64 × (Nat → Int32))) => w_X13_line cy a0 gth gvm gtt gtd gfl u gnv gac grc gim) (As := []) (rest := []) ⟨hx, hb, hml, hown, hts⟩ (c_X13_steps l dC dI cy a0 gth gvm gtt gtd gfl grd gnv gac grc gim H.size v4 hv5) (cwV 0 hts gX13_line_X13_steps rfl rfl rfl (by decide +kernel) ⟨Nat.le_of_ble_eq_true rfl, Nat.le_of_ble_eq_true rfl⟩) (va_recv hK hP (ci := 11) (q0 := 0) rfl rfl) cl_blind (cl_pre hK hP hD [0, 1, 2] (by decide) rfl) hP hD hS hA [0, 1, 2] rfl rfl hl.1 rfl (lv_room (Nat.le_of_ble_eq_true rfl)) dX13_line_31 ⟨Nat.le_of_ble_eq_true rfl, Nat.le_of_ble_eq_true rfl⟩ ⟨rfl, rfl⟩ (fun _ => updM [0, 1, 2] [3, 4, 5, 6, 7, 8] [(a0 13, .inl (cy 1, 5, .inl (gnv.2.2.2.2.2.1))), (a0 14, .inl (cy 1, 5, .inl (gnv.2.2.2.2.2.2.1))), (a0 15, .inl (cy 1, 10, .inl (gnv.2.2.2.2.2.2.2.1))), (a0 16, .inl (cy 1, 10, .inl (gnv.2.2.2.2.2.2.2.2.1))), (a0 17, .inl (cy 1, 10, .inl (gnv.2.2.2.2.2.2.2.2.2.1))), (a0 18, .inl (cy 1, 50, .inl (gnv.2.2.2.2.2.2.2.2.2.2)))] 9 rfl rfl rfl rfl rfl (by decide +kernel) (by decide +kernel) rfl) (fun u H locs hw hP hD hS => ?_)
      have hw := hw.symm
      subst hw
      have hP : va_P (dC, dI) vwCl (w_X13_line cy a0 gth gvm gtt gtd gfl v4 gnv gac grc gim) H := hP
      have hD : va_D A (w_X13_line cy a0 gth gvm gtt gtd gfl v4 gnv gac grc gim) := hD
      refine lv_aload_n hx hb dX13_line_34 rfl (lv_at hl 0 rfl) ?_
      refine va_get (D := (dC, dI)) (ci := 11) (v := .ref (a0 13)) (C := RX13) (T := TX13) (N := 64) hx hb hts in_X13 hown hK hP 0 rfl rfl 31 (by decide) lk10 (fun _ h9 => h9) rfl dX13_line_35 ?_
      refine lv_aload_n hx hb dX13_line_38 rfl (lv_at hl 0 rfl) ?_
      refine va_get (D := (dC, dI)) (ci := 11) (v := .int gnv.1) (C := RX13) (T := TX13) (N := 64) hx hb hts in_X13 hown hK hP 0 rfl rfl 26 (by decide) lk5 (fun _ h9 => h9) rfl dX13_line_39 ?_
      refine lv_aload_n hx hb dX13_line_42 rfl (lv_at hl 0 rfl) ?_
      refine lv_iconst (v := (0 : Int32)) hx hb dX13_line_43 (by decide) ?_
      refine lv_bipush (v := (20 : Int32)) hx hb dX13_line_44 (by decide) ?_
      refine lv_bipush (v := (40 : Int32)) hx hb dX13_line_46 (by decide) ?_
      refine lv_aload_n hx hb dX13_line_48 rfl (lv_at hl 0 rfl) ?_
      refine va_get (D := (dC, dI)) (ci := 11) (v := .int gnv.2.2.2.1) (C := RX13) (T := TX13) (N := 64) hx hb hts in_X13 hown hK hP 0 rfl rfl 29 (by decide) lk9 (fun _ h9 => h9) rfl dX13_line_49 ?_
      refine lv_isub hx hb dX13_line_52 ?_
      refine lv_icmp_ge (tgt := 61) hx hb dX13_line_53 (by decide) (fun c6 => ?_) (fun c6 => ?_)
      · rw [if_pos c6] at h
        refine lv_bipush (v := (40 : Int32)) hx hb dX13_line_61 (by decide) ?_
        refine lv_aload_n hx hb dX13_line_63 rfl (lv_at hl 0 rfl) ?_
        refine va_get (D := (dC, dI)) (ci := 11) (v := .int gnv.2.2.2.1) (C := RX13) (T := TX13) (N := 64) hx hb hts in_X13 hown hK hP 0 rfl rfl 29 (by decide) lk9 (fun _ h9 => h9) rfl dX13_line_64 ?_
        refine lv_isub hx hb dX13_line_67 ?_
        exact c68 () gfl v4 gnv gnv.1 (0 : Int32) ((40 : Int32) - gnv.2.2.2.1) H locs ls h hP hD hS (lv_sub hl [0] rfl)
      · rw [if_neg c6] at h
        refine lv_bipush (v := (20 : Int32)) hx hb dX13_line_56 (by decide) ?_
        refine lv_goto (tgt := 68) hx hb dX13_line_58 (by decide) ?_
        exact c68 () gfl v4 gnv gnv.1 (0 : Int32) (20 : Int32) H locs ls h hP hD hS (lv_sub hl [0] rfl)
    · rw [if_pos c3] at h
      exact W.vret hx hb hr (fun t ht hW => by rw [hqq]; have hh := Option.some.inj h; exact ⟨⟨((gfl, grd, gnv)), rfl, Option.some.inj h, by rw [ht]; exact hP, va_K.moved hW.alike hK⟩, hS.F ht⟩) hS.2.2 dX13_line_29
  obtain ⟨H, hH⟩ : ∃ H : Heap, H = s.heap := ⟨_, rfl⟩
  obtain ⟨locs, hlocs⟩ : ∃ locs : List Loc, locs = [] := ⟨_, rfl⟩
  have hS : va_S A s.heap H locs := by rw [hH, hlocs]; exact hS
  rw [← hH] at hP
  suffices hg : W p l e rm_X13_line s m aa below meth c H locs 0 0 (MQ below qq aa s 0 0 A) (F0 m 0 ls []) by subst hH; subst hlocs; exact hg
  unfold p_X13_line at h
  refine lv_aload_n hx hb dX13_line_0 rfl (lv_at hl 0 rfl) ?_
  refine lv_bipush (v := (8 : Int32)) hx hb dX13_line_1 (by decide) ?_
  obtain ⟨v1, hv2, h⟩ := ok_bind h
  refine cl_vi (w2 := fun (_ : Unit) => w_X13_line cy a0 gth gvm gtt gtd gfl grd gnv gac grc gim) (As := [.int (8 : Int32)]) (rest := []) ⟨hx, hb, hml, hown, hts⟩ (c_X13_is l dC dI cy a0 gth gvm gtd gfl grd gnv gac grc gim (8 : Int32) H.size v1 hv2) (cwV 1 hts gX13_line_X13_is rfl rfl rfl (by decide +kernel) ⟨Nat.le_of_ble_eq_true rfl, Nat.le_of_ble_eq_true rfl⟩) (va_recv hK hP (ci := 11) (q0 := 0) rfl rfl) cl_blind (cl_pre hK hP hD [0, 2] (by decide) rfl) hP hD hS hA [0, 2] rfl rfl hl.1 rfl (lv_room (Nat.le_of_ble_eq_true rfl)) dX13_line_3 ⟨Nat.le_of_ble_eq_true rfl, Nat.le_of_ble_eq_true rfl⟩ ⟨rfl, rfl⟩ (fun _ => updR [0, 2] rfl) (fun r u H locs hw hP hD hS => ?_)
  have hw := hw.symm
  subst hw
  have hP : va_P (dC, dI) vwCl (w_X13_line cy a0 gth gvm gtt gtd gfl grd gnv gac grc gim) H := hP
  have hD : va_D A (w_X13_line cy a0 gth gvm gtt gtd gfl grd gnv gac grc gim) := hD
  refine lv_if_eq (tgt := 155) hx hb dX13_line_6 (by decide) (fun c3 => ?_) (fun c3 => ?_)
  · rw [if_pos c3] at h
    refine lv_aload_n hx hb dX13_line_155 rfl (lv_at hl 0 rfl) ?_
    refine lv_bipush (v := (10 : Int32)) hx hb dX13_line_156 (by decide) ?_
    obtain ⟨v4, hv5, h⟩ := ok_bind h
    refine cl_vi (w2 := fun (_ : Unit) => w_X13_line cy a0 gth gvm gtt gtd gfl grd gnv gac grc gim) (As := [.int (10 : Int32)]) (rest := []) ⟨hx, hb, hml, hown, hts⟩ (c_X13_is l dC dI cy a0 gth gvm gtd gfl grd gnv gac grc gim (10 : Int32) H.size v4 hv5) (cwV 1 hts gX13_line_X13_is rfl rfl rfl (by decide +kernel) ⟨Nat.le_of_ble_eq_true rfl, Nat.le_of_ble_eq_true rfl⟩) (va_recv hK hP (ci := 11) (q0 := 0) rfl rfl) cl_blind (cl_pre hK hP hD [0, 2] (by decide) rfl) hP hD hS hA [0, 2] rfl rfl hl.1 rfl (lv_room (Nat.le_of_ble_eq_true rfl)) dX13_line_158 ⟨Nat.le_of_ble_eq_true rfl, Nat.le_of_ble_eq_true rfl⟩ ⟨rfl, rfl⟩ (fun _ => updR [0, 2] rfl) (fun r u H locs hw hP hD hS => ?_)
    have hw := hw.symm
    subst hw
    have hP : va_P (dC, dI) vwCl (w_X13_line cy a0 gth gvm gtt gtd gfl grd gnv gac grc gim) H := hP
    have hD : va_D A (w_X13_line cy a0 gth gvm gtt gtd gfl grd gnv gac grc gim) := hD
    refine lv_if_eq (tgt := 277) hx hb dX13_line_161 (by decide) (fun c6 => ?_) (fun c6 => ?_)
    · rw [if_pos c6] at h
      refine lv_aload_n hx hb dX13_line_277 rfl (lv_at hl 0 rfl) ?_
      refine lv_bipush (v := (11 : Int32)) hx hb dX13_line_278 (by decide) ?_
      obtain ⟨v7, hv8, h⟩ := ok_bind h
      refine cl_vi (w2 := fun (_ : Unit) => w_X13_line cy a0 gth gvm gtt gtd gfl grd gnv gac grc gim) (As := [.int (11 : Int32)]) (rest := []) ⟨hx, hb, hml, hown, hts⟩ (c_X13_is l dC dI cy a0 gth gvm gtd gfl grd gnv gac grc gim (11 : Int32) H.size v7 hv8) (cwV 1 hts gX13_line_X13_is rfl rfl rfl (by decide +kernel) ⟨Nat.le_of_ble_eq_true rfl, Nat.le_of_ble_eq_true rfl⟩) (va_recv hK hP (ci := 11) (q0 := 0) rfl rfl) cl_blind (cl_pre hK hP hD [0, 2] (by decide) rfl) hP hD hS hA [0, 2] rfl rfl hl.1 rfl (lv_room (Nat.le_of_ble_eq_true rfl)) dX13_line_280 ⟨Nat.le_of_ble_eq_true rfl, Nat.le_of_ble_eq_true rfl⟩ ⟨rfl, rfl⟩ (fun _ => updR [0, 2] rfl) (fun r u H locs hw hP hD hS => ?_)
      have hw := hw.symm
      subst hw
      have hP : va_P (dC, dI) vwCl (w_X13_line cy a0 gth gvm gtt gtd gfl grd gnv gac grc gim) H := hP
      have hD : va_D A (w_X13_line cy a0 gth gvm gtt gtd gfl grd gnv gac grc gim) := hD
      refine lv_if_eq (tgt := 379) hx hb dX13_line_283 (by decide) (fun c9 => ?_) (fun c9 => ?_)
      · rw [if_pos c9] at h
        refine lv_aload_n hx hb dX13_line_379 rfl (lv_at hl 0 rfl) ?_
        refine lv_iconst (v := (1 : Int32)) hx hb dX13_line_380 (by decide) ?_
        obtain ⟨v10, hv11, h⟩ := ok_bind h
        refine cl_vv (w2 := fun (u : (Int32 × Int32)) => w_X13_line cy a0 gth gvm gtt gtd u grd gnv gac grc gim) (As := [.int (1 : Int32)]) (rest := []) ⟨hx, hb, hml, hown, hts⟩ (c_X13_wrong l dC dI cy a0 gth gvm gtd gfl grd gnv gac grc gim (1 : Int32) H.size v10 hv11) (cwV 1 hts gX13_line_X13_wrong rfl rfl rfl (by decide +kernel) ⟨Nat.le_of_ble_eq_true rfl, Nat.le_of_ble_eq_true rfl⟩) (va_recv hK hP (ci := 11) (q0 := 0) rfl rfl) cl_blind (cl_pre hK hP hD [0, 2] (by decide) rfl) hP hD hS hA [0, 2] rfl rfl hl.1 rfl (lv_room (Nat.le_of_ble_eq_true rfl)) dX13_line_381 ⟨Nat.le_of_ble_eq_true rfl, Nat.le_of_ble_eq_true rfl⟩ ⟨rfl, rfl⟩ (fun _ => updM [0, 2] [1, 3, 4, 5, 6, 7, 8] [(a0 10, .inl (cy 1, 600, .inl (gtt))), (a0 13, .inl (cy 1, 5, .inl (gnv.2.2.2.2.2.1))), (a0 14, .inl (cy 1, 5, .inl (gnv.2.2.2.2.2.2.1))), (a0 15, .inl (cy 1, 10, .inl (gnv.2.2.2.2.2.2.2.1))), (a0 16, .inl (cy 1, 10, .inl (gnv.2.2.2.2.2.2.2.2.1))), (a0 17, .inl (cy 1, 10, .inl (gnv.2.2.2.2.2.2.2.2.2.1))), (a0 18, .inl (cy 1, 50, .inl (gnv.2.2.2.2.2.2.2.2.2.2)))] 9 rfl rfl rfl rfl rfl (by decide +kernel) (by decide +kernel) rfl) (fun u H locs hw hP hD hS => ?_)
        have hw := hw.symm
        subst hw
        have hP : va_P (dC, dI) vwCl (w_X13_line cy a0 gth gvm gtt gtd v10 grd gnv gac grc gim) H := hP
        have hD : va_D A (w_X13_line cy a0 gth gvm gtt gtd v10 grd gnv gac grc gim) := hD
        exact c384 () v10 grd gnv H locs ls h hP hD hS (lv_sub hl [0] rfl)
      · rw [if_neg c9] at h
        refine lv_aload_n hx hb dX13_line_286 rfl (lv_at hl 0 rfl) ?_
        refine va_get (D := (dC, dI)) (ci := 11) (v := .int gnv.2.2.2.2.1) (C := RX13) (T := TX13) (N := 64) hx hb hts in_X13 hown hK hP 0 rfl rfl 30 (by decide) lk2 (fun _ h9 => h9) rfl dX13_line_287 ?_
        refine lv_if_eq (tgt := 298) hx hb dX13_line_290 (by decide) (fun c12 => ?_) (fun c12 => ?_)
        · rw [if_pos c12] at h
          exact c298 () gfl grd gnv H locs ls h hP hD hS (lv_sub hl [0] rfl)
        · rw [if_neg c12] at h
          refine lv_aload_n hx hb dX13_line_293 rfl (lv_at hl 0 rfl) ?_
          refine lv_iconst (v := (4 : Int32)) hx hb dX13_line_294 (by decide) ?_
          obtain ⟨v13, hv14, h⟩ := ok_bind h
          refine cl_vv (w2 := fun (u : (Int32 × Int32)) => w_X13_line cy a0 gth gvm gtt gtd u grd gnv gac grc gim) (As := [.int (4 : Int32)]) (rest := []) ⟨hx, hb, hml, hown, hts⟩ (c_X13_wrong l dC dI cy a0 gth gvm gtd gfl grd gnv gac grc gim (4 : Int32) H.size v13 hv14) (cwV 1 hts gX13_line_X13_wrong rfl rfl rfl (by decide +kernel) ⟨Nat.le_of_ble_eq_true rfl, Nat.le_of_ble_eq_true rfl⟩) (va_recv hK hP (ci := 11) (q0 := 0) rfl rfl) cl_blind (cl_pre hK hP hD [0, 2] (by decide) rfl) hP hD hS hA [0, 2] rfl rfl hl.1 rfl (lv_room (Nat.le_of_ble_eq_true rfl)) dX13_line_295 ⟨Nat.le_of_ble_eq_true rfl, Nat.le_of_ble_eq_true rfl⟩ ⟨rfl, rfl⟩ (fun _ => updM [0, 2] [1, 3, 4, 5, 6, 7, 8] [(a0 10, .inl (cy 1, 600, .inl (gtt))), (a0 13, .inl (cy 1, 5, .inl (gnv.2.2.2.2.2.1))), (a0 14, .inl (cy 1, 5, .inl (gnv.2.2.2.2.2.2.1))), (a0 15, .inl (cy 1, 10, .inl (gnv.2.2.2.2.2.2.2.1))), (a0 16, .inl (cy 1, 10, .inl (gnv.2.2.2.2.2.2.2.2.1))), (a0 17, .inl (cy 1, 10, .inl (gnv.2.2.2.2.2.2.2.2.2.1))), (a0 18, .inl (cy 1, 50, .inl (gnv.2.2.2.2.2.2.2.2.2.2)))] 9 rfl rfl rfl rfl rfl (by decide +kernel) (by decide +kernel) rfl) (fun u H locs hw hP hD hS => ?_)
          have hw := hw.symm
          subst hw
          have hP : va_P (dC, dI) vwCl (w_X13_line cy a0 gth gvm gtt gtd v13 grd gnv gac grc gim) H := hP
          have hD : va_D A (w_X13_line cy a0 gth gvm gtt gtd v13 grd gnv gac grc gim) := hD
          exact c298 () v13 grd gnv H locs ls h hP hD hS (lv_sub hl [0] rfl)
    · rw [if_neg c6] at h
      refine lv_aload_n hx hb dX13_line_164 rfl (lv_at hl 0 rfl) ?_
      refine va_get (D := (dC, dI)) (ci := 11) (v := .int gnv.2.1) (C := RX13) (T := TX13) (N := 64) hx hb hts in_X13 hown hK hP 0 rfl rfl 27 (by decide) lk4 (fun _ h9 => h9) rfl dX13_line_165 ?_
      refine lv_bipush (v := (10 : Int32)) hx hb dX13_line_168 (by decide) ?_
      refine lv_icmp_ne (tgt := 178) hx hb dX13_line_170 (by decide) (fun c15 => ?_) (fun c15 => ?_)
      · rw [if_neg c15] at h
        exact c178 () gfl grd gnv H locs ls h hP hD hS (lv_sub hl [0] rfl)
      · rw [if_pos c15] at h
        refine lv_aload_n hx hb dX13_line_173 rfl (lv_at hl 0 rfl) ?_
        refine lv_iconst (v := (2 : Int32)) hx hb dX13_line_174 (by decide) ?_
        obtain ⟨v16, hv17, h⟩ := ok_bind h
        refine cl_vv (w2 := fun (u : (Int32 × Int32)) => w_X13_line cy a0 gth gvm gtt gtd u grd gnv gac grc gim) (As := [.int (2 : Int32)]) (rest := []) ⟨hx, hb, hml, hown, hts⟩ (c_X13_wrong l dC dI cy a0 gth gvm gtd gfl grd gnv gac grc gim (2 : Int32) H.size v16 hv17) (cwV 1 hts gX13_line_X13_wrong rfl rfl rfl (by decide +kernel) ⟨Nat.le_of_ble_eq_true rfl, Nat.le_of_ble_eq_true rfl⟩) (va_recv hK hP (ci := 11) (q0 := 0) rfl rfl) cl_blind (cl_pre hK hP hD [0, 2] (by decide) rfl) hP hD hS hA [0, 2] rfl rfl hl.1 rfl (lv_room (Nat.le_of_ble_eq_true rfl)) dX13_line_175 ⟨Nat.le_of_ble_eq_true rfl, Nat.le_of_ble_eq_true rfl⟩ ⟨rfl, rfl⟩ (fun _ => updM [0, 2] [1, 3, 4, 5, 6, 7, 8] [(a0 10, .inl (cy 1, 600, .inl (gtt))), (a0 13, .inl (cy 1, 5, .inl (gnv.2.2.2.2.2.1))), (a0 14, .inl (cy 1, 5, .inl (gnv.2.2.2.2.2.2.1))), (a0 15, .inl (cy 1, 10, .inl (gnv.2.2.2.2.2.2.2.1))), (a0 16, .inl (cy 1, 10, .inl (gnv.2.2.2.2.2.2.2.2.1))), (a0 17, .inl (cy 1, 10, .inl (gnv.2.2.2.2.2.2.2.2.2.1))), (a0 18, .inl (cy 1, 50, .inl (gnv.2.2.2.2.2.2.2.2.2.2)))] 9 rfl rfl rfl rfl rfl (by decide +kernel) (by decide +kernel) rfl) (fun u H locs hw hP hD hS => ?_)
        have hw := hw.symm
        subst hw
        have hP : va_P (dC, dI) vwCl (w_X13_line cy a0 gth gvm gtt gtd v16 grd gnv gac grc gim) H := hP
        have hD : va_D A (w_X13_line cy a0 gth gvm gtt gtd v16 grd gnv gac grc gim) := hD
        exact c178 () v16 grd gnv H locs ls h hP hD hS (lv_sub hl [0] rfl)
  · rw [if_neg c3] at h
    refine lv_aload_n hx hb dX13_line_9 rfl (lv_at hl 0 rfl) ?_
    refine va_get (D := (dC, dI)) (ci := 11) (v := .int gnv.1) (C := RX13) (T := TX13) (N := 64) hx hb hts in_X13 hown hK hP 0 rfl rfl 26 (by decide) lk5 (fun _ h9 => h9) rfl dX13_line_10 ?_
    refine lv_iconst (v := (5 : Int32)) hx hb dX13_line_13 (by decide) ?_
    refine lv_icmp_ne (tgt := 22) hx hb dX13_line_14 (by decide) (fun c18 => ?_) (fun c18 => ?_)
    · rw [if_neg c18] at h
      exact c22 () gfl grd gnv H locs ls h hP hD hS (lv_sub hl [0] rfl)
    · rw [if_pos c18] at h
      refine lv_aload_n hx hb dX13_line_17 rfl (lv_at hl 0 rfl) ?_
      refine lv_iconst (v := (2 : Int32)) hx hb dX13_line_18 (by decide) ?_
      obtain ⟨v19, hv20, h⟩ := ok_bind h
      refine cl_vv (w2 := fun (u : (Int32 × Int32)) => w_X13_line cy a0 gth gvm gtt gtd u grd gnv gac grc gim) (As := [.int (2 : Int32)]) (rest := []) ⟨hx, hb, hml, hown, hts⟩ (c_X13_wrong l dC dI cy a0 gth gvm gtd gfl grd gnv gac grc gim (2 : Int32) H.size v19 hv20) (cwV 1 hts gX13_line_X13_wrong rfl rfl rfl (by decide +kernel) ⟨Nat.le_of_ble_eq_true rfl, Nat.le_of_ble_eq_true rfl⟩) (va_recv hK hP (ci := 11) (q0 := 0) rfl rfl) cl_blind (cl_pre hK hP hD [0, 2] (by decide) rfl) hP hD hS hA [0, 2] rfl rfl hl.1 rfl (lv_room (Nat.le_of_ble_eq_true rfl)) dX13_line_19 ⟨Nat.le_of_ble_eq_true rfl, Nat.le_of_ble_eq_true rfl⟩ ⟨rfl, rfl⟩ (fun _ => updM [0, 2] [1, 3, 4, 5, 6, 7, 8] [(a0 10, .inl (cy 1, 600, .inl (gtt))), (a0 13, .inl (cy 1, 5, .inl (gnv.2.2.2.2.2.1))), (a0 14, .inl (cy 1, 5, .inl (gnv.2.2.2.2.2.2.1))), (a0 15, .inl (cy 1, 10, .inl (gnv.2.2.2.2.2.2.2.1))), (a0 16, .inl (cy 1, 10, .inl (gnv.2.2.2.2.2.2.2.2.1))), (a0 17, .inl (cy 1, 10, .inl (gnv.2.2.2.2.2.2.2.2.2.1))), (a0 18, .inl (cy 1, 50, .inl (gnv.2.2.2.2.2.2.2.2.2.2)))] 9 rfl rfl rfl rfl rfl (by decide +kernel) (by decide +kernel) rfl) (fun u H locs hw hP hD hS => ?_)
      have hw := hw.symm
      subst hw
      have hP : va_P (dC, dI) vwCl (w_X13_line cy a0 gth gvm gtt gtd v19 grd gnv gac grc gim) H := hP
      have hD : va_D A (w_X13_line cy a0 gth gvm gtt gtd v19 grd gnv gac grc gim) := hD
      exact c22 () v19 grd gnv H locs ls h hP hD hS (lv_sub hl [0] rfl)

abbrev w_X13_opens (cy : Nat → ClassId) (a0 : Nat → Nat) (gth : Int32) (gvm : Int32 × Int32 × Int32 × (Nat → Int32) × (Nat → Int32) × (Nat → Int32) × (Nat → Int32) × (Nat → Int32) × (Nat → Int32) × (Nat → Int32) × (Nat → Int32) × (Nat → Int32)) (gtt : (Nat → Int32)) (gtd : Int32) (gfl : Int32 × Int32) (grd : Int32 × Int32 × Int32 × Int32 × Int32 × Int32 × Int64 × (Nat → Int32)) (gnv : Int32 × Int32 × Int32 × Int32 × Int32 × (Nat → Int32) × (Nat → Int32) × (Nat → Int32) × (Nat → Int32) × (Nat → Int32) × (Nat → Int32)) (gac : Int32 × (Nat → Int32) × (Nat → Int32)) (grc : Int32 × (Nat → Int32)) (gim : Int32 × Int32 × Int32 × (Nat → Int32) × (Nat → Int32) × (Nat → Int32) × (Nat → Int32) × (Nat → Int32) × (Nat → Int32) × (Nat → Int32) × (Nat → Int32) × (Nat → Int32)) : va_W := [(a0 0, .inr (11, [.int (gth), .int (gvm.1), .int (gvm.2.1), .int (gvm.2.2.1), .ref (a0 1), .ref (a0 2), .ref (a0 3), .ref (a0 4), .ref (a0 5), .ref (a0 6), .ref (a0 7), .ref (a0 8), .ref (a0 9), .ref (a0 10), .int (gtd), .int (gfl.1), .int (gfl.2), .ref (a0 11), .int (grd.1), .int (grd.2.1), .int (grd.2.2.1), .int (grd.2.2.2.1), .int (grd.2.2.2.2.1), .int (grd.2.2.2.2.2.1), .long (grd.2.2.2.2.2.2.1), .ref (a0 12), .int (gnv.1), .int (gnv.2.1), .int (gnv.2.2.1), .int (gnv.2.2.2.1), .int (gnv.2.2.2.2.1), .ref (a0 13), .ref (a0 14), .ref (a0 15), .ref (a0 16), .ref (a0 17), .ref (a0 18), .int (gac.1), .ref (a0 19), .ref (a0 20), .ref (a0 21), .ref (a0 22), .ref (a0 23), .ref (a0 24), .ref (a0 25), .ref (a0 26), .ref (a0 27), .int (grc.1), .ref (a0 28), .ref (a0 29), .ref (a0 30), .ref (a0 31), .int (gim.1), .int (gim.2.1), .int (gim.2.2.1), .ref (a0 32), .ref (a0 33), .ref (a0 34), .ref (a0 35), .ref (a0 36), .ref (a0 37), .ref (a0 38), .ref (a0 39), .ref (a0 40)])), (a0 10, .inl (cy 1, 600, .inl (gtt))), (a0 12, .inl (cy 1, 5, .inl (grd.2.2.2.2.2.2.2)))]
abbrev rm_X13_opens : Room := { frames := 2, cells := 0, slots := 0, locals := 43 }
set_option maxHeartbeats 1000000 in
set_option maxRecDepth 100000 in
theorem c_X13_opens (l : Launch) (dC : Nat → ClassId) (dI : Nat → Nat → Nat) (cy : Nat → ClassId) (a0 : Nat → Nat) (gth : Int32) (gvm : Int32 × Int32 × Int32 × (Nat → Int32) × (Nat → Int32) × (Nat → Int32) × (Nat → Int32) × (Nat → Int32) × (Nat → Int32) × (Nat → Int32) × (Nat → Int32) × (Nat → Int32)) (gtt : (Nat → Int32)) (gtd : Int32) (gfl : Int32 × Int32) (grd : Int32 × Int32 × Int32 × Int32 × Int32 × Int32 × Int64 × (Nat → Int32)) (gnv : Int32 × Int32 × Int32 × Int32 × Int32 × (Nat → Int32) × (Nat → Int32) × (Nat → Int32) × (Nat → Int32) × (Nat → Int32) × (Nat → Int32)) (gac : Int32 × (Nat → Int32) × (Nat → Int32)) (grc : Int32 × (Nat → Int32)) (gim : Int32 × Int32 × Int32 × (Nat → Int32) × (Nat → Int32) × (Nat → Int32) × (Nat → Int32) × (Nat → Int32) × (Nat → Int32) × (Nat → Int32) × (Nat → Int32) × (Nat → Int32)) (x1 : Int32) (sz : Nat) (R0 : (Int32) × (Int32 × Int32) × (Int32 × Int32 × Int32 × Int32 × Int32 × Int32 × Int64 × (Nat → Int32))) (h : p_X13_opens gtt gtd gfl grd x1 = some R0) : Met l yX13_opens wsX13_opens rm_X13_opens (va_Pc [.ref (a0 0), .int x1] (prC dC dI cy (w_X13_opens cy a0 gth gvm gtt gtd gfl grd gnv gac grc gim) sz)) (va_Qv (fun (u : (Int32) × (Int32 × Int32) × (Int32 × Int32 × Int32 × Int32 × Int32 × Int32 × Int64 × (Nat → Int32))) => u = R0) (fun (u : (Int32) × (Int32 × Int32) × (Int32 × Int32 × Int32 × Int32 × Int32 × Int32 × Int64 × (Nat → Int32))) t => poC dC dI cy (w_X13_opens cy a0 gth gvm gtt u.1 u.2.1 u.2.2 gnv gac grc gim) t) (va_A (w_X13_opens cy a0 gth gvm gtt gtd gfl grd gnv gac grc gim) sz)) 0 0 (va_A (w_X13_opens cy a0 gth gvm gtt gtd gfl grd gnv gac grc gim) sz) := by
  refine Met.ofW (cc := cX13_opens) (maxL := 2) (ret := none) (by decide) rfl ?_
  intro p e s m aa below meth c s₁ B hml hv
  obtain ⟨haa, hsz, hP, hK, hD0⟩ := hv
  have hx := B.exec
  have hb := B.bytes
  have hr := B.returns
  have hts := atoms_spec (ws := wsX13_opens) B.pre
  have hown : s.vm.findClass RX13 = some m.cls := findClass_of_methodNamed B.named
  have hlocks := B.notSynchronized
  subst hsz
  have hD := hD0.self (sz := s.heap.size)
  obtain ⟨qq, hqq⟩ : ∃ qq, qq = (va_Qv (fun (u : (Int32) × (Int32 × Int32) × (Int32 × Int32 × Int32 × Int32 × Int32 × Int32 × Int64 × (Nat → Int32))) => u = R0) (fun (u : (Int32) × (Int32 × Int32) × (Int32 × Int32 × Int32 × Int32 × Int32 × Int32 × Int64 × (Nat → Int32))) t => poC dC dI cy (w_X13_opens cy a0 gth gvm gtt u.1 u.2.1 u.2.2 gnv gac grc gim) t) (va_A (w_X13_opens cy a0 gth gvm gtt gtd gfl grd gnv gac grc gim) s.heap.size)) := ⟨_, rfl⟩
  rw [← hqq]
  generalize hAe : va_A (w_X13_opens cy a0 gth gvm gtt gtd gfl grd gnv gac grc gim) s.heap.size = A at hD hqq ⊢
  have hA : ∀ q : Nat, s.heap.size ≤ q → A q := fun q h => by rw [← hAe]; exact Or.inr h
  have hS : va_S A s.heap s.heap [] := va_S.rf
  have hl := lv_entry ([.ref (a0 0), .int x1]) (n := 2) (Nat.le_of_ble_eq_true rfl)
  have hE : entryFrame m aa 2 = F0 m 0 ((lg_sl ([.ref (a0 0), .int x1]) ++ List.replicate (2 - (lg_sl ([.ref (a0 0), .int x1])).length) Slot.unset).toArray) [] := by rw [haa]; exact lg_entry_eq m _ 2
  refine W.eq hE ?_
  generalize (lg_sl ([.ref (a0 0), .int x1]) ++ List.replicate (2 - (lg_sl ([.ref (a0 0), .int x1])).length) Slot.unset).toArray = ls at hl ⊢
  have hl : lv_has ls 2 [(0, .ref (a0 0)), (1, .int x1)] := hl
  change W p l e rm_X13_opens s m aa below meth c s.heap [] 0 0 (MQ below qq aa s 0 0 A) (F0 m 0 ls [])
  have hS0 := hS
  have lk0 := hts (.fieldLink RX13 138 "GoatDoorsModel" "taped" "I") (by decide +kernel)
  have lk1 := hts (.fieldLink RX13 40 "GoatDoorsModel" "faultPlace" "I") (by decide +kernel)
  have lk2 := hts (.fieldLink RX13 188 "GoatDoorsModel" "faultKind" "I") (by decide +kernel)
  have lk3 := hts (.fieldLink RX13 145 "GoatDoorsModel" "size" "I") (by decide +kernel)
  have lk4 := hts (.fieldLink RX13 148 "GoatDoorsModel" "next" "I") (by decide +kernel)
  have in_X13 : ∀ w ∈ wsX130, w ∈ wsX13_opens := by decide +kernel
  obtain ⟨H, hH⟩ : ∃ H : Heap, H = s.heap := ⟨_, rfl⟩
  obtain ⟨locs, hlocs⟩ : ∃ locs : List Loc, locs = [] := ⟨_, rfl⟩
  have hS : va_S A s.heap H locs := by rw [hH, hlocs]; exact hS
  rw [← hH] at hP
  suffices hg : W p l e rm_X13_opens s m aa below meth c H locs 0 0 (MQ below qq aa s 0 0 A) (F0 m 0 ls []) by subst hH; subst hlocs; exact hg
  unfold p_X13_opens at h
  refine lv_aload_n hx hb dX13_opens_0 rfl (lv_at hl 0 rfl) ?_
  refine lv_iconst (v := (0 : Int32)) hx hb dX13_opens_1 (by decide) ?_
  refine va_put (D := (dC, dI)) (ci := 11) (v := .int (0 : Int32)) (ty := .int) (C := RX13) (T := TX13) (N := 64) hx hb hts in_X13 tyX13 tyX13_ok nmX13 hown hK hP hD hS 0 rfl rfl 14 (by decide) lk0 (fun _ h9 => h9) rfl (by decide +kernel) rfl rfl (Nat.le_of_ble_eq_true rfl) dX13_opens_2 (fun H locs hP hD hS => ?_)
  have hP : va_P (dC, dI) vwCl (w_X13_opens cy a0 gth gvm gtt ((0 : Int32)) gfl grd gnv gac grc gim) H := hP
  have hD : va_D A (w_X13_opens cy a0 gth gvm gtt ((0 : Int32)) gfl grd gnv gac grc gim) := hD
  refine lv_aload_n hx hb dX13_opens_5 rfl (lv_at hl 0 rfl) ?_
  refine lv_iconst (v := (-1 : Int32)) hx hb dX13_opens_6 (by decide) ?_
  refine va_put (D := (dC, dI)) (ci := 11) (v := .int (-1 : Int32)) (ty := .int) (C := RX13) (T := TX13) (N := 64) hx hb hts in_X13 tyX13 tyX13_ok nmX13 hown hK hP hD hS 0 rfl rfl 16 (by decide) lk1 (fun _ h9 => h9) rfl (by decide +kernel) rfl rfl (Nat.le_of_ble_eq_true rfl) dX13_opens_7 (fun H locs hP hD hS => ?_)
  have hP : va_P (dC, dI) vwCl (w_X13_opens cy a0 gth gvm gtt ((0 : Int32)) ((gfl.1, (-1 : Int32))) grd gnv gac grc gim) H := hP
  have hD : va_D A (w_X13_opens cy a0 gth gvm gtt ((0 : Int32)) ((gfl.1, (-1 : Int32))) grd gnv gac grc gim) := hD
  refine lv_aload_n hx hb dX13_opens_10 rfl (lv_at hl 0 rfl) ?_
  refine lv_iconst (v := (0 : Int32)) hx hb dX13_opens_11 (by decide) ?_
  refine va_put (D := (dC, dI)) (ci := 11) (v := .int (0 : Int32)) (ty := .int) (C := RX13) (T := TX13) (N := 64) hx hb hts in_X13 tyX13 tyX13_ok nmX13 hown hK hP hD hS 0 rfl rfl 15 (by decide) lk2 (fun _ h9 => h9) rfl (by decide +kernel) rfl rfl (Nat.le_of_ble_eq_true rfl) dX13_opens_12 (fun H locs hP hD hS => ?_)
  have hP : va_P (dC, dI) vwCl (w_X13_opens cy a0 gth gvm gtt ((0 : Int32)) (((0 : Int32), (-1 : Int32))) grd gnv gac grc gim) H := hP
  have hD : va_D A (w_X13_opens cy a0 gth gvm gtt ((0 : Int32)) (((0 : Int32), (-1 : Int32))) grd gnv gac grc gim) := hD
  refine lv_aload_n hx hb dX13_opens_15 rfl (lv_at hl 0 rfl) ?_
  refine lv_iload_n hx hb dX13_opens_16 rfl (lv_at hl 1 rfl) ?_
  refine va_put (D := (dC, dI)) (ci := 11) (v := .int x1) (ty := .int) (C := RX13) (T := TX13) (N := 64) hx hb hts in_X13 tyX13 tyX13_ok nmX13 hown hK hP hD hS 0 rfl rfl 18 (by decide) lk3 (fun _ h9 => h9) rfl (by decide +kernel) rfl rfl (Nat.le_of_ble_eq_true rfl) dX13_opens_17 (fun H locs hP hD hS => ?_)
  have hP : va_P (dC, dI) vwCl (w_X13_opens cy a0 gth gvm gtt ((0 : Int32)) (((0 : Int32), (-1 : Int32))) ((x1, grd.2)) gnv gac grc gim) H := hP
  have hD : va_D A (w_X13_opens cy a0 gth gvm gtt ((0 : Int32)) (((0 : Int32), (-1 : Int32))) ((x1, grd.2)) gnv gac grc gim) := hD
  refine lv_aload_n hx hb dX13_opens_20 rfl (lv_at hl 0 rfl) ?_
  refine lv_iconst (v := (0 : Int32)) hx hb dX13_opens_21 (by decide) ?_
  refine va_put (D := (dC, dI)) (ci := 11) (v := .int (0 : Int32)) (ty := .int) (C := RX13) (T := TX13) (N := 64) hx hb hts in_X13 tyX13 tyX13_ok nmX13 hown hK hP hD hS 0 rfl rfl 19 (by decide) lk4 (fun _ h9 => h9) rfl (by decide +kernel) rfl rfl (Nat.le_of_ble_eq_true rfl) dX13_opens_22 (fun H locs hP hD hS => ?_)
  have hP : va_P (dC, dI) vwCl (w_X13_opens cy a0 gth gvm gtt ((0 : Int32)) (((0 : Int32), (-1 : Int32))) ((x1, (0 : Int32), grd.2.2)) gnv gac grc gim) H := hP
  have hD : va_D A (w_X13_opens cy a0 gth gvm gtt ((0 : Int32)) (((0 : Int32), (-1 : Int32))) ((x1, (0 : Int32), grd.2.2)) gnv gac grc gim) := hD
  refine lv_aload_n hx hb dX13_opens_25 rfl (lv_at hl 0 rfl) ?_
  obtain ⟨v1, hv2, h⟩ := ok_bind h
  refine cl_vv (w2 := fun (u : (Int32 × Int32 × Int32 × Int32 × Int32 × Int32 × Int64 × (Nat → Int32))) => w_X13_opens cy a0 gth gvm gtt ((0 : Int32)) (((0 : Int32), (-1 : Int32))) u gnv gac grc gim) (As := []) (rest := []) ⟨hx, hb, hml, hown, hts⟩ (c_X13_steps l dC dI cy a0 gth gvm gtt (0 : Int32) ((0 : Int32), (-1 : Int32)) (x1, (0 : Int32), grd.2.2) gnv gac grc gim H.size v1 hv2) (cwV 0 hts gX13_opens_X13_steps rfl rfl rfl (by decide +kernel) ⟨Nat.le_of_ble_eq_true rfl, Nat.le_of_ble_eq_true rfl⟩) (va_recv hK hP (ci := 11) (q0 := 0) rfl rfl) cl_blind (cl_pre hK hP hD [0, 1, 2] (by decide) rfl) hP hD hS hA [0, 1, 2] rfl rfl hl.1 rfl (lv_room (Nat.le_of_ble_eq_true rfl)) dX13_opens_26 ⟨Nat.le_of_ble_eq_true rfl, Nat.le_of_ble_eq_true rfl⟩ ⟨rfl, rfl⟩ (fun _ => updM [0, 1, 2] [] [] 3 rfl rfl rfl rfl rfl (by decide +kernel) (by decide +kernel) rfl) (fun u H locs hw hP hD hS => ?_)
  have hw := hw.symm
  subst hw
  have hP : va_P (dC, dI) vwCl (w_X13_opens cy a0 gth gvm gtt ((0 : Int32)) (((0 : Int32), (-1 : Int32))) v1 gnv gac grc gim) H := hP
  have hD : va_D A (w_X13_opens cy a0 gth gvm gtt ((0 : Int32)) (((0 : Int32), (-1 : Int32))) v1 gnv gac grc gim) := hD
  exact W.vret hx hb hr (fun t ht hW => by rw [hqq]; have hh := Option.some.inj h; exact ⟨⟨(((0 : Int32), ((0 : Int32), (-1 : Int32)), v1)), rfl, Option.some.inj h, by rw [ht]; exact hP, va_K.moved hW.alike hK⟩, hS.F ht⟩) hS.2.2 dX13_opens_29

abbrev w_X13_clears (cy : Nat → ClassId) (a0 : Nat → Nat) (gth : Int32) (gvm : Int32 × Int32 × Int32 × (Nat → Int32) × (Nat → Int32) × (Nat → Int32) × (Nat → Int32) × (Nat → Int32) × (Nat → Int32) × (Nat → Int32) × (Nat → Int32) × (Nat → Int32)) (gtd : Int32) (gfl : Int32 × Int32) (grd : Int32 × Int32 × Int32 × Int32 × Int32 × Int32 × Int64 × (Nat → Int32)) (gnv : Int32 × Int32 × Int32 × Int32 × Int32 × (Nat → Int32) × (Nat → Int32) × (Nat → Int32) × (Nat → Int32) × (Nat → Int32) × (Nat → Int32)) (gac : Int32 × (Nat → Int32) × (Nat → Int32)) (grc : Int32 × (Nat → Int32)) (gim : Int32 × Int32 × Int32 × (Nat → Int32) × (Nat → Int32) × (Nat → Int32) × (Nat → Int32) × (Nat → Int32) × (Nat → Int32) × (Nat → Int32) × (Nat → Int32) × (Nat → Int32)) : va_W := [(a0 0, .inr (11, [.int (gth), .int (gvm.1), .int (gvm.2.1), .int (gvm.2.2.1), .ref (a0 1), .ref (a0 2), .ref (a0 3), .ref (a0 4), .ref (a0 5), .ref (a0 6), .ref (a0 7), .ref (a0 8), .ref (a0 9), .ref (a0 10), .int (gtd), .int (gfl.1), .int (gfl.2), .ref (a0 11), .int (grd.1), .int (grd.2.1), .int (grd.2.2.1), .int (grd.2.2.2.1), .int (grd.2.2.2.2.1), .int (grd.2.2.2.2.2.1), .long (grd.2.2.2.2.2.2.1), .ref (a0 12), .int (gnv.1), .int (gnv.2.1), .int (gnv.2.2.1), .int (gnv.2.2.2.1), .int (gnv.2.2.2.2.1), .ref (a0 13), .ref (a0 14), .ref (a0 15), .ref (a0 16), .ref (a0 17), .ref (a0 18), .int (gac.1), .ref (a0 19), .ref (a0 20), .ref (a0 21), .ref (a0 22), .ref (a0 23), .ref (a0 24), .ref (a0 25), .ref (a0 26), .ref (a0 27), .int (grc.1), .ref (a0 28), .ref (a0 29), .ref (a0 30), .ref (a0 31), .int (gim.1), .int (gim.2.1), .int (gim.2.2.1), .ref (a0 32), .ref (a0 33), .ref (a0 34), .ref (a0 35), .ref (a0 36), .ref (a0 37), .ref (a0 38), .ref (a0 39), .ref (a0 40)])), (a0 1, .inl (cy 1, 5, .inl (gvm.2.2.2.1))), (a0 2, .inl (cy 1, 5, .inl (gvm.2.2.2.2.1))), (a0 3, .inl (cy 1, 5, .inl (gvm.2.2.2.2.2.1))), (a0 4, .inl (cy 1, 25, .inl (gvm.2.2.2.2.2.2.1))), (a0 5, .inl (cy 1, 10, .inl (gvm.2.2.2.2.2.2.2.1))), (a0 6, .inl (cy 1, 10, .inl (gvm.2.2.2.2.2.2.2.2.1))), (a0 7, .inl (cy 1, 10, .inl (gvm.2.2.2.2.2.2.2.2.2.1))), (a0 8, .inl (cy 1, 10, .inl (gvm.2.2.2.2.2.2.2.2.2.2.1))), (a0 9, .inl (cy 1, 50, .inl (gvm.2.2.2.2.2.2.2.2.2.2.2)))]
abbrev rm_X13_clears : Room := { frames := 0, cells := 0, slots := 0, locals := 0 }
set_option maxHeartbeats 1000000 in
set_option maxRecDepth 100000 in
theorem c_X13_clears (l : Launch) (dC : Nat → ClassId) (dI : Nat → Nat → Nat) (cy : Nat → ClassId) (a0 : Nat → Nat) (gth : Int32) (gvm : Int32 × Int32 × Int32 × (Nat → Int32) × (Nat → Int32) × (Nat → Int32) × (Nat → Int32) × (Nat → Int32) × (Nat → Int32) × (Nat → Int32) × (Nat → Int32) × (Nat → Int32)) (gtd : Int32) (gfl : Int32 × Int32) (grd : Int32 × Int32 × Int32 × Int32 × Int32 × Int32 × Int64 × (Nat → Int32)) (gnv : Int32 × Int32 × Int32 × Int32 × Int32 × (Nat → Int32) × (Nat → Int32) × (Nat → Int32) × (Nat → Int32) × (Nat → Int32) × (Nat → Int32)) (gac : Int32 × (Nat → Int32) × (Nat → Int32)) (grc : Int32 × (Nat → Int32)) (gim : Int32 × Int32 × Int32 × (Nat → Int32) × (Nat → Int32) × (Nat → Int32) × (Nat → Int32) × (Nat → Int32) × (Nat → Int32) × (Nat → Int32) × (Nat → Int32) × (Nat → Int32)) (sz : Nat) (R0 : (Int32 × Int32 × Int32 × (Nat → Int32) × (Nat → Int32) × (Nat → Int32) × (Nat → Int32) × (Nat → Int32) × (Nat → Int32) × (Nat → Int32) × (Nat → Int32) × (Nat → Int32))) (h : p_X13_clears gvm = some R0) : Met l yX13_clears wsX13_clears rm_X13_clears (va_Pc [.ref (a0 0)] (prC dC dI cy (w_X13_clears cy a0 gth gvm gtd gfl grd gnv gac grc gim) sz)) (va_Qv (fun (u : (Int32 × Int32 × Int32 × (Nat → Int32) × (Nat → Int32) × (Nat → Int32) × (Nat → Int32) × (Nat → Int32) × (Nat → Int32) × (Nat → Int32) × (Nat → Int32) × (Nat → Int32))) => u = R0) (fun (u : (Int32 × Int32 × Int32 × (Nat → Int32) × (Nat → Int32) × (Nat → Int32) × (Nat → Int32) × (Nat → Int32) × (Nat → Int32) × (Nat → Int32) × (Nat → Int32) × (Nat → Int32))) t => poC dC dI cy (w_X13_clears cy a0 gth u gtd gfl grd gnv gac grc gim) t) (va_A (w_X13_clears cy a0 gth gvm gtd gfl grd gnv gac grc gim) sz)) 0 0 (va_A (w_X13_clears cy a0 gth gvm gtd gfl grd gnv gac grc gim) sz) := by
  refine Met.ofW (cc := cX13_clears) (maxL := 2) (ret := none) (by decide) rfl ?_
  intro p e s m aa below meth c s₁ B hml hv
  obtain ⟨haa, hsz, hP, hK, hD0⟩ := hv
  have hx := B.exec
  have hb := B.bytes
  have hr := B.returns
  have hts := atoms_spec (ws := wsX13_clears) B.pre
  have hown : s.vm.findClass RX13 = some m.cls := findClass_of_methodNamed B.named
  have hlocks := B.notSynchronized
  subst hsz
  have hD := hD0.self (sz := s.heap.size)
  obtain ⟨qq, hqq⟩ : ∃ qq, qq = (va_Qv (fun (u : (Int32 × Int32 × Int32 × (Nat → Int32) × (Nat → Int32) × (Nat → Int32) × (Nat → Int32) × (Nat → Int32) × (Nat → Int32) × (Nat → Int32) × (Nat → Int32) × (Nat → Int32))) => u = R0) (fun (u : (Int32 × Int32 × Int32 × (Nat → Int32) × (Nat → Int32) × (Nat → Int32) × (Nat → Int32) × (Nat → Int32) × (Nat → Int32) × (Nat → Int32) × (Nat → Int32) × (Nat → Int32))) t => poC dC dI cy (w_X13_clears cy a0 gth u gtd gfl grd gnv gac grc gim) t) (va_A (w_X13_clears cy a0 gth gvm gtd gfl grd gnv gac grc gim) s.heap.size)) := ⟨_, rfl⟩
  rw [← hqq]
  generalize hAe : va_A (w_X13_clears cy a0 gth gvm gtd gfl grd gnv gac grc gim) s.heap.size = A at hD hqq ⊢
  have hA : ∀ q : Nat, s.heap.size ≤ q → A q := fun q h => by rw [← hAe]; exact Or.inr h
  have hS : va_S A s.heap s.heap [] := va_S.rf
  have hl := lv_entry ([.ref (a0 0)]) (n := 2) (Nat.le_of_ble_eq_true rfl)
  have hE : entryFrame m aa 2 = F0 m 0 ((lg_sl ([.ref (a0 0)]) ++ List.replicate (2 - (lg_sl ([.ref (a0 0)])).length) Slot.unset).toArray) [] := by rw [haa]; exact lg_entry_eq m _ 2
  refine W.eq hE ?_
  generalize (lg_sl ([.ref (a0 0)]) ++ List.replicate (2 - (lg_sl ([.ref (a0 0)])).length) Slot.unset).toArray = ls at hl ⊢
  have hl : lv_has ls 2 [(0, .ref (a0 0))] := hl
  change W p l e rm_X13_clears s m aa below meth c s.heap [] 0 0 (MQ below qq aa s 0 0 A) (F0 m 0 ls [])
  have hS0 := hS
  have lk0 := hts (.fieldLink RX13 19 "GoatDoorsModel" "lent" "[I") (by decide +kernel)
  have lk1 := hts (.fieldLink RX13 16 "GoatDoorsModel" "hides" "[I") (by decide +kernel)
  have in_X13 : ∀ w ∈ wsX130, w ∈ wsX13_clears := by decide +kernel
  have c22 : ∀ (n : Nat), ∀ (gvm : Int32 × Int32 × Int32 × (Nat → Int32) × (Nat → Int32) × (Nat → Int32) × (Nat → Int32) × (Nat → Int32) × (Nat → Int32) × (Nat → Int32) × (Nat → Int32) × (Nat → Int32)) (x1 : Int32) (H : Heap) (locs : List Loc) (ls : Array Slot), p_X13_clears_22 n gvm x1 = some R0 → va_P (dC, dI) vwCl (w_X13_clears cy a0 gth gvm gtd gfl grd gnv gac grc gim) H → va_D A (w_X13_clears cy a0 gth gvm gtd gfl grd gnv gac grc gim) → va_S A s.heap H locs → lv_has ls 2 [(0, .ref (a0 0)), (1, .int x1)] → W p l e rm_X13_clears s m aa below meth c H locs 0 0 (MQ below qq aa s 0 0 A) (F0 m 22 ls []) := by
    intro  n
    induction n with
    | zero => intro gvm x1 H locs ls h; exact no_some h
    | succ n ih =>
      intro gvm x1 H locs ls h hP hD hS hl
      rw [p_X13_clears_22.eq_2] at h
      refine lv_iload_n hx hb dX13_clears_22 rfl (lv_at hl 1 rfl) ?_
      refine lv_bipush (v := (25 : Int32)) hx hb dX13_clears_23 (by decide) ?_
      refine lv_icmp_ge (tgt := 41) hx hb dX13_clears_25 (by decide) (fun c1 => ?_) (fun c1 => ?_)
      · rw [if_pos c1] at h
        exact W.vret hx hb hr (fun t ht hW => by rw [hqq]; have hh := Option.some.inj h; exact ⟨⟨(gvm), rfl, Option.some.inj h, by rw [ht]; exact hP, va_K.moved hW.alike hK⟩, hS.F ht⟩) hS.2.2 dX13_clears_41
      · rw [if_neg c1] at h
        refine lv_aload_n hx hb dX13_clears_28 rfl (lv_at hl 0 rfl) ?_
        refine va_get (D := (dC, dI)) (ci := 11) (v := .ref (a0 4)) (C := RX13) (T := TX13) (N := 64) hx hb hts in_X13 hown hK hP 0 rfl rfl 7 (by decide) lk0 (fun _ h9 => h9) rfl dX13_clears_29 ?_
        refine lv_iload_n hx hb dX13_clears_32 rfl (lv_at hl 1 rfl) ?_
        refine lv_iconst (v := (0 : Int32)) hx hb dX13_clears_33 (by decide) ?_
        obtain ⟨hi2, h⟩ := ok_if h
        refine va_iast hx hb hK hP hD hS 4 1 rfl rfl (ix_in hi2) dX13_clears_34 (fun H locs hP hD hS => ?_)
        have hP : va_P (dC, dI) vwCl (w_X13_clears cy a0 gth ((gvm.1, gvm.2.1, gvm.2.2.1, gvm.2.2.2.1, gvm.2.2.2.2.1, gvm.2.2.2.2.2.1, (upd gvm.2.2.2.2.2.2.1 x1.toNatClampNeg (0 : Int32)), gvm.2.2.2.2.2.2.2)) gtd gfl grd gnv gac grc gim) H := hP
        have hD : va_D A (w_X13_clears cy a0 gth ((gvm.1, gvm.2.1, gvm.2.2.1, gvm.2.2.2.1, gvm.2.2.2.2.1, gvm.2.2.2.2.2.1, (upd gvm.2.2.2.2.2.2.1 x1.toNatClampNeg (0 : Int32)), gvm.2.2.2.2.2.2.2)) gtd gfl grd gnv gac grc gim) := hD
        refine lv_iinc (v := (x1 + (1 : Int32))) (lv' := [(1, .int (x1 + (1 : Int32))), (0, .ref (a0 0))]) hx hb dX13_clears_35 hl (k := 1) rfl rfl (by decide) rfl (fun ls hl => ?_)
        refine lv_goto (tgt := 22) hx hb dX13_clears_38 (by decide) ?_
        exact ih (gvm.1, gvm.2.1, gvm.2.2.1, gvm.2.2.2.1, gvm.2.2.2.2.1, gvm.2.2.2.2.2.1, (upd gvm.2.2.2.2.2.2.1 x1.toNatClampNeg (0 : Int32)), gvm.2.2.2.2.2.2.2) (x1 + (1 : Int32)) H locs ls h hP hD hS (lv_sub hl [1, 0] rfl)
  have c2 : ∀ (n : Nat), ∀ (gvm : Int32 × Int32 × Int32 × (Nat → Int32) × (Nat → Int32) × (Nat → Int32) × (Nat → Int32) × (Nat → Int32) × (Nat → Int32) × (Nat → Int32) × (Nat → Int32) × (Nat → Int32)) (x1 : Int32) (H : Heap) (locs : List Loc) (ls : Array Slot), p_X13_clears_2 n gvm x1 = some R0 → va_P (dC, dI) vwCl (w_X13_clears cy a0 gth gvm gtd gfl grd gnv gac grc gim) H → va_D A (w_X13_clears cy a0 gth gvm gtd gfl grd gnv gac grc gim) → va_S A s.heap H locs → lv_has ls 2 [(0, .ref (a0 0)), (1, .int x1)] → W p l e rm_X13_clears s m aa below meth c H locs 0 0 (MQ below qq aa s 0 0 A) (F0 m 2 ls []) := by
    intro  n
    induction n with
    | zero => intro gvm x1 H locs ls h; exact no_some h
    | succ n ih =>
      intro gvm x1 H locs ls h hP hD hS hl
      rw [p_X13_clears_2.eq_2] at h
      refine lv_iload_n hx hb dX13_clears_2 rfl (lv_at hl 1 rfl) ?_
      refine lv_iconst (v := (5 : Int32)) hx hb dX13_clears_3 (by decide) ?_
      refine lv_icmp_ge (tgt := 20) hx hb dX13_clears_4 (by decide) (fun c1 => ?_) (fun c1 => ?_)
      · rw [if_pos c1] at h
        refine lv_iconst (v := (0 : Int32)) hx hb dX13_clears_20 (by decide) ?_
        refine lv_istore_n (lv' := [(1, .int (0 : Int32)), (0, .ref (a0 0))]) hx hb dX13_clears_21 rfl hl (by decide) rfl (fun ls hl => ?_)
        exact c22 fu gvm (0 : Int32) H locs ls h hP hD hS (lv_sub hl [1, 0] rfl)
      · rw [if_neg c1] at h
        refine lv_aload_n hx hb dX13_clears_7 rfl (lv_at hl 0 rfl) ?_
        refine va_get (D := (dC, dI)) (ci := 11) (v := .ref (a0 3)) (C := RX13) (T := TX13) (N := 64) hx hb hts in_X13 hown hK hP 0 rfl rfl 6 (by decide) lk1 (fun _ h9 => h9) rfl dX13_clears_8 ?_
        refine lv_iload_n hx hb dX13_clears_11 rfl (lv_at hl 1 rfl) ?_
        refine lv_iconst (v := (0 : Int32)) hx hb dX13_clears_12 (by decide) ?_
        obtain ⟨hi2, h⟩ := ok_if h
        refine va_iast hx hb hK hP hD hS 3 1 rfl rfl (ix_in hi2) dX13_clears_13 (fun H locs hP hD hS => ?_)
        have hP : va_P (dC, dI) vwCl (w_X13_clears cy a0 gth ((gvm.1, gvm.2.1, gvm.2.2.1, gvm.2.2.2.1, gvm.2.2.2.2.1, (upd gvm.2.2.2.2.2.1 x1.toNatClampNeg (0 : Int32)), gvm.2.2.2.2.2.2)) gtd gfl grd gnv gac grc gim) H := hP
        have hD : va_D A (w_X13_clears cy a0 gth ((gvm.1, gvm.2.1, gvm.2.2.1, gvm.2.2.2.1, gvm.2.2.2.2.1, (upd gvm.2.2.2.2.2.1 x1.toNatClampNeg (0 : Int32)), gvm.2.2.2.2.2.2)) gtd gfl grd gnv gac grc gim) := hD
        refine lv_iinc (v := (x1 + (1 : Int32))) (lv' := [(1, .int (x1 + (1 : Int32))), (0, .ref (a0 0))]) hx hb dX13_clears_14 hl (k := 1) rfl rfl (by decide) rfl (fun ls hl => ?_)
        refine lv_goto (tgt := 2) hx hb dX13_clears_17 (by decide) ?_
        exact ih (gvm.1, gvm.2.1, gvm.2.2.1, gvm.2.2.2.1, gvm.2.2.2.2.1, (upd gvm.2.2.2.2.2.1 x1.toNatClampNeg (0 : Int32)), gvm.2.2.2.2.2.2) (x1 + (1 : Int32)) H locs ls h hP hD hS (lv_sub hl [1, 0] rfl)
  obtain ⟨H, hH⟩ : ∃ H : Heap, H = s.heap := ⟨_, rfl⟩
  obtain ⟨locs, hlocs⟩ : ∃ locs : List Loc, locs = [] := ⟨_, rfl⟩
  have hS : va_S A s.heap H locs := by rw [hH, hlocs]; exact hS
  rw [← hH] at hP
  suffices hg : W p l e rm_X13_clears s m aa below meth c H locs 0 0 (MQ below qq aa s 0 0 A) (F0 m 0 ls []) by subst hH; subst hlocs; exact hg
  unfold p_X13_clears at h
  refine lv_iconst (v := (0 : Int32)) hx hb dX13_clears_0 (by decide) ?_
  refine lv_istore_n (lv' := [(1, .int (0 : Int32)), (0, .ref (a0 0))]) hx hb dX13_clears_1 rfl hl (by decide) rfl (fun ls hl => ?_)
  exact c2 fu gvm (0 : Int32) H locs ls h hP hD hS (lv_sub hl [1, 0] rfl)

abbrev w_X13_village (cy : Nat → ClassId) (a0 : Nat → Nat) (gth : Int32) (gvm : Int32 × Int32 × Int32 × (Nat → Int32) × (Nat → Int32) × (Nat → Int32) × (Nat → Int32) × (Nat → Int32) × (Nat → Int32) × (Nat → Int32) × (Nat → Int32) × (Nat → Int32)) (gtt : (Nat → Int32)) (gtd : Int32) (gfl : Int32 × Int32) (grf : (Nat → Int32)) (grd : Int32 × Int32 × Int32 × Int32 × Int32 × Int32 × Int64 × (Nat → Int32)) (gnv : Int32 × Int32 × Int32 × Int32 × Int32 × (Nat → Int32) × (Nat → Int32) × (Nat → Int32) × (Nat → Int32) × (Nat → Int32) × (Nat → Int32)) (gac : Int32 × (Nat → Int32) × (Nat → Int32)) (grc : Int32 × (Nat → Int32)) (gim : Int32 × Int32 × Int32 × (Nat → Int32) × (Nat → Int32) × (Nat → Int32) × (Nat → Int32) × (Nat → Int32) × (Nat → Int32) × (Nat → Int32) × (Nat → Int32) × (Nat → Int32)) : va_W := [(a0 0, .inr (11, [.int (gth), .int (gvm.1), .int (gvm.2.1), .int (gvm.2.2.1), .ref (a0 1), .ref (a0 2), .ref (a0 3), .ref (a0 4), .ref (a0 5), .ref (a0 6), .ref (a0 7), .ref (a0 8), .ref (a0 9), .ref (a0 10), .int (gtd), .int (gfl.1), .int (gfl.2), .ref (a0 11), .int (grd.1), .int (grd.2.1), .int (grd.2.2.1), .int (grd.2.2.2.1), .int (grd.2.2.2.2.1), .int (grd.2.2.2.2.2.1), .long (grd.2.2.2.2.2.2.1), .ref (a0 12), .int (gnv.1), .int (gnv.2.1), .int (gnv.2.2.1), .int (gnv.2.2.2.1), .int (gnv.2.2.2.2.1), .ref (a0 13), .ref (a0 14), .ref (a0 15), .ref (a0 16), .ref (a0 17), .ref (a0 18), .int (gac.1), .ref (a0 19), .ref (a0 20), .ref (a0 21), .ref (a0 22), .ref (a0 23), .ref (a0 24), .ref (a0 25), .ref (a0 26), .ref (a0 27), .int (grc.1), .ref (a0 28), .ref (a0 29), .ref (a0 30), .ref (a0 31), .int (gim.1), .int (gim.2.1), .int (gim.2.2.1), .ref (a0 32), .ref (a0 33), .ref (a0 34), .ref (a0 35), .ref (a0 36), .ref (a0 37), .ref (a0 38), .ref (a0 39), .ref (a0 40)])), (a0 1, .inl (cy 1, 5, .inl (gvm.2.2.2.1))), (a0 2, .inl (cy 1, 5, .inl (gvm.2.2.2.2.1))), (a0 3, .inl (cy 1, 5, .inl (gvm.2.2.2.2.2.1))), (a0 4, .inl (cy 1, 25, .inl (gvm.2.2.2.2.2.2.1))), (a0 5, .inl (cy 1, 10, .inl (gvm.2.2.2.2.2.2.2.1))), (a0 6, .inl (cy 1, 10, .inl (gvm.2.2.2.2.2.2.2.2.1))), (a0 7, .inl (cy 1, 10, .inl (gvm.2.2.2.2.2.2.2.2.2.1))), (a0 8, .inl (cy 1, 10, .inl (gvm.2.2.2.2.2.2.2.2.2.2.1))), (a0 9, .inl (cy 1, 50, .inl (gvm.2.2.2.2.2.2.2.2.2.2.2))), (a0 10, .inl (cy 1, 600, .inl (gtt))), (a0 11, .inl (cy 1, 3, .inl (grf))), (a0 12, .inl (cy 1, 5, .inl (grd.2.2.2.2.2.2.2))), (a0 13, .inl (cy 1, 5, .inl (gnv.2.2.2.2.2.1))), (a0 14, .inl (cy 1, 5, .inl (gnv.2.2.2.2.2.2.1))), (a0 15, .inl (cy 1, 10, .inl (gnv.2.2.2.2.2.2.2.1))), (a0 16, .inl (cy 1, 10, .inl (gnv.2.2.2.2.2.2.2.2.1))), (a0 17, .inl (cy 1, 10, .inl (gnv.2.2.2.2.2.2.2.2.2.1))), (a0 18, .inl (cy 1, 50, .inl (gnv.2.2.2.2.2.2.2.2.2.2))), (a0 28, .inl (cy 1, 36, .inl (grc.2))), (a0 32, .inl (cy 1, 5, .inl (gim.2.2.2.1))), (a0 33, .inl (cy 1, 5, .inl (gim.2.2.2.2.1))), (a0 34, .inl (cy 1, 25, .inl (gim.2.2.2.2.2.1))), (a0 35, .inl (cy 1, 10, .inl (gim.2.2.2.2.2.2.1))), (a0 36, .inl (cy 1, 10, .inl (gim.2.2.2.2.2.2.2.1))), (a0 37, .inl (cy 1, 10, .inl (gim.2.2.2.2.2.2.2.2.1))), (a0 38, .inl (cy 1, 10, .inl (gim.2.2.2.2.2.2.2.2.2.1))), (a0 39, .inl (cy 1, 50, .inl (gim.2.2.2.2.2.2.2.2.2.2.1))), (a0 40, .inl (cy 1, 36, .inl (gim.2.2.2.2.2.2.2.2.2.2.2)))]
abbrev rm_X13_village : Room := { frames := 4, cells := 0, slots := 0, locals := 90 }
set_option maxHeartbeats 1000000 in
set_option maxRecDepth 100000 in
theorem c_X13_village (l : Launch) (dC : Nat → ClassId) (dI : Nat → Nat → Nat) (cy : Nat → ClassId) (a0 : Nat → Nat) (gth : Int32) (gvm : Int32 × Int32 × Int32 × (Nat → Int32) × (Nat → Int32) × (Nat → Int32) × (Nat → Int32) × (Nat → Int32) × (Nat → Int32) × (Nat → Int32) × (Nat → Int32) × (Nat → Int32)) (gtt : (Nat → Int32)) (gtd : Int32) (gfl : Int32 × Int32) (grf : (Nat → Int32)) (grd : Int32 × Int32 × Int32 × Int32 × Int32 × Int32 × Int64 × (Nat → Int32)) (gnv : Int32 × Int32 × Int32 × Int32 × Int32 × (Nat → Int32) × (Nat → Int32) × (Nat → Int32) × (Nat → Int32) × (Nat → Int32) × (Nat → Int32)) (gac : Int32 × (Nat → Int32) × (Nat → Int32)) (grc : Int32 × (Nat → Int32)) (gim : Int32 × Int32 × Int32 × (Nat → Int32) × (Nat → Int32) × (Nat → Int32) × (Nat → Int32) × (Nat → Int32) × (Nat → Int32) × (Nat → Int32) × (Nat → Int32) × (Nat → Int32)) (x1 : Int32) (sz : Nat) (R0 : Int32 × (Int32) × (Int32 × Int32 × Int32 × (Nat → Int32) × (Nat → Int32) × (Nat → Int32) × (Nat → Int32) × (Nat → Int32) × (Nat → Int32) × (Nat → Int32) × (Nat → Int32) × (Nat → Int32)) × (Int32) × (Int32 × Int32) × ((Nat → Int32)) × (Int32 × Int32 × Int32 × Int32 × Int32 × Int32 × Int64 × (Nat → Int32)) × (Int32 × Int32 × Int32 × Int32 × Int32 × (Nat → Int32) × (Nat → Int32) × (Nat → Int32) × (Nat → Int32) × (Nat → Int32) × (Nat → Int32)) × (Int32 × (Nat → Int32)) × (Int32 × Int32 × Int32 × (Nat → Int32) × (Nat → Int32) × (Nat → Int32) × (Nat → Int32) × (Nat → Int32) × (Nat → Int32) × (Nat → Int32) × (Nat → Int32) × (Nat → Int32))) (h : p_X13_village gth gvm gtt gtd gfl grf grd gnv grc gim x1 = some R0) : Met l yX13_village wsX13_village rm_X13_village (va_Pc [.ref (a0 0), .int x1] (prC dC dI cy (w_X13_village cy a0 gth gvm gtt gtd gfl grf grd gnv gac grc gim) sz)) (va_Qi (fun (r : Int32) (u : (Int32) × (Int32 × Int32 × Int32 × (Nat → Int32) × (Nat → Int32) × (Nat → Int32) × (Nat → Int32) × (Nat → Int32) × (Nat → Int32) × (Nat → Int32) × (Nat → Int32) × (Nat → Int32)) × (Int32) × (Int32 × Int32) × ((Nat → Int32)) × (Int32 × Int32 × Int32 × Int32 × Int32 × Int32 × Int64 × (Nat → Int32)) × (Int32 × Int32 × Int32 × Int32 × Int32 × (Nat → Int32) × (Nat → Int32) × (Nat → Int32) × (Nat → Int32) × (Nat → Int32) × (Nat → Int32)) × (Int32 × (Nat → Int32)) × (Int32 × Int32 × Int32 × (Nat → Int32) × (Nat → Int32) × (Nat → Int32) × (Nat → Int32) × (Nat → Int32) × (Nat → Int32) × (Nat → Int32) × (Nat → Int32) × (Nat → Int32))) => r = R0.1 ∧ u = R0.2) (fun (u : (Int32) × (Int32 × Int32 × Int32 × (Nat → Int32) × (Nat → Int32) × (Nat → Int32) × (Nat → Int32) × (Nat → Int32) × (Nat → Int32) × (Nat → Int32) × (Nat → Int32) × (Nat → Int32)) × (Int32) × (Int32 × Int32) × ((Nat → Int32)) × (Int32 × Int32 × Int32 × Int32 × Int32 × Int32 × Int64 × (Nat → Int32)) × (Int32 × Int32 × Int32 × Int32 × Int32 × (Nat → Int32) × (Nat → Int32) × (Nat → Int32) × (Nat → Int32) × (Nat → Int32) × (Nat → Int32)) × (Int32 × (Nat → Int32)) × (Int32 × Int32 × Int32 × (Nat → Int32) × (Nat → Int32) × (Nat → Int32) × (Nat → Int32) × (Nat → Int32) × (Nat → Int32) × (Nat → Int32) × (Nat → Int32) × (Nat → Int32))) t => poC dC dI cy (w_X13_village cy a0 u.1 u.2.1 gtt u.2.2.1 u.2.2.2.1 u.2.2.2.2.1 u.2.2.2.2.2.1 u.2.2.2.2.2.2.1 gac u.2.2.2.2.2.2.2.1 u.2.2.2.2.2.2.2.2) t) (va_A (w_X13_village cy a0 gth gvm gtt gtd gfl grf grd gnv gac grc gim) sz)) 0 0 (va_A (w_X13_village cy a0 gth gvm gtt gtd gfl grf grd gnv gac grc gim) sz) := by
  refine Met.ofW (cc := cX13_village) (maxL := 3) (ret := (some .int)) (by decide) rfl ?_
  intro p e s m aa below meth c s₁ B hml hv
  obtain ⟨haa, hsz, hP, hK, hD0⟩ := hv
  have hx := B.exec
  have hb := B.bytes
  have hr := B.returns
  have hts := atoms_spec (ws := wsX13_village) B.pre
  have hown : s.vm.findClass RX13 = some m.cls := findClass_of_methodNamed B.named
  have hlocks := B.notSynchronized
  subst hsz
  have hD := hD0.self (sz := s.heap.size)
  obtain ⟨qq, hqq⟩ : ∃ qq, qq = (va_Qi (fun (r : Int32) (u : (Int32) × (Int32 × Int32 × Int32 × (Nat → Int32) × (Nat → Int32) × (Nat → Int32) × (Nat → Int32) × (Nat → Int32) × (Nat → Int32) × (Nat → Int32) × (Nat → Int32) × (Nat → Int32)) × (Int32) × (Int32 × Int32) × ((Nat → Int32)) × (Int32 × Int32 × Int32 × Int32 × Int32 × Int32 × Int64 × (Nat → Int32)) × (Int32 × Int32 × Int32 × Int32 × Int32 × (Nat → Int32) × (Nat → Int32) × (Nat → Int32) × (Nat → Int32) × (Nat → Int32) × (Nat → Int32)) × (Int32 × (Nat → Int32)) × (Int32 × Int32 × Int32 × (Nat → Int32) × (Nat → Int32) × (Nat → Int32) × (Nat → Int32) × (Nat → Int32) × (Nat → Int32) × (Nat → Int32) × (Nat → Int32) × (Nat → Int32))) => r = R0.1 ∧ u = R0.2) (fun (u : (Int32) × (Int32 × Int32 × Int32 × (Nat → Int32) × (Nat → Int32) × (Nat → Int32) × (Nat → Int32) × (Nat → Int32) × (Nat → Int32) × (Nat → Int32) × (Nat → Int32) × (Nat → Int32)) × (Int32) × (Int32 × Int32) × ((Nat → Int32)) × (Int32 × Int32 × Int32 × Int32 × Int32 × Int32 × Int64 × (Nat → Int32)) × (Int32 × Int32 × Int32 × Int32 × Int32 × (Nat → Int32) × (Nat → Int32) × (Nat → Int32) × (Nat → Int32) × (Nat → Int32) × (Nat → Int32)) × (Int32 × (Nat → Int32)) × (Int32 × Int32 × Int32 × (Nat → Int32) × (Nat → Int32) × (Nat → Int32) × (Nat → Int32) × (Nat → Int32) × (Nat → Int32) × (Nat → Int32) × (Nat → Int32) × (Nat → Int32))) t => poC dC dI cy (w_X13_village cy a0 u.1 u.2.1 gtt u.2.2.1 u.2.2.2.1 u.2.2.2.2.1 u.2.2.2.2.2.1 u.2.2.2.2.2.2.1 gac u.2.2.2.2.2.2.2.1 u.2.2.2.2.2.2.2.2) t) (va_A (w_X13_village cy a0 gth gvm gtt gtd gfl grf grd gnv gac grc gim) s.heap.size)) := ⟨_, rfl⟩
  rw [← hqq]
  generalize hAe : va_A (w_X13_village cy a0 gth gvm gtt gtd gfl grf grd gnv gac grc gim) s.heap.size = A at hD hqq ⊢
  have hA : ∀ q : Nat, s.heap.size ≤ q → A q := fun q h => by rw [← hAe]; exact Or.inr h
  have hS : va_S A s.heap s.heap [] := va_S.rf
  have hl := lv_entry ([.ref (a0 0), .int x1]) (n := 3) (Nat.le_of_ble_eq_true rfl)
  have hE : entryFrame m aa 3 = F0 m 0 ((lg_sl ([.ref (a0 0), .int x1]) ++ List.replicate (3 - (lg_sl ([.ref (a0 0), .int x1])).length) Slot.unset).toArray) [] := by rw [haa]; exact lg_entry_eq m _ 3
  refine W.eq hE ?_
  generalize (lg_sl ([.ref (a0 0), .int x1]) ++ List.replicate (3 - (lg_sl ([.ref (a0 0), .int x1])).length) Slot.unset).toArray = ls at hl ⊢
  have hl : lv_has ls 3 [(0, .ref (a0 0)), (1, .int x1)] := hl
  change W p l e rm_X13_village s m aa below meth c s.heap [] 0 0 (MQ below qq aa s 0 0 A) (F0 m 0 ls [])
  have hS0 := hS
  have lk0 := hts (.fieldLink RX13 261 "GoatDoorsModel" "receipts" "I") (by decide +kernel)
  have lk1 := hts (.fieldLink RX13 264 "GoatDoorsModel" "hasImage" "Z") (by decide +kernel)
  have lk2 := hts (.fieldLink RX13 22 "GoatDoorsModel" "has" "[I") (by decide +kernel)
  have lk3 := hts (.fieldLink RX13 214 "GoatDoorsModel" "newDoors" "I") (by decide +kernel)
  have lk4 := hts (.fieldLink RX13 204 "GoatDoorsModel" "newOwners" "I") (by decide +kernel)
  have lk5 := hts (.fieldLink RX13 245 "GoatDoorsModel" "owners" "I") (by decide +kernel)
  have lk6 := hts (.fieldLink RX13 228 "GoatDoorsModel" "newLaw" "I") (by decide +kernel)
  have lk7 := hts (.fieldLink RX13 248 "GoatDoorsModel" "law" "I") (by decide +kernel)
  have lk8 := hts (.fieldLink RX13 207 "GoatDoorsModel" "total" "I") (by decide +kernel)
  have lk9 := hts (.fieldLink RX13 251 "GoatDoorsModel" "base" "I") (by decide +kernel)
  have lk10 := hts (.fieldLink RX13 50 "GoatDoorsModel" "newGoats" "[I") (by decide +kernel)
  have lk11 := hts (.fieldLink RX13 7 "GoatDoorsModel" "goats" "[I") (by decide +kernel)
  have lk12 := hts (.fieldLink RX13 53 "GoatDoorsModel" "newCan" "[I") (by decide +kernel)
  have lk13 := hts (.fieldLink RX13 13 "GoatDoorsModel" "can" "[I") (by decide +kernel)
  have lk14 := hts (.fieldLink RX13 56 "GoatDoorsModel" "newBy" "[I") (by decide +kernel)
  have lk15 := hts (.fieldLink RX13 25 "GoatDoorsModel" "by" "[I") (by decide +kernel)
  have lk16 := hts (.fieldLink RX13 59 "GoatDoorsModel" "newTo" "[I") (by decide +kernel)
  have lk17 := hts (.fieldLink RX13 28 "GoatDoorsModel" "to" "[I") (by decide +kernel)
  have lk18 := hts (.fieldLink RX13 62 "GoatDoorsModel" "newMany" "[I") (by decide +kernel)
  have lk19 := hts (.fieldLink RX13 31 "GoatDoorsModel" "many" "[I") (by decide +kernel)
  have lk20 := hts (.fieldLink RX13 65 "GoatDoorsModel" "newFigure" "[I") (by decide +kernel)
  have lk21 := hts (.fieldLink RX13 34 "GoatDoorsModel" "figure" "[I") (by decide +kernel)
  have lk22 := hts (.fieldLink RX13 44 "GoatDoorsModel" "refused" "[I") (by decide +kernel)
  have lk23 := hts (.fieldLink RX13 188 "GoatDoorsModel" "faultKind" "I") (by decide +kernel)
  have lk24 := hts (.fieldLink RX13 165 "GoatDoorsModel" "sort" "I") (by decide +kernel)
  have lk25 := hts (.fieldLink RX13 224 "GoatDoorsModel" "hasLaw" "Z") (by decide +kernel)
  have lk26 := hts (.fieldLink RX13 135 "GoatDoorsModel" "thrown" "I") (by decide +kernel)
  have lk27 := hts (.fieldLink RX13 138 "GoatDoorsModel" "taped" "I") (by decide +kernel)
  have in_X13 : ∀ w ∈ wsX130, w ∈ wsX13_village := by decide +kernel
  have c227 : ∀ (k203 : (Int32) → (Int32 × Int32 × Int32 × (Nat → Int32) × (Nat → Int32) × (Nat → Int32) × (Nat → Int32) × (Nat → Int32) × (Nat → Int32) × (Nat → Int32) × (Nat → Int32) × (Nat → Int32)) → (Int32) → (Int32 × Int32) → ((Nat → Int32)) → (Int32 × Int32 × Int32 × Int32 × Int32 × Int32 × Int64 × (Nat → Int32)) → (Int32 × Int32 × Int32 × Int32 × Int32 × (Nat → Int32) × (Nat → Int32) × (Nat → Int32) × (Nat → Int32) × (Nat → Int32) × (Nat → Int32)) → (Int32 × (Nat → Int32)) → (Int32 × Int32 × Int32 × (Nat → Int32) × (Nat → Int32) × (Nat → Int32) × (Nat → Int32) × (Nat → Int32) × (Nat → Int32) × (Nat → Int32) × (Nat → Int32) × (Nat → Int32)) → Int32 → Option (Int32 × (Int32) × (Int32 × Int32 × Int32 × (Nat → Int32) × (Nat → Int32) × (Nat → Int32) × (Nat → Int32) × (Nat → Int32) × (Nat → Int32) × (Nat → Int32) × (Nat → Int32) × (Nat → Int32)) × (Int32) × (Int32 × Int32) × ((Nat → Int32)) × (Int32 × Int32 × Int32 × Int32 × Int32 × Int32 × Int64 × (Nat → Int32)) × (Int32 × Int32 × Int32 × Int32 × Int32 × (Nat → Int32) × (Nat → Int32) × (Nat → Int32) × (Nat → Int32) × (Nat → Int32) × (Nat → Int32)) × (Int32 × (Nat → Int32)) × (Int32 × Int32 × Int32 × (Nat → Int32) × (Nat → Int32) × (Nat → Int32) × (Nat → Int32) × (Nat → Int32) × (Nat → Int32) × (Nat → Int32) × (Nat → Int32) × (Nat → Int32)))) (hk203 : ∀ (gth : Int32) (gvm : Int32 × Int32 × Int32 × (Nat → Int32) × (Nat → Int32) × (Nat → Int32) × (Nat → Int32) × (Nat → Int32) × (Nat → Int32) × (Nat → Int32) × (Nat → Int32) × (Nat → Int32)) (gtd : Int32) (gfl : Int32 × Int32) (grf : (Nat → Int32)) (grd : Int32 × Int32 × Int32 × Int32 × Int32 × Int32 × Int64 × (Nat → Int32)) (gnv : Int32 × Int32 × Int32 × Int32 × Int32 × (Nat → Int32) × (Nat → Int32) × (Nat → Int32) × (Nat → Int32) × (Nat → Int32) × (Nat → Int32)) (grc : Int32 × (Nat → Int32)) (gim : Int32 × Int32 × Int32 × (Nat → Int32) × (Nat → Int32) × (Nat → Int32) × (Nat → Int32) × (Nat → Int32) × (Nat → Int32) × (Nat → Int32) × (Nat → Int32) × (Nat → Int32)) (x2 : Int32) (H : Heap) (locs : List Loc) (ls : Array Slot), k203 gth gvm gtd gfl grf grd gnv grc gim x2 = some R0 → va_P (dC, dI) vwCl (w_X13_village cy a0 gth gvm gtt gtd gfl grf grd gnv gac grc gim) H → va_D A (w_X13_village cy a0 gth gvm gtt gtd gfl grf grd gnv gac grc gim) → va_S A s.heap H locs → lv_has ls 3 [(0, .ref (a0 0)), (2, .int x2)] → W p l e rm_X13_village s m aa below meth c H locs 0 0 (MQ below qq aa s 0 0 A) (F0 m 203 ls [])), ∀ (gth : Int32) (gvm : Int32 × Int32 × Int32 × (Nat → Int32) × (Nat → Int32) × (Nat → Int32) × (Nat → Int32) × (Nat → Int32) × (Nat → Int32) × (Nat → Int32) × (Nat → Int32) × (Nat → Int32)) (gtd : Int32) (gfl : Int32 × Int32) (grf : (Nat → Int32)) (grd : Int32 × Int32 × Int32 × Int32 × Int32 × Int32 × Int64 × (Nat → Int32)) (gnv : Int32 × Int32 × Int32 × Int32 × Int32 × (Nat → Int32) × (Nat → Int32) × (Nat → Int32) × (Nat → Int32) × (Nat → Int32) × (Nat → Int32)) (grc : Int32 × (Nat → Int32)) (gim : Int32 × Int32 × Int32 × (Nat → Int32) × (Nat → Int32) × (Nat → Int32) × (Nat → Int32) × (Nat → Int32) × (Nat → Int32) × (Nat → Int32) × (Nat → Int32) × (Nat → Int32)) (x2 : Int32) (t1 : Int32) (t2 : Int32) (H : Heap) (locs : List Loc) (ls : Array Slot), p_X13_village_227 k203 gtt gth gvm gtd gfl grf grd gnv grc gim x2 t1 t2 = some R0 → va_P (dC, dI) vwCl (w_X13_village cy a0 gth gvm gtt gtd gfl grf grd gnv gac grc gim) H → va_D A (w_X13_village cy a0 gth gvm gtt gtd gfl grf grd gnv gac grc gim) → va_S A s.heap H locs → lv_has ls 3 [(0, .ref (a0 0)), (2, .int x2)] → W p l e rm_X13_village s m aa below meth c H locs 0 0 (MQ below qq aa s 0 0 A) (F0 m 227 ls [.int t2, .int t1, .ref (a0 5)]) := by
    intro k203 hk203 gth gvm gtd gfl grf grd gnv grc gim x2 t1 t2 H locs ls h hP hD hS hl
    unfold p_X13_village_227 at h
    obtain ⟨hi1, h⟩ := ok_if h
    refine va_iast hx hb hK hP hD hS 5 1 rfl rfl (ix_in hi1) dX13_village_227 (fun H locs hP hD hS => ?_)
    have hP : va_P (dC, dI) vwCl (w_X13_village cy a0 gth ((gvm.1, gvm.2.1, gvm.2.2.1, gvm.2.2.2.1, gvm.2.2.2.2.1, gvm.2.2.2.2.2.1, gvm.2.2.2.2.2.2.1, (upd gvm.2.2.2.2.2.2.2.1 t1.toNatClampNeg t2), gvm.2.2.2.2.2.2.2.2)) gtt gtd gfl grf grd gnv gac grc gim) H := hP
    have hD : va_D A (w_X13_village cy a0 gth ((gvm.1, gvm.2.1, gvm.2.2.1, gvm.2.2.2.1, gvm.2.2.2.2.1, gvm.2.2.2.2.2.1, gvm.2.2.2.2.2.2.1, (upd gvm.2.2.2.2.2.2.2.1 t1.toNatClampNeg t2), gvm.2.2.2.2.2.2.2.2)) gtt gtd gfl grf grd gnv gac grc gim) := hD
    refine lv_iinc (v := (x2 + (1 : Int32))) (lv' := [(2, .int (x2 + (1 : Int32))), (0, .ref (a0 0))]) hx hb dX13_village_228 hl (k := 1) rfl rfl (by decide) rfl (fun ls hl => ?_)
    refine lv_goto (tgt := 203) hx hb dX13_village_231 (by decide) ?_
    exact hk203 gth (gvm.1, gvm.2.1, gvm.2.2.1, gvm.2.2.2.1, gvm.2.2.2.2.1, gvm.2.2.2.2.2.1, gvm.2.2.2.2.2.2.1, (upd gvm.2.2.2.2.2.2.2.1 t1.toNatClampNeg t2), gvm.2.2.2.2.2.2.2.2) gtd gfl grf grd gnv grc gim (x2 + (1 : Int32)) H locs ls h hP hD hS (lv_sub hl [1, 0] rfl)
  have c203 : ∀ (n : Nat), ∀ (gth : Int32) (gvm : Int32 × Int32 × Int32 × (Nat → Int32) × (Nat → Int32) × (Nat → Int32) × (Nat → Int32) × (Nat → Int32) × (Nat → Int32) × (Nat → Int32) × (Nat → Int32) × (Nat → Int32)) (gtd : Int32) (gfl : Int32 × Int32) (grf : (Nat → Int32)) (grd : Int32 × Int32 × Int32 × Int32 × Int32 × Int32 × Int64 × (Nat → Int32)) (gnv : Int32 × Int32 × Int32 × Int32 × Int32 × (Nat → Int32) × (Nat → Int32) × (Nat → Int32) × (Nat → Int32) × (Nat → Int32) × (Nat → Int32)) (grc : Int32 × (Nat → Int32)) (gim : Int32 × Int32 × Int32 × (Nat → Int32) × (Nat → Int32) × (Nat → Int32) × (Nat → Int32) × (Nat → Int32) × (Nat → Int32) × (Nat → Int32) × (Nat → Int32) × (Nat → Int32)) (x2 : Int32) (H : Heap) (locs : List Loc) (ls : Array Slot), p_X13_village_203 gtt n gth gvm gtd gfl grf grd gnv grc gim x2 = some R0 → va_P (dC, dI) vwCl (w_X13_village cy a0 gth gvm gtt gtd gfl grf grd gnv gac grc gim) H → va_D A (w_X13_village cy a0 gth gvm gtt gtd gfl grf grd gnv gac grc gim) → va_S A s.heap H locs → lv_has ls 3 [(0, .ref (a0 0)), (2, .int x2)] → W p l e rm_X13_village s m aa below meth c H locs 0 0 (MQ below qq aa s 0 0 A) (F0 m 203 ls []) := by
    intro  n
    induction n with
    | zero => intro gth gvm gtd gfl grf grd gnv grc gim x2 H locs ls h; exact no_some h
    | succ n ih =>
      intro gth gvm gtd gfl grf grd gnv grc gim x2 H locs ls h hP hD hS hl
      rw [p_X13_village_203.eq_2] at h
      refine lv_iload_n hx hb dX13_village_203 rfl (lv_at hl 1 rfl) ?_
      refine lv_bipush (v := (10 : Int32)) hx hb dX13_village_204 (by decide) ?_
      refine lv_icmp_ge (tgt := 234) hx hb dX13_village_206 (by decide) (fun c1 => ?_) (fun c1 => ?_)
      · rw [if_pos c1] at h
        refine lv_aload_n hx hb dX13_village_234 rfl (lv_at hl 0 rfl) ?_
        obtain ⟨v2, hv3, h⟩ := ok_bind h
        refine cl_vv (w2 := fun (u : (Int32 × Int32 × Int32 × (Nat → Int32) × (Nat → Int32) × (Nat → Int32) × (Nat → Int32) × (Nat → Int32) × (Nat → Int32) × (Nat → Int32) × (Nat → Int32) × (Nat → Int32))) => w_X13_village cy a0 gth u gtt gtd gfl grf grd gnv gac grc gim) (As := []) (rest := []) ⟨hx, hb, hml, hown, hts⟩ (c_X13_clears l dC dI cy a0 gth gvm gtd gfl grd gnv gac grc gim H.size v2 hv3) (cwV 0 hts gX13_village_X13_clears rfl rfl rfl (by decide +kernel) ⟨Nat.le_of_ble_eq_true rfl, Nat.le_of_ble_eq_true rfl⟩) (va_recv hK hP (ci := 11) (q0 := 0) rfl rfl) cl_blind (cl_pre hK hP hD [0, 1, 2, 3, 4, 5, 6, 7, 8, 9] (by decide) rfl) hP hD hS hA [0, 1, 2, 3, 4, 5, 6, 7, 8, 9] rfl rfl hl.1 rfl (lv_room (Nat.le_of_ble_eq_true rfl)) dX13_village_235 ⟨Nat.le_of_ble_eq_true rfl, Nat.le_of_ble_eq_true rfl⟩ ⟨rfl, rfl⟩ (fun _ => updM [0, 1, 2, 3, 4, 5, 6, 7, 8, 9] [10, 11, 12, 13, 14, 15, 16, 17, 18, 19, 20, 21, 22, 23, 24, 25, 26, 27, 28] [(a0 10, .inl (cy 1, 600, .inl (gtt))), (a0 11, .inl (cy 1, 3, .inl (grf))), (a0 12, .inl (cy 1, 5, .inl (grd.2.2.2.2.2.2.2))), (a0 13, .inl (cy 1, 5, .inl (gnv.2.2.2.2.2.1))), (a0 14, .inl (cy 1, 5, .inl (gnv.2.2.2.2.2.2.1))), (a0 15, .inl (cy 1, 10, .inl (gnv.2.2.2.2.2.2.2.1))), (a0 16, .inl (cy 1, 10, .inl (gnv.2.2.2.2.2.2.2.2.1))), (a0 17, .inl (cy 1, 10, .inl (gnv.2.2.2.2.2.2.2.2.2.1))), (a0 18, .inl (cy 1, 50, .inl (gnv.2.2.2.2.2.2.2.2.2.2))), (a0 28, .inl (cy 1, 36, .inl (grc.2))), (a0 32, .inl (cy 1, 5, .inl (gim.2.2.2.1))), (a0 33, .inl (cy 1, 5, .inl (gim.2.2.2.2.1))), (a0 34, .inl (cy 1, 25, .inl (gim.2.2.2.2.2.1))), (a0 35, .inl (cy 1, 10, .inl (gim.2.2.2.2.2.2.1))), (a0 36, .inl (cy 1, 10, .inl (gim.2.2.2.2.2.2.2.1))), (a0 37, .inl (cy 1, 10, .inl (gim.2.2.2.2.2.2.2.2.1))), (a0 38, .inl (cy 1, 10, .inl (gim.2.2.2.2.2.2.2.2.2.1))), (a0 39, .inl (cy 1, 50, .inl (gim.2.2.2.2.2.2.2.2.2.2.1))), (a0 40, .inl (cy 1, 36, .inl (gim.2.2.2.2.2.2.2.2.2.2.2)))] 29 rfl rfl rfl rfl rfl (by decide +kernel) (by decide +kernel) rfl) (fun u H locs hw hP hD hS => ?_)
        have hw := hw.symm
        subst hw
        have hP : va_P (dC, dI) vwCl (w_X13_village cy a0 gth v2 gtt gtd gfl grf grd gnv gac grc gim) H := hP
        have hD : va_D A (w_X13_village cy a0 gth v2 gtt gtd gfl grf grd gnv gac grc gim) := hD
        refine lv_aload_n hx hb dX13_village_238 rfl (lv_at hl 0 rfl) ?_
        refine lv_iconst (v := (0 : Int32)) hx hb dX13_village_239 (by decide) ?_
        refine va_put (D := (dC, dI)) (ci := 11) (v := .int (0 : Int32)) (ty := .int) (C := RX13) (T := TX13) (N := 64) hx hb hts in_X13 tyX13 tyX13_ok nmX13 hown hK hP hD hS 0 rfl rfl 47 (by decide) lk0 (fun _ h9 => h9) rfl (by decide +kernel) rfl rfl (Nat.le_of_ble_eq_true rfl) dX13_village_240 (fun H locs hP hD hS => ?_)
        have hP : va_P (dC, dI) vwCl (w_X13_village cy a0 gth v2 gtt gtd gfl grf grd gnv gac (((0 : Int32), grc.2)) gim) H := hP
        have hD : va_D A (w_X13_village cy a0 gth v2 gtt gtd gfl grf grd gnv gac (((0 : Int32), grc.2)) gim) := hD
        refine lv_aload_n hx hb dX13_village_243 rfl (lv_at hl 0 rfl) ?_
        refine lv_iconst (v := (0 : Int32)) hx hb dX13_village_244 (by decide) ?_
        refine va_put (D := (dC, dI)) (ci := 11) (v := .int (0 : Int32)) (ty := .boolean) (C := RX13) (T := TX13) (N := 64) hx hb hts in_X13 tyX13 tyX13_ok nmX13 hown hK hP hD hS 0 rfl rfl 52 (by decide) lk1 (fun _ h9 => h9) rfl (by decide +kernel) rfl rfl (Nat.le_of_ble_eq_true rfl) dX13_village_245 (fun H locs hP hD hS => ?_)
        have hP : va_P (dC, dI) vwCl (w_X13_village cy a0 gth v2 gtt gtd gfl grf grd gnv gac (((0 : Int32), grc.2)) (((0 : Int32), gim.2))) H := hP
        have hD : va_D A (w_X13_village cy a0 gth v2 gtt gtd gfl grf grd gnv gac (((0 : Int32), grc.2)) (((0 : Int32), gim.2))) := hD
        refine lv_iconst (v := (0 : Int32)) hx hb dX13_village_248 (by decide) ?_
        exact W.iret (v := (0 : Int32)) hx hb hr (fun t ht hW => by rw [hqq]; have hh := Option.some.inj h; exact ⟨⟨(0 : Int32), ((gth, v2, gtd, gfl, grf, grd, gnv, ((0 : Int32), grc.2), ((0 : Int32), gim.2))), rfl, ⟨fst_of hh, snd_of hh⟩, by rw [ht]; exact hP, va_K.moved hW.alike hK⟩, hS.F ht⟩) hS.2.2 dX13_village_249
      · rw [if_neg c1] at h
        refine lv_aload_n hx hb dX13_village_209 rfl (lv_at hl 0 rfl) ?_
        refine va_get (D := (dC, dI)) (ci := 11) (v := .ref (a0 5)) (C := RX13) (T := TX13) (N := 64) hx hb hts in_X13 hown hK hP 0 rfl rfl 8 (by decide) lk2 (fun _ h9 => h9) rfl dX13_village_210 ?_
        refine lv_iload_n hx hb dX13_village_213 rfl (lv_at hl 1 rfl) ?_
        refine lv_iload_n hx hb dX13_village_214 rfl (lv_at hl 1 rfl) ?_
        refine lv_aload_n hx hb dX13_village_215 rfl (lv_at hl 0 rfl) ?_
        refine va_get (D := (dC, dI)) (ci := 11) (v := .int gnv.2.1) (C := RX13) (T := TX13) (N := 64) hx hb hts in_X13 hown hK hP 0 rfl rfl 27 (by decide) lk3 (fun _ h9 => h9) rfl dX13_village_216 ?_
        refine lv_icmp_ge (tgt := 226) hx hb dX13_village_219 (by decide) (fun c4 => ?_) (fun c4 => ?_)
        · rw [if_pos c4] at h
          refine lv_iconst (v := (0 : Int32)) hx hb dX13_village_226 (by decide) ?_
          exact c227 (p_X13_village_203 gtt n) ih gth gvm gtd gfl grf grd gnv grc gim x2 x2 (0 : Int32) H locs ls h hP hD hS (lv_sub hl [0, 1] rfl)
        · rw [if_neg c4] at h
          refine lv_iconst (v := (1 : Int32)) hx hb dX13_village_222 (by decide) ?_
          refine lv_goto (tgt := 227) hx hb dX13_village_223 (by decide) ?_
          exact c227 (p_X13_village_203 gtt n) ih gth gvm gtd gfl grf grd gnv grc gim x2 x2 (1 : Int32) H locs ls h hP hD hS (lv_sub hl [0, 1] rfl)
  have c83 : ∀ (_u : Unit), ∀ (gth : Int32) (gvm : Int32 × Int32 × Int32 × (Nat → Int32) × (Nat → Int32) × (Nat → Int32) × (Nat → Int32) × (Nat → Int32) × (Nat → Int32) × (Nat → Int32) × (Nat → Int32) × (Nat → Int32)) (gtd : Int32) (gfl : Int32 × Int32) (grf : (Nat → Int32)) (grd : Int32 × Int32 × Int32 × Int32 × Int32 × Int32 × Int64 × (Nat → Int32)) (gnv : Int32 × Int32 × Int32 × Int32 × Int32 × (Nat → Int32) × (Nat → Int32) × (Nat → Int32) × (Nat → Int32) × (Nat → Int32) × (Nat → Int32)) (grc : Int32 × (Nat → Int32)) (gim : Int32 × Int32 × Int32 × (Nat → Int32) × (Nat → Int32) × (Nat → Int32) × (Nat → Int32) × (Nat → Int32) × (Nat → Int32) × (Nat → Int32) × (Nat → Int32) × (Nat → Int32)) (H : Heap) (locs : List Loc) (ls : Array Slot), p_X13_village_83 gtt gth gvm gtd gfl grf grd gnv grc gim = some R0 → va_P (dC, dI) vwCl (w_X13_village cy a0 gth gvm gtt gtd gfl grf grd gnv gac grc gim) H → va_D A (w_X13_village cy a0 gth gvm gtt gtd gfl grf grd gnv gac grc gim) → va_S A s.heap H locs → lv_has ls 3 [(0, .ref (a0 0))] → W p l e rm_X13_village s m aa below meth c H locs 0 0 (MQ below qq aa s 0 0 A) (F0 m 83 ls []) := by
    intro _ gth gvm gtd gfl grf grd gnv grc gim H locs ls h hP hD hS hl
    unfold p_X13_village_83 at h
    refine lv_aload_n hx hb dX13_village_83 rfl (lv_at hl 0 rfl) ?_
    obtain ⟨v1, hv2, h⟩ := ok_bind h
    refine cl_vi (w2 := fun (_ : Unit) => w_X13_village cy a0 gth gvm gtt gtd gfl grf grd gnv gac grc gim) (As := []) (rest := []) ⟨hx, hb, hml, hown, hts⟩ (c_X13_isGood l dC dI cy a0 gth gvm gtd gfl grd gnv gac grc gim H.size v1 hv2) (cwV 0 hts gX13_village_X13_isGood rfl rfl rfl (by decide +kernel) ⟨Nat.le_of_ble_eq_true rfl, Nat.le_of_ble_eq_true rfl⟩) (va_recv hK hP (ci := 11) (q0 := 0) rfl rfl) cl_blind (cl_pre hK hP hD [0] (by decide) rfl) hP hD hS hA [0] rfl rfl hl.1 rfl (lv_room (Nat.le_of_ble_eq_true rfl)) dX13_village_84 ⟨Nat.le_of_ble_eq_true rfl, Nat.le_of_ble_eq_true rfl⟩ ⟨rfl, rfl⟩ (fun _ => updR [0] rfl) (fun r u H locs hw hP hD hS => ?_)
    have hw := hw.symm
    subst hw
    have hP : va_P (dC, dI) vwCl (w_X13_village cy a0 gth gvm gtt gtd gfl grf grd gnv gac grc gim) H := hP
    have hD : va_D A (w_X13_village cy a0 gth gvm gtt gtd gfl grf grd gnv gac grc gim) := hD
    refine lv_if_ne (tgt := 105) hx hb dX13_village_87 (by decide) (fun c3 => ?_) (fun c3 => ?_)
    · rw [if_neg c3] at h
      refine lv_aload_n hx hb dX13_village_105 rfl (lv_at hl 0 rfl) ?_
      refine lv_aload_n hx hb dX13_village_106 rfl (lv_at hl 0 rfl) ?_
      refine va_get (D := (dC, dI)) (ci := 11) (v := .int gnv.1) (C := RX13) (T := TX13) (N := 64) hx hb hts in_X13 hown hK hP 0 rfl rfl 26 (by decide) lk4 (fun _ h9 => h9) rfl dX13_village_107 ?_
      refine va_put (D := (dC, dI)) (ci := 11) (v := .int gnv.1) (ty := .int) (C := RX13) (T := TX13) (N := 64) hx hb hts in_X13 tyX13 tyX13_ok nmX13 hown hK hP hD hS 0 rfl rfl 1 (by decide) lk5 (fun _ h9 => h9) rfl (by decide +kernel) rfl rfl (Nat.le_of_ble_eq_true rfl) dX13_village_110 (fun H locs hP hD hS => ?_)
      have hP : va_P (dC, dI) vwCl (w_X13_village cy a0 gth ((gnv.1, gvm.2)) gtt gtd gfl grf grd gnv gac grc gim) H := hP
      have hD : va_D A (w_X13_village cy a0 gth ((gnv.1, gvm.2)) gtt gtd gfl grf grd gnv gac grc gim) := hD
      refine lv_aload_n hx hb dX13_village_113 rfl (lv_at hl 0 rfl) ?_
      refine lv_aload_n hx hb dX13_village_114 rfl (lv_at hl 0 rfl) ?_
      refine va_get (D := (dC, dI)) (ci := 11) (v := .int gnv.2.2.1) (C := RX13) (T := TX13) (N := 64) hx hb hts in_X13 hown hK hP 0 rfl rfl 28 (by decide) lk6 (fun _ h9 => h9) rfl dX13_village_115 ?_
      refine va_put (D := (dC, dI)) (ci := 11) (v := .int gnv.2.2.1) (ty := .int) (C := RX13) (T := TX13) (N := 64) hx hb hts in_X13 tyX13 tyX13_ok nmX13 hown hK hP hD hS 0 rfl rfl 2 (by decide) lk7 (fun _ h9 => h9) rfl (by decide +kernel) rfl rfl (Nat.le_of_ble_eq_true rfl) dX13_village_118 (fun H locs hP hD hS => ?_)
      have hP : va_P (dC, dI) vwCl (w_X13_village cy a0 gth ((gnv.1, gnv.2.2.1, gvm.2.2)) gtt gtd gfl grf grd gnv gac grc gim) H := hP
      have hD : va_D A (w_X13_village cy a0 gth ((gnv.1, gnv.2.2.1, gvm.2.2)) gtt gtd gfl grf grd gnv gac grc gim) := hD
      refine lv_aload_n hx hb dX13_village_121 rfl (lv_at hl 0 rfl) ?_
      refine lv_aload_n hx hb dX13_village_122 rfl (lv_at hl 0 rfl) ?_
      refine va_get (D := (dC, dI)) (ci := 11) (v := .int gnv.2.2.2.1) (C := RX13) (T := TX13) (N := 64) hx hb hts in_X13 hown hK hP 0 rfl rfl 29 (by decide) lk8 (fun _ h9 => h9) rfl dX13_village_123 ?_
      refine va_put (D := (dC, dI)) (ci := 11) (v := .int gnv.2.2.2.1) (ty := .int) (C := RX13) (T := TX13) (N := 64) hx hb hts in_X13 tyX13 tyX13_ok nmX13 hown hK hP hD hS 0 rfl rfl 3 (by decide) lk9 (fun _ h9 => h9) rfl (by decide +kernel) rfl rfl (Nat.le_of_ble_eq_true rfl) dX13_village_126 (fun H locs hP hD hS => ?_)
      have hP : va_P (dC, dI) vwCl (w_X13_village cy a0 gth ((gnv.1, gnv.2.2.1, gnv.2.2.2.1, gvm.2.2.2)) gtt gtd gfl grf grd gnv gac grc gim) H := hP
      have hD : va_D A (w_X13_village cy a0 gth ((gnv.1, gnv.2.2.1, gnv.2.2.2.1, gvm.2.2.2)) gtt gtd gfl grf grd gnv gac grc gim) := hD
      refine lv_aload_n hx hb dX13_village_129 rfl (lv_at hl 0 rfl) ?_
      refine lv_aload_n hx hb dX13_village_130 rfl (lv_at hl 0 rfl) ?_
      refine va_get (D := (dC, dI)) (ci := 11) (v := .ref (a0 13)) (C := RX13) (T := TX13) (N := 64) hx hb hts in_X13 hown hK hP 0 rfl rfl 31 (by decide) lk10 (fun _ h9 => h9) rfl dX13_village_131 ?_
      refine lv_aload_n hx hb dX13_village_134 rfl (lv_at hl 0 rfl) ?_
      refine va_get (D := (dC, dI)) (ci := 11) (v := .ref (a0 1)) (C := RX13) (T := TX13) (N := 64) hx hb hts in_X13 hown hK hP 0 rfl rfl 4 (by decide) lk11 (fun _ h9 => h9) rfl dX13_village_135 ?_
      obtain ⟨v4, hv5, h⟩ := ok_bind h
      refine cl_vv (w2 := fun (u : ((Nat → Int32))) => w_X13_village cy a0 gth ((gnv.1, gnv.2.2.1, gnv.2.2.2.1, u, gvm.2.2.2.2)) gtt gtd gfl grf grd gnv gac grc gim) (As := [.ref (a0 13), .ref (a0 1)]) (rest := []) ⟨hx, hb, hml, hown, hts⟩ (c_X13_copies l dC dI cy a0 (fun k => a0 (k + 13)) (fun k => a0 (k + 1)) 5 5 gnv.2.2.2.2.2.1 gvm.2.2.2.1 H.size v4 hv5) (cwV 2 hts gX13_village_X13_copies rfl rfl rfl (by decide +kernel) ⟨Nat.le_of_ble_eq_true rfl, Nat.le_of_ble_eq_true rfl⟩) (va_recv hK hP (ci := 11) (q0 := 0) rfl rfl) cl_blind (cl_pre hK hP hD [13, 1] (by decide) rfl) hP hD hS hA [13, 1] rfl rfl hl.1 rfl (lv_room (Nat.le_of_ble_eq_true rfl)) dX13_village_138 ⟨Nat.le_of_ble_eq_true rfl, Nat.le_of_ble_eq_true rfl⟩ ⟨rfl, rfl⟩ (fun _ => updM [13, 1] [0, 2, 3, 4, 5, 6, 7, 8, 9, 10, 11, 12, 14, 15, 16, 17, 18, 19, 20, 21, 22, 23, 24, 25, 26, 27, 28] [(a0 0, .inr (11, [.int (gth), .int (gnv.1), .int (gnv.2.2.1), .int (gnv.2.2.2.1), .ref (a0 1), .ref (a0 2), .ref (a0 3), .ref (a0 4), .ref (a0 5), .ref (a0 6), .ref (a0 7), .ref (a0 8), .ref (a0 9), .ref (a0 10), .int (gtd), .int (gfl.1), .int (gfl.2), .ref (a0 11), .int (grd.1), .int (grd.2.1), .int (grd.2.2.1), .int (grd.2.2.2.1), .int (grd.2.2.2.2.1), .int (grd.2.2.2.2.2.1), .long (grd.2.2.2.2.2.2.1), .ref (a0 12), .int (gnv.1), .int (gnv.2.1), .int (gnv.2.2.1), .int (gnv.2.2.2.1), .int (gnv.2.2.2.2.1), .ref (a0 13), .ref (a0 14), .ref (a0 15), .ref (a0 16), .ref (a0 17), .ref (a0 18), .int (gac.1), .ref (a0 19), .ref (a0 20), .ref (a0 21), .ref (a0 22), .ref (a0 23), .ref (a0 24), .ref (a0 25), .ref (a0 26), .ref (a0 27), .int (grc.1), .ref (a0 28), .ref (a0 29), .ref (a0 30), .ref (a0 31), .int (gim.1), .int (gim.2.1), .int (gim.2.2.1), .ref (a0 32), .ref (a0 33), .ref (a0 34), .ref (a0 35), .ref (a0 36), .ref (a0 37), .ref (a0 38), .ref (a0 39), .ref (a0 40)])), (a0 2, .inl (cy 1, 5, .inl (gvm.2.2.2.2.1))), (a0 3, .inl (cy 1, 5, .inl (gvm.2.2.2.2.2.1))), (a0 4, .inl (cy 1, 25, .inl (gvm.2.2.2.2.2.2.1))), (a0 5, .inl (cy 1, 10, .inl (gvm.2.2.2.2.2.2.2.1))), (a0 6, .inl (cy 1, 10, .inl (gvm.2.2.2.2.2.2.2.2.1))), (a0 7, .inl (cy 1, 10, .inl (gvm.2.2.2.2.2.2.2.2.2.1))), (a0 8, .inl (cy 1, 10, .inl (gvm.2.2.2.2.2.2.2.2.2.2.1))), (a0 9, .inl (cy 1, 50, .inl (gvm.2.2.2.2.2.2.2.2.2.2.2))), (a0 10, .inl (cy 1, 600, .inl (gtt))), (a0 11, .inl (cy 1, 3, .inl (grf))), (a0 12, .inl (cy 1, 5, .inl (grd.2.2.2.2.2.2.2))), (a0 14, .inl (cy 1, 5, .inl (gnv.2.2.2.2.2.2.1))), (a0 15, .inl (cy 1, 10, .inl (gnv.2.2.2.2.2.2.2.1))), (a0 16, .inl (cy 1, 10, .inl (gnv.2.2.2.2.2.2.2.2.1))), (a0 17, .inl (cy 1, 10, .inl (gnv.2.2.2.2.2.2.2.2.2.1))), (a0 18, .inl (cy 1, 50, .inl (gnv.2.2.2.2.2.2.2.2.2.2))), (a0 28, .inl (cy 1, 36, .inl (grc.2))), (a0 32, .inl (cy 1, 5, .inl (gim.2.2.2.1))), (a0 33, .inl (cy 1, 5, .inl (gim.2.2.2.2.1))), (a0 34, .inl (cy 1, 25, .inl (gim.2.2.2.2.2.1))), (a0 35, .inl (cy 1, 10, .inl (gim.2.2.2.2.2.2.1))), (a0 36, .inl (cy 1, 10, .inl (gim.2.2.2.2.2.2.2.1))), (a0 37, .inl (cy 1, 10, .inl (gim.2.2.2.2.2.2.2.2.1))), (a0 38, .inl (cy 1, 10, .inl (gim.2.2.2.2.2.2.2.2.2.1))), (a0 39, .inl (cy 1, 50, .inl (gim.2.2.2.2.2.2.2.2.2.2.1))), (a0 40, .inl (cy 1, 36, .inl (gim.2.2.2.2.2.2.2.2.2.2.2)))] 29 rfl rfl rfl rfl rfl (by decide +kernel) (by decide +kernel) rfl) (fun u H locs hw hP hD hS => ?_)
      have hw := hw.symm
      subst hw
      have hP : va_P (dC, dI) vwCl (w_X13_village cy a0 gth ((gnv.1, gnv.2.2.1, gnv.2.2.2.1, v4, gvm.2.2.2.2)) gtt gtd gfl grf grd gnv gac grc gim) H := hP
      have hD : va_D A (w_X13_village cy a0 gth ((gnv.1, gnv.2.2.1, gnv.2.2.2.1, v4, gvm.2.2.2.2)) gtt gtd gfl grf grd gnv gac grc gim) := hD
      refine lv_aload_n hx hb dX13_village_141 rfl (lv_at hl 0 rfl) ?_
      refine lv_aload_n hx hb dX13_village_142 rfl (lv_at hl 0 rfl) ?_
      refine va_get (D := (dC, dI)) (ci := 11) (v := .ref (a0 14)) (C := RX13) (T := TX13) (N := 64) hx hb hts in_X13 hown hK hP 0 rfl rfl 32 (by decide) lk12 (fun _ h9 => h9) rfl dX13_village_143 ?_
      refine lv_aload_n hx hb dX13_village_146 rfl (lv_at hl 0 rfl) ?_
      refine va_get (D := (dC, dI)) (ci := 11) (v := .ref (a0 2)) (C := RX13) (T := TX13) (N := 64) hx hb hts in_X13 hown hK hP 0 rfl rfl 5 (by decide) lk13 (fun _ h9 => h9) rfl dX13_village_147 ?_
      obtain ⟨v6, hv7, h⟩ := ok_bind h
      refine cl_vv (w2 := fun (u : ((Nat → Int32))) => w_X13_village cy a0 gth ((gnv.1, gnv.2.2.1, gnv.2.2.2.1, v4, u, gvm.2.2.2.2.2)) gtt gtd gfl grf grd gnv gac grc gim) (As := [.ref (a0 14), .ref (a0 2)]) (rest := []) ⟨hx, hb, hml, hown, hts⟩ (c_X13_copies l dC dI cy a0 (fun k => a0 (k + 14)) (fun k => a0 (k + 2)) 5 5 gnv.2.2.2.2.2.2.1 gvm.2.2.2.2.1 H.size v6 hv7) (cwV 2 hts gX13_village_X13_copies rfl rfl rfl (by decide +kernel) ⟨Nat.le_of_ble_eq_true rfl, Nat.le_of_ble_eq_true rfl⟩) (va_recv hK hP (ci := 11) (q0 := 0) rfl rfl) cl_blind (cl_pre hK hP hD [14, 2] (by decide) rfl) hP hD hS hA [14, 2] rfl rfl hl.1 rfl (lv_room (Nat.le_of_ble_eq_true rfl)) dX13_village_150 ⟨Nat.le_of_ble_eq_true rfl, Nat.le_of_ble_eq_true rfl⟩ ⟨rfl, rfl⟩ (fun _ => updM [14, 2] [0, 1, 3, 4, 5, 6, 7, 8, 9, 10, 11, 12, 13, 15, 16, 17, 18, 19, 20, 21, 22, 23, 24, 25, 26, 27, 28] [(a0 0, .inr (11, [.int (gth), .int (gnv.1), .int (gnv.2.2.1), .int (gnv.2.2.2.1), .ref (a0 1), .ref (a0 2), .ref (a0 3), .ref (a0 4), .ref (a0 5), .ref (a0 6), .ref (a0 7), .ref (a0 8), .ref (a0 9), .ref (a0 10), .int (gtd), .int (gfl.1), .int (gfl.2), .ref (a0 11), .int (grd.1), .int (grd.2.1), .int (grd.2.2.1), .int (grd.2.2.2.1), .int (grd.2.2.2.2.1), .int (grd.2.2.2.2.2.1), .long (grd.2.2.2.2.2.2.1), .ref (a0 12), .int (gnv.1), .int (gnv.2.1), .int (gnv.2.2.1), .int (gnv.2.2.2.1), .int (gnv.2.2.2.2.1), .ref (a0 13), .ref (a0 14), .ref (a0 15), .ref (a0 16), .ref (a0 17), .ref (a0 18), .int (gac.1), .ref (a0 19), .ref (a0 20), .ref (a0 21), .ref (a0 22), .ref (a0 23), .ref (a0 24), .ref (a0 25), .ref (a0 26), .ref (a0 27), .int (grc.1), .ref (a0 28), .ref (a0 29), .ref (a0 30), .ref (a0 31), .int (gim.1), .int (gim.2.1), .int (gim.2.2.1), .ref (a0 32), .ref (a0 33), .ref (a0 34), .ref (a0 35), .ref (a0 36), .ref (a0 37), .ref (a0 38), .ref (a0 39), .ref (a0 40)])), (a0 1, .inl (cy 1, 5, .inl (v4))), (a0 3, .inl (cy 1, 5, .inl (gvm.2.2.2.2.2.1))), (a0 4, .inl (cy 1, 25, .inl (gvm.2.2.2.2.2.2.1))), (a0 5, .inl (cy 1, 10, .inl (gvm.2.2.2.2.2.2.2.1))), (a0 6, .inl (cy 1, 10, .inl (gvm.2.2.2.2.2.2.2.2.1))), (a0 7, .inl (cy 1, 10, .inl (gvm.2.2.2.2.2.2.2.2.2.1))), (a0 8, .inl (cy 1, 10, .inl (gvm.2.2.2.2.2.2.2.2.2.2.1))), (a0 9, .inl (cy 1, 50, .inl (gvm.2.2.2.2.2.2.2.2.2.2.2))), (a0 10, .inl (cy 1, 600, .inl (gtt))), (a0 11, .inl (cy 1, 3, .inl (grf))), (a0 12, .inl (cy 1, 5, .inl (grd.2.2.2.2.2.2.2))), (a0 13, .inl (cy 1, 5, .inl (gnv.2.2.2.2.2.1))), (a0 15, .inl (cy 1, 10, .inl (gnv.2.2.2.2.2.2.2.1))), (a0 16, .inl (cy 1, 10, .inl (gnv.2.2.2.2.2.2.2.2.1))), (a0 17, .inl (cy 1, 10, .inl (gnv.2.2.2.2.2.2.2.2.2.1))), (a0 18, .inl (cy 1, 50, .inl (gnv.2.2.2.2.2.2.2.2.2.2))), (a0 28, .inl (cy 1, 36, .inl (grc.2))), (a0 32, .inl (cy 1, 5, .inl (gim.2.2.2.1))), (a0 33, .inl (cy 1, 5, .inl (gim.2.2.2.2.1))), (a0 34, .inl (cy 1, 25, .inl (gim.2.2.2.2.2.1))), (a0 35, .inl (cy 1, 10, .inl (gim.2.2.2.2.2.2.1))), (a0 36, .inl (cy 1, 10, .inl (gim.2.2.2.2.2.2.2.1))), (a0 37, .inl (cy 1, 10, .inl (gim.2.2.2.2.2.2.2.2.1))), (a0 38, .inl (cy 1, 10, .inl (gim.2.2.2.2.2.2.2.2.2.1))), (a0 39, .inl (cy 1, 50, .inl (gim.2.2.2.2.2.2.2.2.2.2.1))), (a0 40, .inl (cy 1, 36, .inl (gim.2.2.2.2.2.2.2.2.2.2.2)))] 29 rfl rfl rfl rfl rfl (by decide +kernel) (by decide +kernel) rfl) (fun u H locs hw hP hD hS => ?_)
      have hw := hw.symm
      subst hw
      have hP : va_P (dC, dI) vwCl (w_X13_village cy a0 gth ((gnv.1, gnv.2.2.1, gnv.2.2.2.1, v4, v6, gvm.2.2.2.2.2)) gtt gtd gfl grf grd gnv gac grc gim) H := hP
      have hD : va_D A (w_X13_village cy a0 gth ((gnv.1, gnv.2.2.1, gnv.2.2.2.1, v4, v6, gvm.2.2.2.2.2)) gtt gtd gfl grf grd gnv gac grc gim) := hD
      refine lv_aload_n hx hb dX13_village_153 rfl (lv_at hl 0 rfl) ?_
      refine lv_aload_n hx hb dX13_village_154 rfl (lv_at hl 0 rfl) ?_
      refine va_get (D := (dC, dI)) (ci := 11) (v := .ref (a0 15)) (C := RX13) (T := TX13) (N := 64) hx hb hts in_X13 hown hK hP 0 rfl rfl 33 (by decide) lk14 (fun _ h9 => h9) rfl dX13_village_155 ?_
      refine lv_aload_n hx hb dX13_village_158 rfl (lv_at hl 0 rfl) ?_
      refine va_get (D := (dC, dI)) (ci := 11) (v := .ref (a0 6)) (C := RX13) (T := TX13) (N := 64) hx hb hts in_X13 hown hK hP 0 rfl rfl 9 (by decide) lk15 (fun _ h9 => h9) rfl dX13_village_159 ?_
      obtain ⟨v8, hv9, h⟩ := ok_bind h
      refine cl_vv (w2 := fun (u : ((Nat → Int32))) => w_X13_village cy a0 gth ((gnv.1, gnv.2.2.1, gnv.2.2.2.1, v4, v6, gvm.2.2.2.2.2.1, gvm.2.2.2.2.2.2.1, gvm.2.2.2.2.2.2.2.1, u, gvm.2.2.2.2.2.2.2.2.2)) gtt gtd gfl grf grd gnv gac grc gim) (As := [.ref (a0 15), .ref (a0 6)]) (rest := []) ⟨hx, hb, hml, hown, hts⟩ (c_X13_copies l dC dI cy a0 (fun k => a0 (k + 15)) (fun k => a0 (k + 6)) 10 10 gnv.2.2.2.2.2.2.2.1 gvm.2.2.2.2.2.2.2.2.1 H.size v8 hv9) (cwV 2 hts gX13_village_X13_copies rfl rfl rfl (by decide +kernel) ⟨Nat.le_of_ble_eq_true rfl, Nat.le_of_ble_eq_true rfl⟩) (va_recv hK hP (ci := 11) (q0 := 0) rfl rfl) cl_blind (cl_pre hK hP hD [15, 6] (by decide) rfl) hP hD hS hA [15, 6] rfl rfl hl.1 rfl (lv_room (Nat.le_of_ble_eq_true rfl)) dX13_village_162 ⟨Nat.le_of_ble_eq_true rfl, Nat.le_of_ble_eq_true rfl⟩ ⟨rfl, rfl⟩ (fun _ => updM [15, 6] [0, 1, 2, 3, 4, 5, 7, 8, 9, 10, 11, 12, 13, 14, 16, 17, 18, 19, 20, 21, 22, 23, 24, 25, 26, 27, 28] [(a0 0, .inr (11, [.int (gth), .int (gnv.1), .int (gnv.2.2.1), .int (gnv.2.2.2.1), .ref (a0 1), .ref (a0 2), .ref (a0 3), .ref (a0 4), .ref (a0 5), .ref (a0 6), .ref (a0 7), .ref (a0 8), .ref (a0 9), .ref (a0 10), .int (gtd), .int (gfl.1), .int (gfl.2), .ref (a0 11), .int (grd.1), .int (grd.2.1), .int (grd.2.2.1), .int (grd.2.2.2.1), .int (grd.2.2.2.2.1), .int (grd.2.2.2.2.2.1), .long (grd.2.2.2.2.2.2.1), .ref (a0 12), .int (gnv.1), .int (gnv.2.1), .int (gnv.2.2.1), .int (gnv.2.2.2.1), .int (gnv.2.2.2.2.1), .ref (a0 13), .ref (a0 14), .ref (a0 15), .ref (a0 16), .ref (a0 17), .ref (a0 18), .int (gac.1), .ref (a0 19), .ref (a0 20), .ref (a0 21), .ref (a0 22), .ref (a0 23), .ref (a0 24), .ref (a0 25), .ref (a0 26), .ref (a0 27), .int (grc.1), .ref (a0 28), .ref (a0 29), .ref (a0 30), .ref (a0 31), .int (gim.1), .int (gim.2.1), .int (gim.2.2.1), .ref (a0 32), .ref (a0 33), .ref (a0 34), .ref (a0 35), .ref (a0 36), .ref (a0 37), .ref (a0 38), .ref (a0 39), .ref (a0 40)])), (a0 1, .inl (cy 1, 5, .inl (v4))), (a0 2, .inl (cy 1, 5, .inl (v6))), (a0 3, .inl (cy 1, 5, .inl (gvm.2.2.2.2.2.1))), (a0 4, .inl (cy 1, 25, .inl (gvm.2.2.2.2.2.2.1))), (a0 5, .inl (cy 1, 10, .inl (gvm.2.2.2.2.2.2.2.1))), (a0 7, .inl (cy 1, 10, .inl (gvm.2.2.2.2.2.2.2.2.2.1))), (a0 8, .inl (cy 1, 10, .inl (gvm.2.2.2.2.2.2.2.2.2.2.1))), (a0 9, .inl (cy 1, 50, .inl (gvm.2.2.2.2.2.2.2.2.2.2.2))), (a0 10, .inl (cy 1, 600, .inl (gtt))), (a0 11, .inl (cy 1, 3, .inl (grf))), (a0 12, .inl (cy 1, 5, .inl (grd.2.2.2.2.2.2.2))), (a0 13, .inl (cy 1, 5, .inl (gnv.2.2.2.2.2.1))), (a0 14, .inl (cy 1, 5, .inl (gnv.2.2.2.2.2.2.1))), (a0 16, .inl (cy 1, 10, .inl (gnv.2.2.2.2.2.2.2.2.1))), (a0 17, .inl (cy 1, 10, .inl (gnv.2.2.2.2.2.2.2.2.2.1))), (a0 18, .inl (cy 1, 50, .inl (gnv.2.2.2.2.2.2.2.2.2.2))), (a0 28, .inl (cy 1, 36, .inl (grc.2))), (a0 32, .inl (cy 1, 5, .inl (gim.2.2.2.1))), (a0 33, .inl (cy 1, 5, .inl (gim.2.2.2.2.1))), (a0 34, .inl (cy 1, 25, .inl (gim.2.2.2.2.2.1))), (a0 35, .inl (cy 1, 10, .inl (gim.2.2.2.2.2.2.1))), (a0 36, .inl (cy 1, 10, .inl (gim.2.2.2.2.2.2.2.1))), (a0 37, .inl (cy 1, 10, .inl (gim.2.2.2.2.2.2.2.2.1))), (a0 38, .inl (cy 1, 10, .inl (gim.2.2.2.2.2.2.2.2.2.1))), (a0 39, .inl (cy 1, 50, .inl (gim.2.2.2.2.2.2.2.2.2.2.1))), (a0 40, .inl (cy 1, 36, .inl (gim.2.2.2.2.2.2.2.2.2.2.2)))] 29 rfl rfl rfl rfl rfl (by decide +kernel) (by decide +kernel) rfl) (fun u H locs hw hP hD hS => ?_)
      have hw := hw.symm
      subst hw
      have hP : va_P (dC, dI) vwCl (w_X13_village cy a0 gth ((gnv.1, gnv.2.2.1, gnv.2.2.2.1, v4, v6, gvm.2.2.2.2.2.1, gvm.2.2.2.2.2.2.1, gvm.2.2.2.2.2.2.2.1, v8, gvm.2.2.2.2.2.2.2.2.2)) gtt gtd gfl grf grd gnv gac grc gim) H := hP
      have hD : va_D A (w_X13_village cy a0 gth ((gnv.1, gnv.2.2.1, gnv.2.2.2.1, v4, v6, gvm.2.2.2.2.2.1, gvm.2.2.2.2.2.2.1, gvm.2.2.2.2.2.2.2.1, v8, gvm.2.2.2.2.2.2.2.2.2)) gtt gtd gfl grf grd gnv gac grc gim) := hD
      refine lv_aload_n hx hb dX13_village_165 rfl (lv_at hl 0 rfl) ?_
      refine lv_aload_n hx hb dX13_village_166 rfl (lv_at hl 0 rfl) ?_
      refine va_get (D := (dC, dI)) (ci := 11) (v := .ref (a0 16)) (C := RX13) (T := TX13) (N := 64) hx hb hts in_X13 hown hK hP 0 rfl rfl 34 (by decide) lk16 (fun _ h9 => h9) rfl dX13_village_167 ?_
      refine lv_aload_n hx hb dX13_village_170 rfl (lv_at hl 0 rfl) ?_
      refine va_get (D := (dC, dI)) (ci := 11) (v := .ref (a0 7)) (C := RX13) (T := TX13) (N := 64) hx hb hts in_X13 hown hK hP 0 rfl rfl 10 (by decide) lk17 (fun _ h9 => h9) rfl dX13_village_171 ?_
      obtain ⟨v10, hv11, h⟩ := ok_bind h
      refine cl_vv (w2 := fun (u : ((Nat → Int32))) => w_X13_village cy a0 gth ((gnv.1, gnv.2.2.1, gnv.2.2.2.1, v4, v6, gvm.2.2.2.2.2.1, gvm.2.2.2.2.2.2.1, gvm.2.2.2.2.2.2.2.1, v8, u, gvm.2.2.2.2.2.2.2.2.2.2)) gtt gtd gfl grf grd gnv gac grc gim) (As := [.ref (a0 16), .ref (a0 7)]) (rest := []) ⟨hx, hb, hml, hown, hts⟩ (c_X13_copies l dC dI cy a0 (fun k => a0 (k + 16)) (fun k => a0 (k + 7)) 10 10 gnv.2.2.2.2.2.2.2.2.1 gvm.2.2.2.2.2.2.2.2.2.1 H.size v10 hv11) (cwV 2 hts gX13_village_X13_copies rfl rfl rfl (by decide +kernel) ⟨Nat.le_of_ble_eq_true rfl, Nat.le_of_ble_eq_true rfl⟩) (va_recv hK hP (ci := 11) (q0 := 0) rfl rfl) cl_blind (cl_pre hK hP hD [16, 7] (by decide) rfl) hP hD hS hA [16, 7] rfl rfl hl.1 rfl (lv_room (Nat.le_of_ble_eq_true rfl)) dX13_village_174 ⟨Nat.le_of_ble_eq_true rfl, Nat.le_of_ble_eq_true rfl⟩ ⟨rfl, rfl⟩ (fun _ => updM [16, 7] [0, 1, 2, 3, 4, 5, 6, 8, 9, 10, 11, 12, 13, 14, 15, 17, 18, 19, 20, 21, 22, 23, 24, 25, 26, 27, 28] [(a0 0, .inr (11, [.int (gth), .int (gnv.1), .int (gnv.2.2.1), .int (gnv.2.2.2.1), .ref (a0 1), .ref (a0 2), .ref (a0 3), .ref (a0 4), .ref (a0 5), .ref (a0 6), .ref (a0 7), .ref (a0 8), .ref (a0 9), .ref (a0 10), .int (gtd), .int (gfl.1), .int (gfl.2), .ref (a0 11), .int (grd.1), .int (grd.2.1), .int (grd.2.2.1), .int (grd.2.2.2.1), .int (grd.2.2.2.2.1), .int (grd.2.2.2.2.2.1), .long (grd.2.2.2.2.2.2.1), .ref (a0 12), .int (gnv.1), .int (gnv.2.1), .int (gnv.2.2.1), .int (gnv.2.2.2.1), .int (gnv.2.2.2.2.1), .ref (a0 13), .ref (a0 14), .ref (a0 15), .ref (a0 16), .ref (a0 17), .ref (a0 18), .int (gac.1), .ref (a0 19), .ref (a0 20), .ref (a0 21), .ref (a0 22), .ref (a0 23), .ref (a0 24), .ref (a0 25), .ref (a0 26), .ref (a0 27), .int (grc.1), .ref (a0 28), .ref (a0 29), .ref (a0 30), .ref (a0 31), .int (gim.1), .int (gim.2.1), .int (gim.2.2.1), .ref (a0 32), .ref (a0 33), .ref (a0 34), .ref (a0 35), .ref (a0 36), .ref (a0 37), .ref (a0 38), .ref (a0 39), .ref (a0 40)])), (a0 1, .inl (cy 1, 5, .inl (v4))), (a0 2, .inl (cy 1, 5, .inl (v6))), (a0 3, .inl (cy 1, 5, .inl (gvm.2.2.2.2.2.1))), (a0 4, .inl (cy 1, 25, .inl (gvm.2.2.2.2.2.2.1))), (a0 5, .inl (cy 1, 10, .inl (gvm.2.2.2.2.2.2.2.1))), (a0 6, .inl (cy 1, 10, .inl (v8))), (a0 8, .inl (cy 1, 10, .inl (gvm.2.2.2.2.2.2.2.2.2.2.1))), (a0 9, .inl (cy 1, 50, .inl (gvm.2.2.2.2.2.2.2.2.2.2.2))), (a0 10, .inl (cy 1, 600, .inl (gtt))), (a0 11, .inl (cy 1, 3, .inl (grf))), (a0 12, .inl (cy 1, 5, .inl (grd.2.2.2.2.2.2.2))), (a0 13, .inl (cy 1, 5, .inl (gnv.2.2.2.2.2.1))), (a0 14, .inl (cy 1, 5, .inl (gnv.2.2.2.2.2.2.1))), (a0 15, .inl (cy 1, 10, .inl (gnv.2.2.2.2.2.2.2.1))), (a0 17, .inl (cy 1, 10, .inl (gnv.2.2.2.2.2.2.2.2.2.1))), (a0 18, .inl (cy 1, 50, .inl (gnv.2.2.2.2.2.2.2.2.2.2))), (a0 28, .inl (cy 1, 36, .inl (grc.2))), (a0 32, .inl (cy 1, 5, .inl (gim.2.2.2.1))), (a0 33, .inl (cy 1, 5, .inl (gim.2.2.2.2.1))), (a0 34, .inl (cy 1, 25, .inl (gim.2.2.2.2.2.1))), (a0 35, .inl (cy 1, 10, .inl (gim.2.2.2.2.2.2.1))), (a0 36, .inl (cy 1, 10, .inl (gim.2.2.2.2.2.2.2.1))), (a0 37, .inl (cy 1, 10, .inl (gim.2.2.2.2.2.2.2.2.1))), (a0 38, .inl (cy 1, 10, .inl (gim.2.2.2.2.2.2.2.2.2.1))), (a0 39, .inl (cy 1, 50, .inl (gim.2.2.2.2.2.2.2.2.2.2.1))), (a0 40, .inl (cy 1, 36, .inl (gim.2.2.2.2.2.2.2.2.2.2.2)))] 29 rfl rfl rfl rfl rfl (by decide +kernel) (by decide +kernel) rfl) (fun u H locs hw hP hD hS => ?_)
      have hw := hw.symm
      subst hw
      have hP : va_P (dC, dI) vwCl (w_X13_village cy a0 gth ((gnv.1, gnv.2.2.1, gnv.2.2.2.1, v4, v6, gvm.2.2.2.2.2.1, gvm.2.2.2.2.2.2.1, gvm.2.2.2.2.2.2.2.1, v8, v10, gvm.2.2.2.2.2.2.2.2.2.2)) gtt gtd gfl grf grd gnv gac grc gim) H := hP
      have hD : va_D A (w_X13_village cy a0 gth ((gnv.1, gnv.2.2.1, gnv.2.2.2.1, v4, v6, gvm.2.2.2.2.2.1, gvm.2.2.2.2.2.2.1, gvm.2.2.2.2.2.2.2.1, v8, v10, gvm.2.2.2.2.2.2.2.2.2.2)) gtt gtd gfl grf grd gnv gac grc gim) := hD
      refine lv_aload_n hx hb dX13_village_177 rfl (lv_at hl 0 rfl) ?_
      refine lv_aload_n hx hb dX13_village_178 rfl (lv_at hl 0 rfl) ?_
      refine va_get (D := (dC, dI)) (ci := 11) (v := .ref (a0 17)) (C := RX13) (T := TX13) (N := 64) hx hb hts in_X13 hown hK hP 0 rfl rfl 35 (by decide) lk18 (fun _ h9 => h9) rfl dX13_village_179 ?_
      refine lv_aload_n hx hb dX13_village_182 rfl (lv_at hl 0 rfl) ?_
      refine va_get (D := (dC, dI)) (ci := 11) (v := .ref (a0 8)) (C := RX13) (T := TX13) (N := 64) hx hb hts in_X13 hown hK hP 0 rfl rfl 11 (by decide) lk19 (fun _ h9 => h9) rfl dX13_village_183 ?_
      obtain ⟨v12, hv13, h⟩ := ok_bind h
      refine cl_vv (w2 := fun (u : ((Nat → Int32))) => w_X13_village cy a0 gth ((gnv.1, gnv.2.2.1, gnv.2.2.2.1, v4, v6, gvm.2.2.2.2.2.1, gvm.2.2.2.2.2.2.1, gvm.2.2.2.2.2.2.2.1, v8, v10, u, gvm.2.2.2.2.2.2.2.2.2.2.2)) gtt gtd gfl grf grd gnv gac grc gim) (As := [.ref (a0 17), .ref (a0 8)]) (rest := []) ⟨hx, hb, hml, hown, hts⟩ (c_X13_copies l dC dI cy a0 (fun k => a0 (k + 17)) (fun k => a0 (k + 8)) 10 10 gnv.2.2.2.2.2.2.2.2.2.1 gvm.2.2.2.2.2.2.2.2.2.2.1 H.size v12 hv13) (cwV 2 hts gX13_village_X13_copies rfl rfl rfl (by decide +kernel) ⟨Nat.le_of_ble_eq_true rfl, Nat.le_of_ble_eq_true rfl⟩) (va_recv hK hP (ci := 11) (q0 := 0) rfl rfl) cl_blind (cl_pre hK hP hD [17, 8] (by decide) rfl) hP hD hS hA [17, 8] rfl rfl hl.1 rfl (lv_room (Nat.le_of_ble_eq_true rfl)) dX13_village_186 ⟨Nat.le_of_ble_eq_true rfl, Nat.le_of_ble_eq_true rfl⟩ ⟨rfl, rfl⟩ (fun _ => updM [17, 8] [0, 1, 2, 3, 4, 5, 6, 7, 9, 10, 11, 12, 13, 14, 15, 16, 18, 19, 20, 21, 22, 23, 24, 25, 26, 27, 28] [(a0 0, .inr (11, [.int (gth), .int (gnv.1), .int (gnv.2.2.1), .int (gnv.2.2.2.1), .ref (a0 1), .ref (a0 2), .ref (a0 3), .ref (a0 4), .ref (a0 5), .ref (a0 6), .ref (a0 7), .ref (a0 8), .ref (a0 9), .ref (a0 10), .int (gtd), .int (gfl.1), .int (gfl.2), .ref (a0 11), .int (grd.1), .int (grd.2.1), .int (grd.2.2.1), .int (grd.2.2.2.1), .int (grd.2.2.2.2.1), .int (grd.2.2.2.2.2.1), .long (grd.2.2.2.2.2.2.1), .ref (a0 12), .int (gnv.1), .int (gnv.2.1), .int (gnv.2.2.1), .int (gnv.2.2.2.1), .int (gnv.2.2.2.2.1), .ref (a0 13), .ref (a0 14), .ref (a0 15), .ref (a0 16), .ref (a0 17), .ref (a0 18), .int (gac.1), .ref (a0 19), .ref (a0 20), .ref (a0 21), .ref (a0 22), .ref (a0 23), .ref (a0 24), .ref (a0 25), .ref (a0 26), .ref (a0 27), .int (grc.1), .ref (a0 28), .ref (a0 29), .ref (a0 30), .ref (a0 31), .int (gim.1), .int (gim.2.1), .int (gim.2.2.1), .ref (a0 32), .ref (a0 33), .ref (a0 34), .ref (a0 35), .ref (a0 36), .ref (a0 37), .ref (a0 38), .ref (a0 39), .ref (a0 40)])), (a0 1, .inl (cy 1, 5, .inl (v4))), (a0 2, .inl (cy 1, 5, .inl (v6))), (a0 3, .inl (cy 1, 5, .inl (gvm.2.2.2.2.2.1))), (a0 4, .inl (cy 1, 25, .inl (gvm.2.2.2.2.2.2.1))), (a0 5, .inl (cy 1, 10, .inl (gvm.2.2.2.2.2.2.2.1))), (a0 6, .inl (cy 1, 10, .inl (v8))), (a0 7, .inl (cy 1, 10, .inl (v10))), (a0 9, .inl (cy 1, 50, .inl (gvm.2.2.2.2.2.2.2.2.2.2.2))), (a0 10, .inl (cy 1, 600, .inl (gtt))), (a0 11, .inl (cy 1, 3, .inl (grf))), (a0 12, .inl (cy 1, 5, .inl (grd.2.2.2.2.2.2.2))), (a0 13, .inl (cy 1, 5, .inl (gnv.2.2.2.2.2.1))), (a0 14, .inl (cy 1, 5, .inl (gnv.2.2.2.2.2.2.1))), (a0 15, .inl (cy 1, 10, .inl (gnv.2.2.2.2.2.2.2.1))), (a0 16, .inl (cy 1, 10, .inl (gnv.2.2.2.2.2.2.2.2.1))), (a0 18, .inl (cy 1, 50, .inl (gnv.2.2.2.2.2.2.2.2.2.2))), (a0 28, .inl (cy 1, 36, .inl (grc.2))), (a0 32, .inl (cy 1, 5, .inl (gim.2.2.2.1))), (a0 33, .inl (cy 1, 5, .inl (gim.2.2.2.2.1))), (a0 34, .inl (cy 1, 25, .inl (gim.2.2.2.2.2.1))), (a0 35, .inl (cy 1, 10, .inl (gim.2.2.2.2.2.2.1))), (a0 36, .inl (cy 1, 10, .inl (gim.2.2.2.2.2.2.2.1))), (a0 37, .inl (cy 1, 10, .inl (gim.2.2.2.2.2.2.2.2.1))), (a0 38, .inl (cy 1, 10, .inl (gim.2.2.2.2.2.2.2.2.2.1))), (a0 39, .inl (cy 1, 50, .inl (gim.2.2.2.2.2.2.2.2.2.2.1))), (a0 40, .inl (cy 1, 36, .inl (gim.2.2.2.2.2.2.2.2.2.2.2)))] 29 rfl rfl rfl rfl rfl (by decide +kernel) (by decide +kernel) rfl) (fun u H locs hw hP hD hS => ?_)
      have hw := hw.symm
      subst hw
      have hP : va_P (dC, dI) vwCl (w_X13_village cy a0 gth ((gnv.1, gnv.2.2.1, gnv.2.2.2.1, v4, v6, gvm.2.2.2.2.2.1, gvm.2.2.2.2.2.2.1, gvm.2.2.2.2.2.2.2.1, v8, v10, v12, gvm.2.2.2.2.2.2.2.2.2.2.2)) gtt gtd gfl grf grd gnv gac grc gim) H := hP
      have hD : va_D A (w_X13_village cy a0 gth ((gnv.1, gnv.2.2.1, gnv.2.2.2.1, v4, v6, gvm.2.2.2.2.2.1, gvm.2.2.2.2.2.2.1, gvm.2.2.2.2.2.2.2.1, v8, v10, v12, gvm.2.2.2.2.2.2.2.2.2.2.2)) gtt gtd gfl grf grd gnv gac grc gim) := hD
      refine lv_aload_n hx hb dX13_village_189 rfl (lv_at hl 0 rfl) ?_
      refine lv_aload_n hx hb dX13_village_190 rfl (lv_at hl 0 rfl) ?_
      refine va_get (D := (dC, dI)) (ci := 11) (v := .ref (a0 18)) (C := RX13) (T := TX13) (N := 64) hx hb hts in_X13 hown hK hP 0 rfl rfl 36 (by decide) lk20 (fun _ h9 => h9) rfl dX13_village_191 ?_
      refine lv_aload_n hx hb dX13_village_194 rfl (lv_at hl 0 rfl) ?_
      refine va_get (D := (dC, dI)) (ci := 11) (v := .ref (a0 9)) (C := RX13) (T := TX13) (N := 64) hx hb hts in_X13 hown hK hP 0 rfl rfl 12 (by decide) lk21 (fun _ h9 => h9) rfl dX13_village_195 ?_
      obtain ⟨v14, hv15, h⟩ := ok_bind h
      refine cl_vv (w2 := fun (u : ((Nat → Int32))) => w_X13_village cy a0 gth ((gnv.1, gnv.2.2.1, gnv.2.2.2.1, v4, v6, gvm.2.2.2.2.2.1, gvm.2.2.2.2.2.2.1, gvm.2.2.2.2.2.2.2.1, v8, v10, v12, u)) gtt gtd gfl grf grd gnv gac grc gim) (As := [.ref (a0 18), .ref (a0 9)]) (rest := []) ⟨hx, hb, hml, hown, hts⟩ (c_X13_copies l dC dI cy a0 (fun k => a0 (k + 18)) (fun k => a0 (k + 9)) 50 50 gnv.2.2.2.2.2.2.2.2.2.2 gvm.2.2.2.2.2.2.2.2.2.2.2 H.size v14 hv15) (cwV 2 hts gX13_village_X13_copies rfl rfl rfl (by decide +kernel) ⟨Nat.le_of_ble_eq_true rfl, Nat.le_of_ble_eq_true rfl⟩) (va_recv hK hP (ci := 11) (q0 := 0) rfl rfl) cl_blind (cl_pre hK hP hD [18, 9] (by decide) rfl) hP hD hS hA [18, 9] rfl rfl hl.1 rfl (lv_room (Nat.le_of_ble_eq_true rfl)) dX13_village_198 ⟨Nat.le_of_ble_eq_true rfl, Nat.le_of_ble_eq_true rfl⟩ ⟨rfl, rfl⟩ (fun _ => updM [18, 9] [0, 1, 2, 3, 4, 5, 6, 7, 8, 10, 11, 12, 13, 14, 15, 16, 17, 19, 20, 21, 22, 23, 24, 25, 26, 27, 28] [(a0 0, .inr (11, [.int (gth), .int (gnv.1), .int (gnv.2.2.1), .int (gnv.2.2.2.1), .ref (a0 1), .ref (a0 2), .ref (a0 3), .ref (a0 4), .ref (a0 5), .ref (a0 6), .ref (a0 7), .ref (a0 8), .ref (a0 9), .ref (a0 10), .int (gtd), .int (gfl.1), .int (gfl.2), .ref (a0 11), .int (grd.1), .int (grd.2.1), .int (grd.2.2.1), .int (grd.2.2.2.1), .int (grd.2.2.2.2.1), .int (grd.2.2.2.2.2.1), .long (grd.2.2.2.2.2.2.1), .ref (a0 12), .int (gnv.1), .int (gnv.2.1), .int (gnv.2.2.1), .int (gnv.2.2.2.1), .int (gnv.2.2.2.2.1), .ref (a0 13), .ref (a0 14), .ref (a0 15), .ref (a0 16), .ref (a0 17), .ref (a0 18), .int (gac.1), .ref (a0 19), .ref (a0 20), .ref (a0 21), .ref (a0 22), .ref (a0 23), .ref (a0 24), .ref (a0 25), .ref (a0 26), .ref (a0 27), .int (grc.1), .ref (a0 28), .ref (a0 29), .ref (a0 30), .ref (a0 31), .int (gim.1), .int (gim.2.1), .int (gim.2.2.1), .ref (a0 32), .ref (a0 33), .ref (a0 34), .ref (a0 35), .ref (a0 36), .ref (a0 37), .ref (a0 38), .ref (a0 39), .ref (a0 40)])), (a0 1, .inl (cy 1, 5, .inl (v4))), (a0 2, .inl (cy 1, 5, .inl (v6))), (a0 3, .inl (cy 1, 5, .inl (gvm.2.2.2.2.2.1))), (a0 4, .inl (cy 1, 25, .inl (gvm.2.2.2.2.2.2.1))), (a0 5, .inl (cy 1, 10, .inl (gvm.2.2.2.2.2.2.2.1))), (a0 6, .inl (cy 1, 10, .inl (v8))), (a0 7, .inl (cy 1, 10, .inl (v10))), (a0 8, .inl (cy 1, 10, .inl (v12))), (a0 10, .inl (cy 1, 600, .inl (gtt))), (a0 11, .inl (cy 1, 3, .inl (grf))), (a0 12, .inl (cy 1, 5, .inl (grd.2.2.2.2.2.2.2))), (a0 13, .inl (cy 1, 5, .inl (gnv.2.2.2.2.2.1))), (a0 14, .inl (cy 1, 5, .inl (gnv.2.2.2.2.2.2.1))), (a0 15, .inl (cy 1, 10, .inl (gnv.2.2.2.2.2.2.2.1))), (a0 16, .inl (cy 1, 10, .inl (gnv.2.2.2.2.2.2.2.2.1))), (a0 17, .inl (cy 1, 10, .inl (gnv.2.2.2.2.2.2.2.2.2.1))), (a0 28, .inl (cy 1, 36, .inl (grc.2))), (a0 32, .inl (cy 1, 5, .inl (gim.2.2.2.1))), (a0 33, .inl (cy 1, 5, .inl (gim.2.2.2.2.1))), (a0 34, .inl (cy 1, 25, .inl (gim.2.2.2.2.2.1))), (a0 35, .inl (cy 1, 10, .inl (gim.2.2.2.2.2.2.1))), (a0 36, .inl (cy 1, 10, .inl (gim.2.2.2.2.2.2.2.1))), (a0 37, .inl (cy 1, 10, .inl (gim.2.2.2.2.2.2.2.2.1))), (a0 38, .inl (cy 1, 10, .inl (gim.2.2.2.2.2.2.2.2.2.1))), (a0 39, .inl (cy 1, 50, .inl (gim.2.2.2.2.2.2.2.2.2.2.1))), (a0 40, .inl (cy 1, 36, .inl (gim.2.2.2.2.2.2.2.2.2.2.2)))] 29 rfl rfl rfl rfl rfl (by decide +kernel) (by decide +kernel) rfl) (fun u H locs hw hP hD hS => ?_)
      have hw := hw.symm
      subst hw
      have hP : va_P (dC, dI) vwCl (w_X13_village cy a0 gth ((gnv.1, gnv.2.2.1, gnv.2.2.2.1, v4, v6, gvm.2.2.2.2.2.1, gvm.2.2.2.2.2.2.1, gvm.2.2.2.2.2.2.2.1, v8, v10, v12, v14)) gtt gtd gfl grf grd gnv gac grc gim) H := hP
      have hD : va_D A (w_X13_village cy a0 gth ((gnv.1, gnv.2.2.1, gnv.2.2.2.1, v4, v6, gvm.2.2.2.2.2.1, gvm.2.2.2.2.2.2.1, gvm.2.2.2.2.2.2.2.1, v8, v10, v12, v14)) gtt gtd gfl grf grd gnv gac grc gim) := hD
      refine lv_iconst (v := (0 : Int32)) hx hb dX13_village_201 (by decide) ?_
      refine lv_istore_n (lv' := [(2, .int (0 : Int32)), (0, .ref (a0 0))]) hx hb dX13_village_202 rfl hl (by decide) rfl (fun ls hl => ?_)
      exact c203 fu gth (gnv.1, gnv.2.2.1, gnv.2.2.2.1, v4, v6, gvm.2.2.2.2.2.1, gvm.2.2.2.2.2.2.1, gvm.2.2.2.2.2.2.2.1, v8, v10, v12, v14) gtd gfl grf grd gnv grc gim (0 : Int32) H locs ls h hP hD hS (lv_sub hl [1, 0] rfl)
    · rw [if_pos c3] at h
      refine lv_aload_n hx hb dX13_village_90 rfl (lv_at hl 0 rfl) ?_
      refine va_get (D := (dC, dI)) (ci := 11) (v := .ref (a0 11)) (C := RX13) (T := TX13) (N := 64) hx hb hts in_X13 hown hK hP 0 rfl rfl 17 (by decide) lk22 (fun _ h9 => h9) rfl dX13_village_91 ?_
      refine lv_iconst (v := (0 : Int32)) hx hb dX13_village_94 (by decide) ?_
      refine lv_dup2_11 hx hb dX13_village_95 rfl rfl ?_
      obtain ⟨hi16, h⟩ := ok_if h
      refine va_iald hx hb hK hP 11 1 rfl rfl (ix_in hi16) dX13_village_96 ?_
      refine lv_iconst (v := (1 : Int32)) hx hb dX13_village_97 (by decide) ?_
      refine lv_iadd hx hb dX13_village_98 ?_
      obtain ⟨hi17, h⟩ := ok_if h
      refine va_iast hx hb hK hP hD hS 11 1 rfl rfl (ix_in hi17) dX13_village_99 (fun H locs hP hD hS => ?_)
      have hP : va_P (dC, dI) vwCl (w_X13_village cy a0 gth gvm gtt gtd gfl ((upd grf (0 : Int32).toNatClampNeg ((grf (0 : Int32).toNatClampNeg) + (1 : Int32)))) grd gnv gac grc gim) H := hP
      have hD : va_D A (w_X13_village cy a0 gth gvm gtt gtd gfl ((upd grf (0 : Int32).toNatClampNeg ((grf (0 : Int32).toNatClampNeg) + (1 : Int32)))) grd gnv gac grc gim) := hD
      refine lv_aload_n hx hb dX13_village_100 rfl (lv_at hl 0 rfl) ?_
      refine va_get (D := (dC, dI)) (ci := 11) (v := .int gfl.1) (C := RX13) (T := TX13) (N := 64) hx hb hts in_X13 hown hK hP 0 rfl rfl 15 (by decide) lk23 (fun _ h9 => h9) rfl dX13_village_101 ?_
      exact W.iret (v := gfl.1) hx hb hr (fun t ht hW => by rw [hqq]; have hh := Option.some.inj h; exact ⟨⟨gfl.1, ((gth, gvm, gtd, gfl, (upd grf (0 : Int32).toNatClampNeg ((grf (0 : Int32).toNatClampNeg) + (1 : Int32))), grd, gnv, grc, gim)), rfl, ⟨fst_of hh, snd_of hh⟩, by rw [ht]; exact hP, va_K.moved hW.alike hK⟩, hS.F ht⟩) hS.2.2 dX13_village_104
  have c62 : ∀ (n : Nat), ∀ (gth : Int32) (gvm : Int32 × Int32 × Int32 × (Nat → Int32) × (Nat → Int32) × (Nat → Int32) × (Nat → Int32) × (Nat → Int32) × (Nat → Int32) × (Nat → Int32) × (Nat → Int32) × (Nat → Int32)) (gtd : Int32) (gfl : Int32 × Int32) (grf : (Nat → Int32)) (grd : Int32 × Int32 × Int32 × Int32 × Int32 × Int32 × Int64 × (Nat → Int32)) (gnv : Int32 × Int32 × Int32 × Int32 × Int32 × (Nat → Int32) × (Nat → Int32) × (Nat → Int32) × (Nat → Int32) × (Nat → Int32) × (Nat → Int32)) (grc : Int32 × (Nat → Int32)) (gim : Int32 × Int32 × Int32 × (Nat → Int32) × (Nat → Int32) × (Nat → Int32) × (Nat → Int32) × (Nat → Int32) × (Nat → Int32) × (Nat → Int32) × (Nat → Int32) × (Nat → Int32)) (H : Heap) (locs : List Loc) (ls : Array Slot), p_X13_village_62 gtt n gth gvm gtd gfl grf grd gnv grc gim = some R0 → va_P (dC, dI) vwCl (w_X13_village cy a0 gth gvm gtt gtd gfl grf grd gnv gac grc gim) H → va_D A (w_X13_village cy a0 gth gvm gtt gtd gfl grf grd gnv gac grc gim) → va_S A s.heap H locs → lv_has ls 3 [(0, .ref (a0 0))] → W p l e rm_X13_village s m aa below meth c H locs 0 0 (MQ below qq aa s 0 0 A) (F0 m 62 ls []) := by
    intro  n
    induction n with
    | zero => intro gth gvm gtd gfl grf grd gnv grc gim H locs ls h; exact no_some h
    | succ n ih =>
      intro gth gvm gtd gfl grf grd gnv grc gim H locs ls h hP hD hS hl
      rw [p_X13_village_62.eq_2] at h
      refine lv_aload_n hx hb dX13_village_62 rfl (lv_at hl 0 rfl) ?_
      obtain ⟨v1, hv2, h⟩ := ok_bind h
      refine cl_vi (w2 := fun (_ : Unit) => w_X13_village cy a0 gth gvm gtt gtd gfl grf grd gnv gac grc gim) (As := []) (rest := []) ⟨hx, hb, hml, hown, hts⟩ (c_X13_isGood l dC dI cy a0 gth gvm gtd gfl grd gnv gac grc gim H.size v1 hv2) (cwV 0 hts gX13_village_X13_isGood rfl rfl rfl (by decide +kernel) ⟨Nat.le_of_ble_eq_true rfl, Nat.le_of_ble_eq_true rfl⟩) (va_recv hK hP (ci := 11) (q0 := 0) rfl rfl) cl_blind (cl_pre hK hP hD [0] (by decide) rfl) hP hD hS hA [0] rfl rfl hl.1 rfl (lv_room (Nat.le_of_ble_eq_true rfl)) dX13_village_63 ⟨Nat.le_of_ble_eq_true rfl, Nat.le_of_ble_eq_true rfl⟩ ⟨rfl, rfl⟩ (fun _ => updR [0] rfl) (fun r u H locs hw hP hD hS => ?_)
      have hw := hw.symm
      subst hw
      have hP : va_P (dC, dI) vwCl (w_X13_village cy a0 gth gvm gtt gtd gfl grf grd gnv gac grc gim) H := hP
      have hD : va_D A (w_X13_village cy a0 gth gvm gtt gtd gfl grf grd gnv gac grc gim) := hD
      refine lv_if_eq (tgt := 83) hx hb dX13_village_66 (by decide) (fun c3 => ?_) (fun c3 => ?_)
      · rw [if_pos c3] at h
        exact c83 () gth gvm gtd gfl grf grd gnv grc gim H locs ls h hP hD hS (lv_sub hl [0] rfl)
      · rw [if_neg c3] at h
        refine lv_aload_n hx hb dX13_village_69 rfl (lv_at hl 0 rfl) ?_
        refine va_get (D := (dC, dI)) (ci := 11) (v := .int grd.2.2.1) (C := RX13) (T := TX13) (N := 64) hx hb hts in_X13 hown hK hP 0 rfl rfl 20 (by decide) lk24 (fun _ h9 => h9) rfl dX13_village_70 ?_
        refine lv_if_eq (tgt := 83) hx hb dX13_village_73 (by decide) (fun c4 => ?_) (fun c4 => ?_)
        · rw [if_pos c4] at h
          exact c83 () gth gvm gtd gfl grf grd gnv grc gim H locs ls h hP hD hS (lv_sub hl [0] rfl)
        · rw [if_neg c4] at h
          refine lv_aload_n hx hb dX13_village_76 rfl (lv_at hl 0 rfl) ?_
          obtain ⟨v5, hv6, h⟩ := ok_bind h
          refine cl_vv (w2 := fun (u : (Int32 × Int32) × (Int32 × Int32 × Int32 × Int32 × Int32 × Int32 × Int64 × (Nat → Int32)) × (Int32 × Int32 × Int32 × Int32 × Int32 × (Nat → Int32) × (Nat → Int32) × (Nat → Int32) × (Nat → Int32) × (Nat → Int32) × (Nat → Int32))) => w_X13_village cy a0 gth gvm gtt gtd u.1 grf u.2.1 u.2.2 gac grc gim) (As := []) (rest := []) ⟨hx, hb, hml, hown, hts⟩ (c_X13_line l dC dI cy a0 gth gvm gtt gtd gfl grd gnv gac grc gim H.size v5 hv6) (cwV 0 hts gX13_village_X13_line rfl rfl rfl (by decide +kernel) ⟨Nat.le_of_ble_eq_true rfl, Nat.le_of_ble_eq_true rfl⟩) (va_recv hK hP (ci := 11) (q0 := 0) rfl rfl) cl_blind (cl_pre hK hP hD [0, 10, 12, 13, 14, 15, 16, 17, 18] (by decide) rfl) hP hD hS hA [0, 10, 12, 13, 14, 15, 16, 17, 18] rfl rfl hl.1 rfl (lv_room (Nat.le_of_ble_eq_true rfl)) dX13_village_77 ⟨Nat.le_of_ble_eq_true rfl, Nat.le_of_ble_eq_true rfl⟩ ⟨rfl, rfl⟩ (fun _ => updM [0, 10, 12, 13, 14, 15, 16, 17, 18] [1, 2, 3, 4, 5, 6, 7, 8, 9, 11, 19, 20, 21, 22, 23, 24, 25, 26, 27, 28] [(a0 1, .inl (cy 1, 5, .inl (gvm.2.2.2.1))), (a0 2, .inl (cy 1, 5, .inl (gvm.2.2.2.2.1))), (a0 3, .inl (cy 1, 5, .inl (gvm.2.2.2.2.2.1))), (a0 4, .inl (cy 1, 25, .inl (gvm.2.2.2.2.2.2.1))), (a0 5, .inl (cy 1, 10, .inl (gvm.2.2.2.2.2.2.2.1))), (a0 6, .inl (cy 1, 10, .inl (gvm.2.2.2.2.2.2.2.2.1))), (a0 7, .inl (cy 1, 10, .inl (gvm.2.2.2.2.2.2.2.2.2.1))), (a0 8, .inl (cy 1, 10, .inl (gvm.2.2.2.2.2.2.2.2.2.2.1))), (a0 9, .inl (cy 1, 50, .inl (gvm.2.2.2.2.2.2.2.2.2.2.2))), (a0 11, .inl (cy 1, 3, .inl (grf))), (a0 28, .inl (cy 1, 36, .inl (grc.2))), (a0 32, .inl (cy 1, 5, .inl (gim.2.2.2.1))), (a0 33, .inl (cy 1, 5, .inl (gim.2.2.2.2.1))), (a0 34, .inl (cy 1, 25, .inl (gim.2.2.2.2.2.1))), (a0 35, .inl (cy 1, 10, .inl (gim.2.2.2.2.2.2.1))), (a0 36, .inl (cy 1, 10, .inl (gim.2.2.2.2.2.2.2.1))), (a0 37, .inl (cy 1, 10, .inl (gim.2.2.2.2.2.2.2.2.1))), (a0 38, .inl (cy 1, 10, .inl (gim.2.2.2.2.2.2.2.2.2.1))), (a0 39, .inl (cy 1, 50, .inl (gim.2.2.2.2.2.2.2.2.2.2.1))), (a0 40, .inl (cy 1, 36, .inl (gim.2.2.2.2.2.2.2.2.2.2.2)))] 29 rfl rfl rfl rfl rfl (by decide +kernel) (by decide +kernel) rfl) (fun u H locs hw hP hD hS => ?_)
          have hw := hw.symm
          subst hw
          have hP : va_P (dC, dI) vwCl (w_X13_village cy a0 gth gvm gtt gtd v5.1 grf v5.2.1 v5.2.2 gac grc gim) H := hP
          have hD : va_D A (w_X13_village cy a0 gth gvm gtt gtd v5.1 grf v5.2.1 v5.2.2 gac grc gim) := hD
          refine lv_goto (tgt := 62) hx hb dX13_village_80 (by decide) ?_
          exact ih gth gvm gtd v5.1 grf v5.2.1 v5.2.2 grc gim H locs ls h hP hD hS (lv_sub hl [0] rfl)
  have c23 : ∀ (_u : Unit), ∀ (gth : Int32) (gvm : Int32 × Int32 × Int32 × (Nat → Int32) × (Nat → Int32) × (Nat → Int32) × (Nat → Int32) × (Nat → Int32) × (Nat → Int32) × (Nat → Int32) × (Nat → Int32) × (Nat → Int32)) (gtd : Int32) (gfl : Int32 × Int32) (grf : (Nat → Int32)) (grd : Int32 × Int32 × Int32 × Int32 × Int32 × Int32 × Int64 × (Nat → Int32)) (gnv : Int32 × Int32 × Int32 × Int32 × Int32 × (Nat → Int32) × (Nat → Int32) × (Nat → Int32) × (Nat → Int32) × (Nat → Int32) × (Nat → Int32)) (grc : Int32 × (Nat → Int32)) (gim : Int32 × Int32 × Int32 × (Nat → Int32) × (Nat → Int32) × (Nat → Int32) × (Nat → Int32) × (Nat → Int32) × (Nat → Int32) × (Nat → Int32) × (Nat → Int32) × (Nat → Int32)) (x1 : Int32) (t1 : Int32) (H : Heap) (locs : List Loc) (ls : Array Slot), p_X13_village_23 gtt gth gvm gtd gfl grf grd gnv grc gim x1 t1 = some R0 → va_P (dC, dI) vwCl (w_X13_village cy a0 gth gvm gtt gtd gfl grf grd gnv gac grc gim) H → va_D A (w_X13_village cy a0 gth gvm gtt gtd gfl grf grd gnv gac grc gim) → va_S A s.heap H locs → lv_has ls 3 [(0, .ref (a0 0)), (1, .int x1)] → W p l e rm_X13_village s m aa below meth c H locs 0 0 (MQ below qq aa s 0 0 A) (F0 m 23 ls [.int t1, .ref (a0 0)]) := by
    intro _ gth gvm gtd gfl grf grd gnv grc gim x1 t1 H locs ls h hP hD hS hl
    unfold p_X13_village_23 at h
    refine lv_iconst (v := (1 : Int32)) hx hb dX13_village_23 (by decide) ?_
    obtain ⟨v1, hv2, h⟩ := ok_bind h
    refine cl_vi (w2 := fun (u : (Int32)) => w_X13_village cy a0 u gvm gtt gtd gfl grf grd gnv gac grc gim) (As := [.int t1, .int (1 : Int32)]) (rest := []) ⟨hx, hb, hml, hown, hts⟩ (c_X13_right l dC dI cy a0 gth gvm gtd gfl grd gnv gac grc gim t1 (1 : Int32) H.size v1 hv2) (cwV 2 hts gX13_village_X13_right rfl rfl rfl (by decide +kernel) ⟨Nat.le_of_ble_eq_true rfl, Nat.le_of_ble_eq_true rfl⟩) (va_recv hK hP (ci := 11) (q0 := 0) rfl rfl) cl_blind (cl_pre hK hP hD [0] (by decide) rfl) hP hD hS hA [0] rfl rfl hl.1 rfl (lv_room (Nat.le_of_ble_eq_true rfl)) dX13_village_24 ⟨Nat.le_of_ble_eq_true rfl, Nat.le_of_ble_eq_true rfl⟩ ⟨rfl, rfl⟩ (fun _ => updM [0] [1, 2, 3, 4, 5, 6, 7, 8, 9, 10, 11, 12, 13, 14, 15, 16, 17, 18, 19, 20, 21, 22, 23, 24, 25, 26, 27, 28] [(a0 1, .inl (cy 1, 5, .inl (gvm.2.2.2.1))), (a0 2, .inl (cy 1, 5, .inl (gvm.2.2.2.2.1))), (a0 3, .inl (cy 1, 5, .inl (gvm.2.2.2.2.2.1))), (a0 4, .inl (cy 1, 25, .inl (gvm.2.2.2.2.2.2.1))), (a0 5, .inl (cy 1, 10, .inl (gvm.2.2.2.2.2.2.2.1))), (a0 6, .inl (cy 1, 10, .inl (gvm.2.2.2.2.2.2.2.2.1))), (a0 7, .inl (cy 1, 10, .inl (gvm.2.2.2.2.2.2.2.2.2.1))), (a0 8, .inl (cy 1, 10, .inl (gvm.2.2.2.2.2.2.2.2.2.2.1))), (a0 9, .inl (cy 1, 50, .inl (gvm.2.2.2.2.2.2.2.2.2.2.2))), (a0 10, .inl (cy 1, 600, .inl (gtt))), (a0 11, .inl (cy 1, 3, .inl (grf))), (a0 12, .inl (cy 1, 5, .inl (grd.2.2.2.2.2.2.2))), (a0 13, .inl (cy 1, 5, .inl (gnv.2.2.2.2.2.1))), (a0 14, .inl (cy 1, 5, .inl (gnv.2.2.2.2.2.2.1))), (a0 15, .inl (cy 1, 10, .inl (gnv.2.2.2.2.2.2.2.1))), (a0 16, .inl (cy 1, 10, .inl (gnv.2.2.2.2.2.2.2.2.1))), (a0 17, .inl (cy 1, 10, .inl (gnv.2.2.2.2.2.2.2.2.2.1))), (a0 18, .inl (cy 1, 50, .inl (gnv.2.2.2.2.2.2.2.2.2.2))), (a0 28, .inl (cy 1, 36, .inl (grc.2))), (a0 32, .inl (cy 1, 5, .inl (gim.2.2.2.1))), (a0 33, .inl (cy 1, 5, .inl (gim.2.2.2.2.1))), (a0 34, .inl (cy 1, 25, .inl (gim.2.2.2.2.2.1))), (a0 35, .inl (cy 1, 10, .inl (gim.2.2.2.2.2.2.1))), (a0 36, .inl (cy 1, 10, .inl (gim.2.2.2.2.2.2.2.1))), (a0 37, .inl (cy 1, 10, .inl (gim.2.2.2.2.2.2.2.2.1))), (a0 38, .inl (cy 1, 10, .inl (gim.2.2.2.2.2.2.2.2.2.1))), (a0 39, .inl (cy 1, 50, .inl (gim.2.2.2.2.2.2.2.2.2.2.1))), (a0 40, .inl (cy 1, 36, .inl (gim.2.2.2.2.2.2.2.2.2.2.2)))] 29 rfl rfl rfl rfl rfl (by decide +kernel) (by decide +kernel) rfl) (fun r u H locs hw hP hD hS => ?_)
    obtain ⟨rfl, rfl⟩ := hw
    have hP : va_P (dC, dI) vwCl (w_X13_village cy a0 v1.2 gvm gtt gtd gfl grf grd gnv gac grc gim) H := hP
    have hD : va_D A (w_X13_village cy a0 v1.2 gvm gtt gtd gfl grf grd gnv gac grc gim) := hD
    refine lv_if_ne (tgt := 32) hx hb dX13_village_27 (by decide) (fun c3 => ?_) (fun c3 => ?_)
    · rw [if_neg c3] at h
      refine lv_aload_n hx hb dX13_village_32 rfl (lv_at hl 0 rfl) ?_
      refine lv_iconst (v := (0 : Int32)) hx hb dX13_village_33 (by decide) ?_
      refine va_put (D := (dC, dI)) (ci := 11) (v := .int (0 : Int32)) (ty := .int) (C := RX13) (T := TX13) (N := 64) hx hb hts in_X13 tyX13 tyX13_ok nmX13 hown hK hP hD hS 0 rfl rfl 26 (by decide) lk4 (fun _ h9 => h9) rfl (by decide +kernel) rfl rfl (Nat.le_of_ble_eq_true rfl) dX13_village_34 (fun H locs hP hD hS => ?_)
      have hP : va_P (dC, dI) vwCl (w_X13_village cy a0 v1.2 gvm gtt gtd gfl grf grd (((0 : Int32), gnv.2)) gac grc gim) H := hP
      have hD : va_D A (w_X13_village cy a0 v1.2 gvm gtt gtd gfl grf grd (((0 : Int32), gnv.2)) gac grc gim) := hD
      refine lv_aload_n hx hb dX13_village_37 rfl (lv_at hl 0 rfl) ?_
      refine lv_iconst (v := (0 : Int32)) hx hb dX13_village_38 (by decide) ?_
      refine va_put (D := (dC, dI)) (ci := 11) (v := .int (0 : Int32)) (ty := .int) (C := RX13) (T := TX13) (N := 64) hx hb hts in_X13 tyX13 tyX13_ok nmX13 hown hK hP hD hS 0 rfl rfl 27 (by decide) lk3 (fun _ h9 => h9) rfl (by decide +kernel) rfl rfl (Nat.le_of_ble_eq_true rfl) dX13_village_39 (fun H locs hP hD hS => ?_)
      have hP : va_P (dC, dI) vwCl (w_X13_village cy a0 v1.2 gvm gtt gtd gfl grf grd (((0 : Int32), (0 : Int32), gnv.2.2)) gac grc gim) H := hP
      have hD : va_D A (w_X13_village cy a0 v1.2 gvm gtt gtd gfl grf grd (((0 : Int32), (0 : Int32), gnv.2.2)) gac grc gim) := hD
      refine lv_aload_n hx hb dX13_village_42 rfl (lv_at hl 0 rfl) ?_
      refine lv_iconst (v := (0 : Int32)) hx hb dX13_village_43 (by decide) ?_
      refine va_put (D := (dC, dI)) (ci := 11) (v := .int (0 : Int32)) (ty := .int) (C := RX13) (T := TX13) (N := 64) hx hb hts in_X13 tyX13 tyX13_ok nmX13 hown hK hP hD hS 0 rfl rfl 28 (by decide) lk6 (fun _ h9 => h9) rfl (by decide +kernel) rfl rfl (Nat.le_of_ble_eq_true rfl) dX13_village_44 (fun H locs hP hD hS => ?_)
      have hP : va_P (dC, dI) vwCl (w_X13_village cy a0 v1.2 gvm gtt gtd gfl grf grd (((0 : Int32), (0 : Int32), (0 : Int32), gnv.2.2.2)) gac grc gim) H := hP
      have hD : va_D A (w_X13_village cy a0 v1.2 gvm gtt gtd gfl grf grd (((0 : Int32), (0 : Int32), (0 : Int32), gnv.2.2.2)) gac grc gim) := hD
      refine lv_aload_n hx hb dX13_village_47 rfl (lv_at hl 0 rfl) ?_
      refine lv_iconst (v := (0 : Int32)) hx hb dX13_village_48 (by decide) ?_
      refine va_put (D := (dC, dI)) (ci := 11) (v := .int (0 : Int32)) (ty := .int) (C := RX13) (T := TX13) (N := 64) hx hb hts in_X13 tyX13 tyX13_ok nmX13 hown hK hP hD hS 0 rfl rfl 29 (by decide) lk8 (fun _ h9 => h9) rfl (by decide +kernel) rfl rfl (Nat.le_of_ble_eq_true rfl) dX13_village_49 (fun H locs hP hD hS => ?_)
      have hP : va_P (dC, dI) vwCl (w_X13_village cy a0 v1.2 gvm gtt gtd gfl grf grd (((0 : Int32), (0 : Int32), (0 : Int32), (0 : Int32), gnv.2.2.2.2)) gac grc gim) H := hP
      have hD : va_D A (w_X13_village cy a0 v1.2 gvm gtt gtd gfl grf grd (((0 : Int32), (0 : Int32), (0 : Int32), (0 : Int32), gnv.2.2.2.2)) gac grc gim) := hD
      refine lv_aload_n hx hb dX13_village_52 rfl (lv_at hl 0 rfl) ?_
      refine lv_iconst (v := (0 : Int32)) hx hb dX13_village_53 (by decide) ?_
      refine va_put (D := (dC, dI)) (ci := 11) (v := .int (0 : Int32)) (ty := .boolean) (C := RX13) (T := TX13) (N := 64) hx hb hts in_X13 tyX13 tyX13_ok nmX13 hown hK hP hD hS 0 rfl rfl 30 (by decide) lk25 (fun _ h9 => h9) rfl (by decide +kernel) rfl rfl (Nat.le_of_ble_eq_true rfl) dX13_village_54 (fun H locs hP hD hS => ?_)
      have hP : va_P (dC, dI) vwCl (w_X13_village cy a0 v1.2 gvm gtt gtd gfl grf grd (((0 : Int32), (0 : Int32), (0 : Int32), (0 : Int32), (0 : Int32), gnv.2.2.2.2.2)) gac grc gim) H := hP
      have hD : va_D A (w_X13_village cy a0 v1.2 gvm gtt gtd gfl grf grd (((0 : Int32), (0 : Int32), (0 : Int32), (0 : Int32), (0 : Int32), gnv.2.2.2.2.2)) gac grc gim) := hD
      refine lv_aload_n hx hb dX13_village_57 rfl (lv_at hl 0 rfl) ?_
      refine lv_iload_n hx hb dX13_village_58 rfl (lv_at hl 1 rfl) ?_
      obtain ⟨v4, hv5, h⟩ := ok_bind h
      refine cl_vv (w2 := fun (u : (Int32) × (Int32 × Int32) × (Int32 × Int32 × Int32 × Int32 × Int32 × Int32 × Int64 × (Nat → Int32))) => w_X13_village cy a0 v1.2 gvm gtt u.1 u.2.1 grf u.2.2 (((0 : Int32), (0 : Int32), (0 : Int32), (0 : Int32), (0 : Int32), gnv.2.2.2.2.2)) gac grc gim) (As := [.int x1]) (rest := []) ⟨hx, hb, hml, hown, hts⟩ (c_X13_opens l dC dI cy a0 v1.2 gvm gtt gtd gfl grd ((0 : Int32), (0 : Int32), (0 : Int32), (0 : Int32), (0 : Int32), gnv.2.2.2.2.2) gac grc gim x1 H.size v4 hv5) (cwV 1 hts gX13_village_X13_opens rfl rfl rfl (by decide +kernel) ⟨Nat.le_of_ble_eq_true rfl, Nat.le_of_ble_eq_true rfl⟩) (va_recv hK hP (ci := 11) (q0 := 0) rfl rfl) cl_blind (cl_pre hK hP hD [0, 10, 12] (by decide) rfl) hP hD hS hA [0, 10, 12] rfl rfl hl.1 rfl (lv_room (Nat.le_of_ble_eq_true rfl)) dX13_village_59 ⟨Nat.le_of_ble_eq_true rfl, Nat.le_of_ble_eq_true rfl⟩ ⟨rfl, rfl⟩ (fun _ => updM [0, 10, 12] [1, 2, 3, 4, 5, 6, 7, 8, 9, 11, 13, 14, 15, 16, 17, 18, 19, 20, 21, 22, 23, 24, 25, 26, 27, 28] [(a0 1, .inl (cy 1, 5, .inl (gvm.2.2.2.1))), (a0 2, .inl (cy 1, 5, .inl (gvm.2.2.2.2.1))), (a0 3, .inl (cy 1, 5, .inl (gvm.2.2.2.2.2.1))), (a0 4, .inl (cy 1, 25, .inl (gvm.2.2.2.2.2.2.1))), (a0 5, .inl (cy 1, 10, .inl (gvm.2.2.2.2.2.2.2.1))), (a0 6, .inl (cy 1, 10, .inl (gvm.2.2.2.2.2.2.2.2.1))), (a0 7, .inl (cy 1, 10, .inl (gvm.2.2.2.2.2.2.2.2.2.1))), (a0 8, .inl (cy 1, 10, .inl (gvm.2.2.2.2.2.2.2.2.2.2.1))), (a0 9, .inl (cy 1, 50, .inl (gvm.2.2.2.2.2.2.2.2.2.2.2))), (a0 11, .inl (cy 1, 3, .inl (grf))), (a0 13, .inl (cy 1, 5, .inl (gnv.2.2.2.2.2.1))), (a0 14, .inl (cy 1, 5, .inl (gnv.2.2.2.2.2.2.1))), (a0 15, .inl (cy 1, 10, .inl (gnv.2.2.2.2.2.2.2.1))), (a0 16, .inl (cy 1, 10, .inl (gnv.2.2.2.2.2.2.2.2.1))), (a0 17, .inl (cy 1, 10, .inl (gnv.2.2.2.2.2.2.2.2.2.1))), (a0 18, .inl (cy 1, 50, .inl (gnv.2.2.2.2.2.2.2.2.2.2))), (a0 28, .inl (cy 1, 36, .inl (grc.2))), (a0 32, .inl (cy 1, 5, .inl (gim.2.2.2.1))), (a0 33, .inl (cy 1, 5, .inl (gim.2.2.2.2.1))), (a0 34, .inl (cy 1, 25, .inl (gim.2.2.2.2.2.1))), (a0 35, .inl (cy 1, 10, .inl (gim.2.2.2.2.2.2.1))), (a0 36, .inl (cy 1, 10, .inl (gim.2.2.2.2.2.2.2.1))), (a0 37, .inl (cy 1, 10, .inl (gim.2.2.2.2.2.2.2.2.1))), (a0 38, .inl (cy 1, 10, .inl (gim.2.2.2.2.2.2.2.2.2.1))), (a0 39, .inl (cy 1, 50, .inl (gim.2.2.2.2.2.2.2.2.2.2.1))), (a0 40, .inl (cy 1, 36, .inl (gim.2.2.2.2.2.2.2.2.2.2.2)))] 29 rfl rfl rfl rfl rfl (by decide +kernel) (by decide +kernel) rfl) (fun u H locs hw hP hD hS => ?_)
      have hw := hw.symm
      subst hw
      have hP : va_P (dC, dI) vwCl (w_X13_village cy a0 v1.2 gvm gtt v4.1 v4.2.1 grf v4.2.2 (((0 : Int32), (0 : Int32), (0 : Int32), (0 : Int32), (0 : Int32), gnv.2.2.2.2.2)) gac grc gim) H := hP
      have hD : va_D A (w_X13_village cy a0 v1.2 gvm gtt v4.1 v4.2.1 grf v4.2.2 (((0 : Int32), (0 : Int32), (0 : Int32), (0 : Int32), (0 : Int32), gnv.2.2.2.2.2)) gac grc gim) := hD
      exact c62 fu v1.2 gvm v4.1 v4.2.1 grf v4.2.2 ((0 : Int32), (0 : Int32), (0 : Int32), (0 : Int32), (0 : Int32), gnv.2.2.2.2.2) grc gim H locs ls h hP hD hS (lv_sub hl [0] rfl)
    · rw [if_pos c3] at h
      refine lv_iconst (v := (0 : Int32)) hx hb dX13_village_30 (by decide) ?_
      exact W.iret (v := (0 : Int32)) hx hb hr (fun t ht hW => by rw [hqq]; have hh := Option.some.inj h; exact ⟨⟨(0 : Int32), ((v1.2, gvm, gtd, gfl, grf, grd, gnv, grc, gim)), rfl, ⟨fst_of hh, snd_of hh⟩, by rw [ht]; exact hP, va_K.moved hW.alike hK⟩, hS.F ht⟩) hS.2.2 dX13_village_31
  have c22 : ∀ (_u : Unit), ∀ (gth : Int32) (gvm : Int32 × Int32 × Int32 × (Nat → Int32) × (Nat → Int32) × (Nat → Int32) × (Nat → Int32) × (Nat → Int32) × (Nat → Int32) × (Nat → Int32) × (Nat → Int32) × (Nat → Int32)) (gtd : Int32) (gfl : Int32 × Int32) (grf : (Nat → Int32)) (grd : Int32 × Int32 × Int32 × Int32 × Int32 × Int32 × Int64 × (Nat → Int32)) (gnv : Int32 × Int32 × Int32 × Int32 × Int32 × (Nat → Int32) × (Nat → Int32) × (Nat → Int32) × (Nat → Int32) × (Nat → Int32) × (Nat → Int32)) (grc : Int32 × (Nat → Int32)) (gim : Int32 × Int32 × Int32 × (Nat → Int32) × (Nat → Int32) × (Nat → Int32) × (Nat → Int32) × (Nat → Int32) × (Nat → Int32) × (Nat → Int32) × (Nat → Int32) × (Nat → Int32)) (x1 : Int32) (H : Heap) (locs : List Loc) (ls : Array Slot), p_X13_village_22 gtt gth gvm gtd gfl grf grd gnv grc gim x1 = some R0 → va_P (dC, dI) vwCl (w_X13_village cy a0 gth gvm gtt gtd gfl grf grd gnv gac grc gim) H → va_D A (w_X13_village cy a0 gth gvm gtt gtd gfl grf grd gnv gac grc gim) → va_S A s.heap H locs → lv_has ls 3 [(0, .ref (a0 0)), (1, .int x1)] → W p l e rm_X13_village s m aa below meth c H locs 0 0 (MQ below qq aa s 0 0 A) (F0 m 22 ls [.ref (a0 0)]) := by
    intro _ gth gvm gtd gfl grf grd gnv grc gim x1 H locs ls h hP hD hS hl
    unfold p_X13_village_22 at h
    refine lv_iconst (v := (0 : Int32)) hx hb dX13_village_22 (by decide) ?_
    exact c23 () gth gvm gtd gfl grf grd gnv grc gim x1 (0 : Int32) H locs ls h hP hD hS (lv_sub hl [0, 1] rfl)
  obtain ⟨H, hH⟩ : ∃ H : Heap, H = s.heap := ⟨_, rfl⟩
  obtain ⟨locs, hlocs⟩ : ∃ locs : List Loc, locs = [] := ⟨_, rfl⟩
  have hS : va_S A s.heap H locs := by rw [hH, hlocs]; exact hS
  rw [← hH] at hP
  suffices hg : W p l e rm_X13_village s m aa below meth c H locs 0 0 (MQ below qq aa s 0 0 A) (F0 m 0 ls []) by subst hH; subst hlocs; exact hg
  unfold p_X13_village at h
  refine lv_aload_n hx hb dX13_village_0 rfl (lv_at hl 0 rfl) ?_
  refine lv_iconst (v := (0 : Int32)) hx hb dX13_village_1 (by decide) ?_
  refine va_put (D := (dC, dI)) (ci := 11) (v := .int (0 : Int32)) (ty := .int) (C := RX13) (T := TX13) (N := 64) hx hb hts in_X13 tyX13 tyX13_ok nmX13 hown hK hP hD hS 0 rfl rfl 0 (by decide) lk26 (fun _ h9 => h9) rfl (by decide +kernel) rfl rfl (Nat.le_of_ble_eq_true rfl) dX13_village_2 (fun H locs hP hD hS => ?_)
  have hP : va_P (dC, dI) vwCl (w_X13_village cy a0 ((0 : Int32)) gvm gtt gtd gfl grf grd gnv gac grc gim) H := hP
  have hD : va_D A (w_X13_village cy a0 ((0 : Int32)) gvm gtt gtd gfl grf grd gnv gac grc gim) := hD
  refine lv_aload_n hx hb dX13_village_5 rfl (lv_at hl 0 rfl) ?_
  refine lv_iload_n hx hb dX13_village_6 rfl (lv_at hl 1 rfl) ?_
  refine lv_if_lt (tgt := 22) hx hb dX13_village_7 (by decide) (fun c1 => ?_) (fun c1 => ?_)
  · rw [if_pos c1] at h
    exact c22 () (0 : Int32) gvm gtd gfl grf grd gnv grc gim x1 H locs ls h hP hD hS (lv_sub hl [0, 1] rfl)
  · rw [if_neg c1] at h
    refine lv_iload_n hx hb dX13_village_10 rfl (lv_at hl 1 rfl) ?_
    refine lv_aload_n hx hb dX13_village_11 rfl (lv_at hl 0 rfl) ?_
    refine va_get (D := (dC, dI)) (ci := 11) (v := .int gtd) (C := RX13) (T := TX13) (N := 64) hx hb hts in_X13 hown hK hP 0 rfl rfl 14 (by decide) lk27 (fun _ h9 => h9) rfl dX13_village_12 ?_
    refine lv_icmp_gt (tgt := 22) hx hb dX13_village_15 (by decide) (fun c2 => ?_) (fun c2 => ?_)
    · rw [if_pos c2] at h
      exact c22 () (0 : Int32) gvm gtd gfl grf grd gnv grc gim x1 H locs ls h hP hD hS (lv_sub hl [0, 1] rfl)
    · rw [if_neg c2] at h
      refine lv_iconst (v := (1 : Int32)) hx hb dX13_village_18 (by decide) ?_
      refine lv_goto (tgt := 23) hx hb dX13_village_19 (by decide) ?_
      exact c23 () (0 : Int32) gvm gtd gfl grf grd gnv grc gim x1 (1 : Int32) H locs ls h hP hD hS (lv_sub hl [0, 1] rfl)

abbrev w_X13_fault (cy : Nat → ClassId) (a0 : Nat → Nat) (gth : Int32) (gvm : Int32 × Int32 × Int32 × (Nat → Int32) × (Nat → Int32) × (Nat → Int32) × (Nat → Int32) × (Nat → Int32) × (Nat → Int32) × (Nat → Int32) × (Nat → Int32) × (Nat → Int32)) (gtd : Int32) (gfl : Int32 × Int32) (grd : Int32 × Int32 × Int32 × Int32 × Int32 × Int32 × Int64 × (Nat → Int32)) (gnv : Int32 × Int32 × Int32 × Int32 × Int32 × (Nat → Int32) × (Nat → Int32) × (Nat → Int32) × (Nat → Int32) × (Nat → Int32) × (Nat → Int32)) (gac : Int32 × (Nat → Int32) × (Nat → Int32)) (grc : Int32 × (Nat → Int32)) (gim : Int32 × Int32 × Int32 × (Nat → Int32) × (Nat → Int32) × (Nat → Int32) × (Nat → Int32) × (Nat → Int32) × (Nat → Int32) × (Nat → Int32) × (Nat → Int32) × (Nat → Int32)) : va_W := [(a0 0, .inr (11, [.int (gth), .int (gvm.1), .int (gvm.2.1), .int (gvm.2.2.1), .ref (a0 1), .ref (a0 2), .ref (a0 3), .ref (a0 4), .ref (a0 5), .ref (a0 6), .ref (a0 7), .ref (a0 8), .ref (a0 9), .ref (a0 10), .int (gtd), .int (gfl.1), .int (gfl.2), .ref (a0 11), .int (grd.1), .int (grd.2.1), .int (grd.2.2.1), .int (grd.2.2.2.1), .int (grd.2.2.2.2.1), .int (grd.2.2.2.2.2.1), .long (grd.2.2.2.2.2.2.1), .ref (a0 12), .int (gnv.1), .int (gnv.2.1), .int (gnv.2.2.1), .int (gnv.2.2.2.1), .int (gnv.2.2.2.2.1), .ref (a0 13), .ref (a0 14), .ref (a0 15), .ref (a0 16), .ref (a0 17), .ref (a0 18), .int (gac.1), .ref (a0 19), .ref (a0 20), .ref (a0 21), .ref (a0 22), .ref (a0 23), .ref (a0 24), .ref (a0 25), .ref (a0 26), .ref (a0 27), .int (grc.1), .ref (a0 28), .ref (a0 29), .ref (a0 30), .ref (a0 31), .int (gim.1), .int (gim.2.1), .int (gim.2.2.1), .ref (a0 32), .ref (a0 33), .ref (a0 34), .ref (a0 35), .ref (a0 36), .ref (a0 37), .ref (a0 38), .ref (a0 39), .ref (a0 40)]))]
abbrev rm_X13_fault : Room := { frames := 0, cells := 0, slots := 0, locals := 0 }
set_option maxHeartbeats 1000000 in
set_option maxRecDepth 100000 in
theorem c_X13_fault (l : Launch) (dC : Nat → ClassId) (dI : Nat → Nat → Nat) (cy : Nat → ClassId) (a0 : Nat → Nat) (gth : Int32) (gvm : Int32 × Int32 × Int32 × (Nat → Int32) × (Nat → Int32) × (Nat → Int32) × (Nat → Int32) × (Nat → Int32) × (Nat → Int32) × (Nat → Int32) × (Nat → Int32) × (Nat → Int32)) (gtd : Int32) (gfl : Int32 × Int32) (grd : Int32 × Int32 × Int32 × Int32 × Int32 × Int32 × Int64 × (Nat → Int32)) (gnv : Int32 × Int32 × Int32 × Int32 × Int32 × (Nat → Int32) × (Nat → Int32) × (Nat → Int32) × (Nat → Int32) × (Nat → Int32) × (Nat → Int32)) (gac : Int32 × (Nat → Int32) × (Nat → Int32)) (grc : Int32 × (Nat → Int32)) (gim : Int32 × Int32 × Int32 × (Nat → Int32) × (Nat → Int32) × (Nat → Int32) × (Nat → Int32) × (Nat → Int32) × (Nat → Int32) × (Nat → Int32) × (Nat → Int32) × (Nat → Int32)) (sz : Nat) (R0 : Int32 × (Int32)) (h : p_X13_fault gth gfl = some R0) : Met l yX13_fault wsX13_fault rm_X13_fault (va_Pc [.ref (a0 0)] (prC dC dI cy (w_X13_fault cy a0 gth gvm gtd gfl grd gnv gac grc gim) sz)) (va_Qi (fun (r : Int32) (u : (Int32)) => r = R0.1 ∧ u = R0.2) (fun (u : (Int32)) t => poC dC dI cy (w_X13_fault cy a0 u gvm gtd gfl grd gnv gac grc gim) t) (va_A (w_X13_fault cy a0 gth gvm gtd gfl grd gnv gac grc gim) sz)) 0 0 (va_A (w_X13_fault cy a0 gth gvm gtd gfl grd gnv gac grc gim) sz) := by
  refine Met.ofW (cc := cX13_fault) (maxL := 1) (ret := (some .int)) (by decide) rfl ?_
  intro p e s m aa below meth c s₁ B hml hv
  obtain ⟨haa, hsz, hP, hK, hD0⟩ := hv
  have hx := B.exec
  have hb := B.bytes
  have hr := B.returns
  have hts := atoms_spec (ws := wsX13_fault) B.pre
  have hown : s.vm.findClass RX13 = some m.cls := findClass_of_methodNamed B.named
  have hlocks := B.notSynchronized
  subst hsz
  have hD := hD0.self (sz := s.heap.size)
  obtain ⟨qq, hqq⟩ : ∃ qq, qq = (va_Qi (fun (r : Int32) (u : (Int32)) => r = R0.1 ∧ u = R0.2) (fun (u : (Int32)) t => poC dC dI cy (w_X13_fault cy a0 u gvm gtd gfl grd gnv gac grc gim) t) (va_A (w_X13_fault cy a0 gth gvm gtd gfl grd gnv gac grc gim) s.heap.size)) := ⟨_, rfl⟩
  rw [← hqq]
  generalize hAe : va_A (w_X13_fault cy a0 gth gvm gtd gfl grd gnv gac grc gim) s.heap.size = A at hD hqq ⊢
  have hA : ∀ q : Nat, s.heap.size ≤ q → A q := fun q h => by rw [← hAe]; exact Or.inr h
  have hS : va_S A s.heap s.heap [] := va_S.rf
  have hl := lv_entry ([.ref (a0 0)]) (n := 1) (Nat.le_of_ble_eq_true rfl)
  have hE : entryFrame m aa 1 = F0 m 0 ((lg_sl ([.ref (a0 0)]) ++ List.replicate (1 - (lg_sl ([.ref (a0 0)])).length) Slot.unset).toArray) [] := by rw [haa]; exact lg_entry_eq m _ 1
  refine W.eq hE ?_
  generalize (lg_sl ([.ref (a0 0)]) ++ List.replicate (1 - (lg_sl ([.ref (a0 0)])).length) Slot.unset).toArray = ls at hl ⊢
  have hl : lv_has ls 1 [(0, .ref (a0 0))] := hl
  change W p l e rm_X13_fault s m aa below meth c s.heap [] 0 0 (MQ below qq aa s 0 0 A) (F0 m 0 ls [])
  have hS0 := hS
  have lk0 := hts (.fieldLink RX13 135 "GoatDoorsModel" "thrown" "I") (by decide +kernel)
  have lk1 := hts (.fieldLink RX13 40 "GoatDoorsModel" "faultPlace" "I") (by decide +kernel)
  have in_X13 : ∀ w ∈ wsX130, w ∈ wsX13_fault := by decide +kernel
  obtain ⟨H, hH⟩ : ∃ H : Heap, H = s.heap := ⟨_, rfl⟩
  obtain ⟨locs, hlocs⟩ : ∃ locs : List Loc, locs = [] := ⟨_, rfl⟩
  have hS : va_S A s.heap H locs := by rw [hH, hlocs]; exact hS
  rw [← hH] at hP
  suffices hg : W p l e rm_X13_fault s m aa below meth c H locs 0 0 (MQ below qq aa s 0 0 A) (F0 m 0 ls []) by subst hH; subst hlocs; exact hg
  unfold p_X13_fault at h
  refine lv_aload_n hx hb dX13_fault_0 rfl (lv_at hl 0 rfl) ?_
  refine lv_iconst (v := (0 : Int32)) hx hb dX13_fault_1 (by decide) ?_
  refine va_put (D := (dC, dI)) (ci := 11) (v := .int (0 : Int32)) (ty := .int) (C := RX13) (T := TX13) (N := 64) hx hb hts in_X13 tyX13 tyX13_ok nmX13 hown hK hP hD hS 0 rfl rfl 0 (by decide) lk0 (fun _ h9 => h9) rfl (by decide +kernel) rfl rfl (Nat.le_of_ble_eq_true rfl) dX13_fault_2 (fun H locs hP hD hS => ?_)
  have hP : va_P (dC, dI) vwCl (w_X13_fault cy a0 ((0 : Int32)) gvm gtd gfl grd gnv gac grc gim) H := hP
  have hD : va_D A (w_X13_fault cy a0 ((0 : Int32)) gvm gtd gfl grd gnv gac grc gim) := hD
  refine lv_aload_n hx hb dX13_fault_5 rfl (lv_at hl 0 rfl) ?_
  refine va_get (D := (dC, dI)) (ci := 11) (v := .int gfl.2) (C := RX13) (T := TX13) (N := 64) hx hb hts in_X13 hown hK hP 0 rfl rfl 16 (by decide) lk1 (fun _ h9 => h9) rfl dX13_fault_6 ?_
  exact W.iret (v := gfl.2) hx hb hr (fun t ht hW => by rw [hqq]; have hh := Option.some.inj h; exact ⟨⟨gfl.2, ((0 : Int32)), rfl, ⟨fst_of hh, snd_of hh⟩, by rw [ht]; exact hP, va_K.moved hW.alike hK⟩, hS.F ht⟩) hS.2.2 dX13_fault_9

abbrev w_X13_readsDay (cy : Nat → ClassId) (a0 : Nat → Nat) (gth : Int32) (gvm : Int32 × Int32 × Int32 × (Nat → Int32) × (Nat → Int32) × (Nat → Int32) × (Nat → Int32) × (Nat → Int32) × (Nat → Int32) × (Nat → Int32) × (Nat → Int32) × (Nat → Int32)) (gtt : (Nat → Int32)) (gtd : Int32) (gfl : Int32 × Int32) (grd : Int32 × Int32 × Int32 × Int32 × Int32 × Int32 × Int64 × (Nat → Int32)) (gnv : Int32 × Int32 × Int32 × Int32 × Int32 × (Nat → Int32) × (Nat → Int32) × (Nat → Int32) × (Nat → Int32) × (Nat → Int32) × (Nat → Int32)) (gac : Int32 × (Nat → Int32) × (Nat → Int32)) (grc : Int32 × (Nat → Int32)) (gim : Int32 × Int32 × Int32 × (Nat → Int32) × (Nat → Int32) × (Nat → Int32) × (Nat → Int32) × (Nat → Int32) × (Nat → Int32) × (Nat → Int32) × (Nat → Int32) × (Nat → Int32)) : va_W := [(a0 0, .inr (11, [.int (gth), .int (gvm.1), .int (gvm.2.1), .int (gvm.2.2.1), .ref (a0 1), .ref (a0 2), .ref (a0 3), .ref (a0 4), .ref (a0 5), .ref (a0 6), .ref (a0 7), .ref (a0 8), .ref (a0 9), .ref (a0 10), .int (gtd), .int (gfl.1), .int (gfl.2), .ref (a0 11), .int (grd.1), .int (grd.2.1), .int (grd.2.2.1), .int (grd.2.2.2.1), .int (grd.2.2.2.2.1), .int (grd.2.2.2.2.2.1), .long (grd.2.2.2.2.2.2.1), .ref (a0 12), .int (gnv.1), .int (gnv.2.1), .int (gnv.2.2.1), .int (gnv.2.2.2.1), .int (gnv.2.2.2.2.1), .ref (a0 13), .ref (a0 14), .ref (a0 15), .ref (a0 16), .ref (a0 17), .ref (a0 18), .int (gac.1), .ref (a0 19), .ref (a0 20), .ref (a0 21), .ref (a0 22), .ref (a0 23), .ref (a0 24), .ref (a0 25), .ref (a0 26), .ref (a0 27), .int (grc.1), .ref (a0 28), .ref (a0 29), .ref (a0 30), .ref (a0 31), .int (gim.1), .int (gim.2.1), .int (gim.2.2.1), .ref (a0 32), .ref (a0 33), .ref (a0 34), .ref (a0 35), .ref (a0 36), .ref (a0 37), .ref (a0 38), .ref (a0 39), .ref (a0 40)])), (a0 1, .inl (cy 1, 5, .inl (gvm.2.2.2.1))), (a0 2, .inl (cy 1, 5, .inl (gvm.2.2.2.2.1))), (a0 3, .inl (cy 1, 5, .inl (gvm.2.2.2.2.2.1))), (a0 4, .inl (cy 1, 25, .inl (gvm.2.2.2.2.2.2.1))), (a0 5, .inl (cy 1, 10, .inl (gvm.2.2.2.2.2.2.2.1))), (a0 6, .inl (cy 1, 10, .inl (gvm.2.2.2.2.2.2.2.2.1))), (a0 7, .inl (cy 1, 10, .inl (gvm.2.2.2.2.2.2.2.2.2.1))), (a0 8, .inl (cy 1, 10, .inl (gvm.2.2.2.2.2.2.2.2.2.2.1))), (a0 9, .inl (cy 1, 50, .inl (gvm.2.2.2.2.2.2.2.2.2.2.2))), (a0 10, .inl (cy 1, 600, .inl (gtt))), (a0 12, .inl (cy 1, 5, .inl (grd.2.2.2.2.2.2.2))), (a0 19, .inl (cy 1, 600, .inl (gac.2.1))), (a0 20, .inl (cy 1, 600, .inl (gac.2.2)))]
abbrev rm_X13_readsDay : Room := { frames := 3, cells := 0, slots := 0, locals := 70 }
set_option maxHeartbeats 1000000 in
set_option maxRecDepth 100000 in
theorem c_X13_readsDay (l : Launch) (dC : Nat → ClassId) (dI : Nat → Nat → Nat) (cy : Nat → ClassId) (a0 : Nat → Nat) (gth : Int32) (gvm : Int32 × Int32 × Int32 × (Nat → Int32) × (Nat → Int32) × (Nat → Int32) × (Nat → Int32) × (Nat → Int32) × (Nat → Int32) × (Nat → Int32) × (Nat → Int32) × (Nat → Int32)) (gtt : (Nat → Int32)) (gtd : Int32) (gfl : Int32 × Int32) (grd : Int32 × Int32 × Int32 × Int32 × Int32 × Int32 × Int64 × (Nat → Int32)) (gnv : Int32 × Int32 × Int32 × Int32 × Int32 × (Nat → Int32) × (Nat → Int32) × (Nat → Int32) × (Nat → Int32) × (Nat → Int32) × (Nat → Int32)) (gac : Int32 × (Nat → Int32) × (Nat → Int32)) (grc : Int32 × (Nat → Int32)) (gim : Int32 × Int32 × Int32 × (Nat → Int32) × (Nat → Int32) × (Nat → Int32) × (Nat → Int32) × (Nat → Int32) × (Nat → Int32) × (Nat → Int32) × (Nat → Int32) × (Nat → Int32)) (sz : Nat) (R0 : (Int32 × Int32) × (Int32 × Int32 × Int32 × Int32 × Int32 × Int32 × Int64 × (Nat → Int32)) × (Int32 × (Nat → Int32) × (Nat → Int32))) (h : p_X13_readsDay gvm gtt gfl grd gac = some R0) : Met l yX13_readsDay wsX13_readsDay rm_X13_readsDay (va_Pc [.ref (a0 0)] (prC dC dI cy (w_X13_readsDay cy a0 gth gvm gtt gtd gfl grd gnv gac grc gim) sz)) (va_Qv (fun (u : (Int32 × Int32) × (Int32 × Int32 × Int32 × Int32 × Int32 × Int32 × Int64 × (Nat → Int32)) × (Int32 × (Nat → Int32) × (Nat → Int32))) => u = R0) (fun (u : (Int32 × Int32) × (Int32 × Int32 × Int32 × Int32 × Int32 × Int32 × Int64 × (Nat → Int32)) × (Int32 × (Nat → Int32) × (Nat → Int32))) t => poC dC dI cy (w_X13_readsDay cy a0 gth gvm gtt gtd u.1 u.2.1 gnv u.2.2 grc gim) t) (va_A (w_X13_readsDay cy a0 gth gvm gtt gtd gfl grd gnv gac grc gim) sz)) 0 0 (va_A (w_X13_readsDay cy a0 gth gvm gtt gtd gfl grd gnv gac grc gim) sz) := by
  refine Met.ofW (cc := cX13_readsDay) (maxL := 3) (ret := none) (by decide) rfl ?_
  intro p e s m aa below meth c s₁ B hml hv
  obtain ⟨haa, hsz, hP, hK, hD0⟩ := hv
  have hx := B.exec
  have hb := B.bytes
  have hr := B.returns
  have hts := atoms_spec (ws := wsX13_readsDay) B.pre
  have hown : s.vm.findClass RX13 = some m.cls := findClass_of_methodNamed B.named
  have hlocks := B.notSynchronized
  subst hsz
  have hD := hD0.self (sz := s.heap.size)
  obtain ⟨qq, hqq⟩ : ∃ qq, qq = (va_Qv (fun (u : (Int32 × Int32) × (Int32 × Int32 × Int32 × Int32 × Int32 × Int32 × Int64 × (Nat → Int32)) × (Int32 × (Nat → Int32) × (Nat → Int32))) => u = R0) (fun (u : (Int32 × Int32) × (Int32 × Int32 × Int32 × Int32 × Int32 × Int32 × Int64 × (Nat → Int32)) × (Int32 × (Nat → Int32) × (Nat → Int32))) t => poC dC dI cy (w_X13_readsDay cy a0 gth gvm gtt gtd u.1 u.2.1 gnv u.2.2 grc gim) t) (va_A (w_X13_readsDay cy a0 gth gvm gtt gtd gfl grd gnv gac grc gim) s.heap.size)) := ⟨_, rfl⟩
  rw [← hqq]
  generalize hAe : va_A (w_X13_readsDay cy a0 gth gvm gtt gtd gfl grd gnv gac grc gim) s.heap.size = A at hD hqq ⊢
  have hA : ∀ q : Nat, s.heap.size ≤ q → A q := fun q h => by rw [← hAe]; exact Or.inr h
  have hS : va_S A s.heap s.heap [] := va_S.rf
  have hl := lv_entry ([.ref (a0 0)]) (n := 3) (Nat.le_of_ble_eq_true rfl)
  have hE : entryFrame m aa 3 = F0 m 0 ((lg_sl ([.ref (a0 0)]) ++ List.replicate (3 - (lg_sl ([.ref (a0 0)])).length) Slot.unset).toArray) [] := by rw [haa]; exact lg_entry_eq m _ 3
  refine W.eq hE ?_
  generalize (lg_sl ([.ref (a0 0)]) ++ List.replicate (3 - (lg_sl ([.ref (a0 0)])).length) Slot.unset).toArray = ls at hl ⊢
  have hl : lv_has ls 3 [(0, .ref (a0 0))] := hl
  change W p l e rm_X13_readsDay s m aa below meth c s.heap [] 0 0 (MQ below qq aa s 0 0 A) (F0 m 0 ls [])
  have hS0 := hS
  have lk0 := hts (.fieldLink RX13 267 "GoatDoorsModel" "acts" "I") (by decide +kernel)
  have lk1 := hts (.fieldLink RX13 165 "GoatDoorsModel" "sort" "I") (by decide +kernel)
  have lk2 := hts (.fieldLink RX13 68 "GoatDoorsModel" "act" "[I") (by decide +kernel)
  have lk3 := hts (.fieldLink RX13 71 "GoatDoorsModel" "actFigure" "[I") (by decide +kernel)
  have lk4 := hts (.fieldLink RX13 245 "GoatDoorsModel" "owners" "I") (by decide +kernel)
  have in_X13 : ∀ w ∈ wsX130, w ∈ wsX13_readsDay := by decide +kernel
  have c273 : ∀ (_u : Unit), ∀ (gfl : Int32 × Int32) (grd : Int32 × Int32 × Int32 × Int32 × Int32 × Int32 × Int64 × (Nat → Int32)) (gac : Int32 × (Nat → Int32) × (Nat → Int32)) (t1 : Int32) (H : Heap) (locs : List Loc) (ls : Array Slot), p_X13_readsDay_273 gvm gtt gfl grd gac t1 = some R0 → va_P (dC, dI) vwCl (w_X13_readsDay cy a0 gth gvm gtt gtd gfl grd gnv gac grc gim) H → va_D A (w_X13_readsDay cy a0 gth gvm gtt gtd gfl grd gnv gac grc gim) → va_S A s.heap H locs → lv_has ls 3 [(0, .ref (a0 0))] → W p l e rm_X13_readsDay s m aa below meth c H locs 0 0 (MQ below qq aa s 0 0 A) (F0 m 273 ls [.int t1, .ref (a0 0)]) := by
    intro _ gfl grd gac t1 H locs ls h hP hD hS hl
    unfold p_X13_readsDay_273 at h
    obtain ⟨v1, hv2, h⟩ := ok_bind h
    refine cl_vv (w2 := fun (u : (Int32 × Int32) × (Int32 × Int32 × Int32 × Int32 × Int32 × Int32 × Int64 × (Nat → Int32))) => w_X13_readsDay cy a0 gth gvm gtt gtd u.1 u.2 gnv gac grc gim) (As := [.int t1]) (rest := []) ⟨hx, hb, hml, hown, hts⟩ (c_X13_need l dC dI cy a0 gth gvm gtt gtd gfl grd gnv gac grc gim t1 H.size v1 hv2) (cwV 1 hts gX13_readsDay_X13_need rfl rfl rfl (by decide +kernel) ⟨Nat.le_of_ble_eq_true rfl, Nat.le_of_ble_eq_true rfl⟩) (va_recv hK hP (ci := 11) (q0 := 0) rfl rfl) cl_blind (cl_pre hK hP hD [0, 10, 11] (by decide) rfl) hP hD hS hA [0, 10, 11] rfl rfl hl.1 rfl (lv_room (Nat.le_of_ble_eq_true rfl)) dX13_readsDay_273 ⟨Nat.le_of_ble_eq_true rfl, Nat.le_of_ble_eq_true rfl⟩ ⟨rfl, rfl⟩ (fun _ => updM [0, 10, 11] [1, 2, 3, 4, 5, 6, 7, 8, 9, 12, 13] [(a0 1, .inl (cy 1, 5, .inl (gvm.2.2.2.1))), (a0 2, .inl (cy 1, 5, .inl (gvm.2.2.2.2.1))), (a0 3, .inl (cy 1, 5, .inl (gvm.2.2.2.2.2.1))), (a0 4, .inl (cy 1, 25, .inl (gvm.2.2.2.2.2.2.1))), (a0 5, .inl (cy 1, 10, .inl (gvm.2.2.2.2.2.2.2.1))), (a0 6, .inl (cy 1, 10, .inl (gvm.2.2.2.2.2.2.2.2.1))), (a0 7, .inl (cy 1, 10, .inl (gvm.2.2.2.2.2.2.2.2.2.1))), (a0 8, .inl (cy 1, 10, .inl (gvm.2.2.2.2.2.2.2.2.2.2.1))), (a0 9, .inl (cy 1, 50, .inl (gvm.2.2.2.2.2.2.2.2.2.2.2))), (a0 19, .inl (cy 1, 600, .inl (gac.2.1))), (a0 20, .inl (cy 1, 600, .inl (gac.2.2)))] 14 rfl rfl rfl rfl rfl (by decide +kernel) (by decide +kernel) rfl) (fun u H locs hw hP hD hS => ?_)
    have hw := hw.symm
    subst hw
    have hP : va_P (dC, dI) vwCl (w_X13_readsDay cy a0 gth gvm gtt gtd v1.1 v1.2 gnv gac grc gim) H := hP
    have hD : va_D A (w_X13_readsDay cy a0 gth gvm gtt gtd v1.1 v1.2 gnv gac grc gim) := hD
    refine lv_aload_n hx hb dX13_readsDay_276 rfl (lv_at hl 0 rfl) ?_
    obtain ⟨v3, hv4, h⟩ := ok_bind h
    refine cl_vi (w2 := fun (_ : Unit) => w_X13_readsDay cy a0 gth gvm gtt gtd v1.1 v1.2 gnv gac grc gim) (As := []) (rest := []) ⟨hx, hb, hml, hown, hts⟩ (c_X13_isGood l dC dI cy a0 gth gvm gtd v1.1 v1.2 gnv gac grc gim H.size v3 hv4) (cwV 0 hts gX13_readsDay_X13_isGood rfl rfl rfl (by decide +kernel) ⟨Nat.le_of_ble_eq_true rfl, Nat.le_of_ble_eq_true rfl⟩) (va_recv hK hP (ci := 11) (q0 := 0) rfl rfl) cl_blind (cl_pre hK hP hD [0] (by decide) rfl) hP hD hS hA [0] rfl rfl hl.1 rfl (lv_room (Nat.le_of_ble_eq_true rfl)) dX13_readsDay_277 ⟨Nat.le_of_ble_eq_true rfl, Nat.le_of_ble_eq_true rfl⟩ ⟨rfl, rfl⟩ (fun _ => updR [0] rfl) (fun r u H locs hw hP hD hS => ?_)
    have hw := hw.symm
    subst hw
    have hP : va_P (dC, dI) vwCl (w_X13_readsDay cy a0 gth gvm gtt gtd v1.1 v1.2 gnv gac grc gim) H := hP
    have hD : va_D A (w_X13_readsDay cy a0 gth gvm gtt gtd v1.1 v1.2 gnv gac grc gim) := hD
    refine lv_if_eq (tgt := 293) hx hb dX13_readsDay_280 (by decide) (fun c5 => ?_) (fun c5 => ?_)
    · rw [if_pos c5] at h
      exact W.vret hx hb hr (fun t ht hW => by rw [hqq]; have hh := Option.some.inj h; exact ⟨⟨((v1.1, v1.2, gac)), rfl, Option.some.inj h, by rw [ht]; exact hP, va_K.moved hW.alike hK⟩, hS.F ht⟩) hS.2.2 dX13_readsDay_293
    · rw [if_neg c5] at h
      refine lv_aload_n hx hb dX13_readsDay_283 rfl (lv_at hl 0 rfl) ?_
      refine lv_dup hx hb dX13_readsDay_284 rfl ?_
      refine va_get (D := (dC, dI)) (ci := 11) (v := .int gac.1) (C := RX13) (T := TX13) (N := 64) hx hb hts in_X13 hown hK hP 0 rfl rfl 37 (by decide) lk0 (fun _ h9 => h9) rfl dX13_readsDay_285 ?_
      refine lv_iconst (v := (1 : Int32)) hx hb dX13_readsDay_288 (by decide) ?_
      refine lv_iadd hx hb dX13_readsDay_289 ?_
      refine va_put (D := (dC, dI)) (ci := 11) (v := .int (gac.1 + (1 : Int32))) (ty := .int) (C := RX13) (T := TX13) (N := 64) hx hb hts in_X13 tyX13 tyX13_ok nmX13 hown hK hP hD hS 0 rfl rfl 37 (by decide) lk0 (fun _ h9 => h9) rfl (by decide +kernel) rfl rfl (Nat.le_of_ble_eq_true rfl) dX13_readsDay_290 (fun H locs hP hD hS => ?_)
      have hP : va_P (dC, dI) vwCl (w_X13_readsDay cy a0 gth gvm gtt gtd v1.1 v1.2 gnv (((gac.1 + (1 : Int32)), gac.2)) grc gim) H := hP
      have hD : va_D A (w_X13_readsDay cy a0 gth gvm gtt gtd v1.1 v1.2 gnv (((gac.1 + (1 : Int32)), gac.2)) grc gim) := hD
      exact W.vret hx hb hr (fun t ht hW => by rw [hqq]; have hh := Option.some.inj h; exact ⟨⟨((v1.1, v1.2, ((gac.1 + (1 : Int32)), gac.2))), rfl, Option.some.inj h, by rw [ht]; exact hP, va_K.moved hW.alike hK⟩, hS.F ht⟩) hS.2.2 dX13_readsDay_293
  have c259 : ∀ (_u : Unit), ∀ (gfl : Int32 × Int32) (grd : Int32 × Int32 × Int32 × Int32 × Int32 × Int32 × Int64 × (Nat → Int32)) (gac : Int32 × (Nat → Int32) × (Nat → Int32)) (H : Heap) (locs : List Loc) (ls : Array Slot), p_X13_readsDay_259 gvm gtt gfl grd gac = some R0 → va_P (dC, dI) vwCl (w_X13_readsDay cy a0 gth gvm gtt gtd gfl grd gnv gac grc gim) H → va_D A (w_X13_readsDay cy a0 gth gvm gtt gtd gfl grd gnv gac grc gim) → va_S A s.heap H locs → lv_has ls 3 [(0, .ref (a0 0))] → W p l e rm_X13_readsDay s m aa below meth c H locs 0 0 (MQ below qq aa s 0 0 A) (F0 m 259 ls []) := by
    intro _ gfl grd gac H locs ls h hP hD hS hl
    unfold p_X13_readsDay_259 at h
    refine lv_aload_n hx hb dX13_readsDay_259 rfl (lv_at hl 0 rfl) ?_
    refine lv_aload_n hx hb dX13_readsDay_260 rfl (lv_at hl 0 rfl) ?_
    refine va_get (D := (dC, dI)) (ci := 11) (v := .int grd.2.2.1) (C := RX13) (T := TX13) (N := 64) hx hb hts in_X13 hown hK hP 0 rfl rfl 20 (by decide) lk1 (fun _ h9 => h9) rfl dX13_readsDay_261 ?_
    refine lv_iconst (v := (4 : Int32)) hx hb dX13_readsDay_264 (by decide) ?_
    refine lv_icmp_ne (tgt := 272) hx hb dX13_readsDay_265 (by decide) (fun c1 => ?_) (fun c1 => ?_)
    · rw [if_neg c1] at h
      refine lv_iconst (v := (0 : Int32)) hx hb dX13_readsDay_272 (by decide) ?_
      exact c273 () gfl grd gac (0 : Int32) H locs ls h hP hD hS (lv_sub hl [0] rfl)
    · rw [if_pos c1] at h
      refine lv_iconst (v := (1 : Int32)) hx hb dX13_readsDay_268 (by decide) ?_
      refine lv_goto (tgt := 273) hx hb dX13_readsDay_269 (by decide) ?_
      exact c273 () gfl grd gac (1 : Int32) H locs ls h hP hD hS (lv_sub hl [0] rfl)
  have c253 : ∀ (_u : Unit), ∀ (gfl : Int32 × Int32) (grd : Int32 × Int32 × Int32 × Int32 × Int32 × Int32 × Int64 × (Nat → Int32)) (gac : Int32 × (Nat → Int32) × (Nat → Int32)) (t1 : Int32) (t3 : Int32) (H : Heap) (locs : List Loc) (ls : Array Slot), p_X13_readsDay_253 gvm gtt gfl grd gac t1 t3 = some R0 → va_P (dC, dI) vwCl (w_X13_readsDay cy a0 gth gvm gtt gtd gfl grd gnv gac grc gim) H → va_D A (w_X13_readsDay cy a0 gth gvm gtt gtd gfl grd gnv gac grc gim) → va_S A s.heap H locs → lv_has ls 3 [(0, .ref (a0 0))] → W p l e rm_X13_readsDay s m aa below meth c H locs 0 0 (MQ below qq aa s 0 0 A) (F0 m 253 ls [.int t3, .ref (a0 0), .int t1, .ref (a0 19)]) := by
    intro _ gfl grd gac t1 t3 H locs ls h hP hD hS hl
    unfold p_X13_readsDay_253 at h
    refine lv_bipush (v := (20 : Int32)) hx hb dX13_readsDay_253 (by decide) ?_
    obtain ⟨v1, hv2, h⟩ := ok_bind h
    refine cl_vi (w2 := fun (u : (Int32 × Int32) × (Int32 × Int32 × Int32 × Int32 × Int32 × Int32 × Int64 × (Nat → Int32))) => w_X13_readsDay cy a0 gth gvm gtt gtd u.1 u.2 gnv gac grc gim) (As := [.int t3, .int (20 : Int32)]) (rest := [.int t1, .ref (a0 19)]) ⟨hx, hb, hml, hown, hts⟩ (c_X13_number l dC dI cy a0 gth gvm gtt gtd gfl grd gnv gac grc gim t3 (20 : Int32) H.size v1 hv2) (cwV 2 hts gX13_readsDay_X13_number rfl rfl rfl (by decide +kernel) ⟨Nat.le_of_ble_eq_true rfl, Nat.le_of_ble_eq_true rfl⟩) (va_recv hK hP (ci := 11) (q0 := 0) rfl rfl) cl_blind (cl_pre hK hP hD [0, 10, 11] (by decide) rfl) hP hD hS hA [0, 10, 11] rfl rfl hl.1 rfl (lv_room (Nat.le_of_ble_eq_true rfl)) dX13_readsDay_255 ⟨Nat.le_of_ble_eq_true rfl, Nat.le_of_ble_eq_true rfl⟩ ⟨rfl, rfl⟩ (fun _ => updM [0, 10, 11] [1, 2, 3, 4, 5, 6, 7, 8, 9, 12, 13] [(a0 1, .inl (cy 1, 5, .inl (gvm.2.2.2.1))), (a0 2, .inl (cy 1, 5, .inl (gvm.2.2.2.2.1))), (a0 3, .inl (cy 1, 5, .inl (gvm.2.2.2.2.2.1))), (a0 4, .inl (cy 1, 25, .inl (gvm.2.2.2.2.2.2.1))), (a0 5, .inl (cy 1, 10, .inl (gvm.2.2.2.2.2.2.2.1))), (a0 6, .inl (cy 1, 10, .inl (gvm.2.2.2.2.2.2.2.2.1))), (a0 7, .inl (cy 1, 10, .inl (gvm.2.2.2.2.2.2.2.2.2.1))), (a0 8, .inl (cy 1, 10, .inl (gvm.2.2.2.2.2.2.2.2.2.2.1))), (a0 9, .inl (cy 1, 50, .inl (gvm.2.2.2.2.2.2.2.2.2.2.2))), (a0 19, .inl (cy 1, 600, .inl (gac.2.1))), (a0 20, .inl (cy 1, 600, .inl (gac.2.2)))] 14 rfl rfl rfl rfl rfl (by decide +kernel) (by decide +kernel) rfl) (fun r u H locs hw hP hD hS => ?_)
    obtain ⟨rfl, rfl⟩ := hw
    have hP : va_P (dC, dI) vwCl (w_X13_readsDay cy a0 gth gvm gtt gtd v1.2.1 v1.2.2 gnv gac grc gim) H := hP
    have hD : va_D A (w_X13_readsDay cy a0 gth gvm gtt gtd v1.2.1 v1.2.2 gnv gac grc gim) := hD
    obtain ⟨hi3, h⟩ := ok_if h
    refine va_iast hx hb hK hP hD hS 12 1 rfl rfl (ix_in hi3) dX13_readsDay_258 (fun H locs hP hD hS => ?_)
    have hP : va_P (dC, dI) vwCl (w_X13_readsDay cy a0 gth gvm gtt gtd v1.2.1 v1.2.2 gnv ((gac.1, (upd gac.2.1 t1.toNatClampNeg v1.1), gac.2.2)) grc gim) H := hP
    have hD : va_D A (w_X13_readsDay cy a0 gth gvm gtt gtd v1.2.1 v1.2.2 gnv ((gac.1, (upd gac.2.1 t1.toNatClampNeg v1.1), gac.2.2)) grc gim) := hD
    exact c259 () v1.2.1 v1.2.2 (gac.1, (upd gac.2.1 t1.toNatClampNeg v1.1), gac.2.2) H locs ls h hP hD hS (lv_sub hl [0] rfl)
  have c204 : ∀ (_u : Unit), ∀ (gfl : Int32 × Int32) (grd : Int32 × Int32 × Int32 × Int32 × Int32 × Int32 × Int64 × (Nat → Int32)) (gac : Int32 × (Nat → Int32) × (Nat → Int32)) (x1 : Int32) (x2 : Int32) (H : Heap) (locs : List Loc) (ls : Array Slot), p_X13_readsDay_204 gvm gtt gfl grd gac x1 x2 = some R0 → va_P (dC, dI) vwCl (w_X13_readsDay cy a0 gth gvm gtt gtd gfl grd gnv gac grc gim) H → va_D A (w_X13_readsDay cy a0 gth gvm gtt gtd gfl grd gnv gac grc gim) → va_S A s.heap H locs → lv_has ls 3 [(0, .ref (a0 0)), (1, .int x1), (2, .int x2)] → W p l e rm_X13_readsDay s m aa below meth c H locs 0 0 (MQ below qq aa s 0 0 A) (F0 m 204 ls []) := by
    intro _ gfl grd gac x1 x2 H locs ls h hP hD hS hl
    unfold p_X13_readsDay_204 at h
    refine lv_iload_n hx hb dX13_readsDay_204 rfl (lv_at hl 1 rfl) ?_
    refine lv_bipush (v := (6 : Int32)) hx hb dX13_readsDay_205 (by decide) ?_
    refine lv_icmp_ne (tgt := 235) hx hb dX13_readsDay_207 (by decide) (fun c1 => ?_) (fun c1 => ?_)
    · rw [if_neg c1] at h
      refine lv_aload_n hx hb dX13_readsDay_235 rfl (lv_at hl 0 rfl) ?_
      refine va_get (D := (dC, dI)) (ci := 11) (v := .ref (a0 19)) (C := RX13) (T := TX13) (N := 64) hx hb hts in_X13 hown hK hP 0 rfl rfl 38 (by decide) lk2 (fun _ h9 => h9) rfl dX13_readsDay_236 ?_
      refine lv_iload_n hx hb dX13_readsDay_239 rfl (lv_at hl 2 rfl) ?_
      refine lv_iconst (v := (3 : Int32)) hx hb dX13_readsDay_240 (by decide) ?_
      refine lv_iadd hx hb dX13_readsDay_241 ?_
      refine lv_aload_n hx hb dX13_readsDay_242 rfl (lv_at hl 0 rfl) ?_
      refine lv_iload_n hx hb dX13_readsDay_243 rfl (lv_at hl 1 rfl) ?_
      refine lv_iconst (v := (3 : Int32)) hx hb dX13_readsDay_244 (by decide) ?_
      refine lv_icmp_ne (tgt := 252) hx hb dX13_readsDay_245 (by decide) (fun c2 => ?_) (fun c2 => ?_)
      · rw [if_neg c2] at h
        refine lv_iconst (v := (1 : Int32)) hx hb dX13_readsDay_252 (by decide) ?_
        exact c253 () gfl grd gac (x2 + (3 : Int32)) (1 : Int32) H locs ls h hP hD hS (lv_sub hl [0] rfl)
      · rw [if_pos c2] at h
        refine lv_iconst (v := (0 : Int32)) hx hb dX13_readsDay_248 (by decide) ?_
        refine lv_goto (tgt := 253) hx hb dX13_readsDay_249 (by decide) ?_
        exact c253 () gfl grd gac (x2 + (3 : Int32)) (0 : Int32) H locs ls h hP hD hS (lv_sub hl [0] rfl)
    · rw [if_pos c1] at h
      refine lv_aload_n hx hb dX13_readsDay_210 rfl (lv_at hl 0 rfl) ?_
      refine va_get (D := (dC, dI)) (ci := 11) (v := .ref (a0 19)) (C := RX13) (T := TX13) (N := 64) hx hb hts in_X13 hown hK hP 0 rfl rfl 38 (by decide) lk2 (fun _ h9 => h9) rfl dX13_readsDay_211 ?_
      refine lv_iload_n hx hb dX13_readsDay_214 rfl (lv_at hl 2 rfl) ?_
      refine lv_iconst (v := (4 : Int32)) hx hb dX13_readsDay_215 (by decide) ?_
      refine lv_iadd hx hb dX13_readsDay_216 ?_
      refine lv_aload_n hx hb dX13_readsDay_217 rfl (lv_at hl 0 rfl) ?_
      refine lv_aload_n hx hb dX13_readsDay_218 rfl (lv_at hl 0 rfl) ?_
      refine va_get (D := (dC, dI)) (ci := 11) (v := .ref (a0 20)) (C := RX13) (T := TX13) (N := 64) hx hb hts in_X13 hown hK hP 0 rfl rfl 39 (by decide) lk3 (fun _ h9 => h9) rfl dX13_readsDay_219 ?_
      refine lv_iconst (v := (5 : Int32)) hx hb dX13_readsDay_222 (by decide) ?_
      refine lv_aload_n hx hb dX13_readsDay_223 rfl (lv_at hl 0 rfl) ?_
      refine va_get (D := (dC, dI)) (ci := 11) (v := .int gac.1) (C := RX13) (T := TX13) (N := 64) hx hb hts in_X13 hown hK hP 0 rfl rfl 37 (by decide) lk0 (fun _ h9 => h9) rfl dX13_readsDay_224 ?_
      refine lv_imul hx hb dX13_readsDay_227 ?_
      obtain ⟨v3, hv4, h⟩ := ok_bind h
      refine cl_vi (w2 := fun (u : (Int32 × Int32) × (Int32 × Int32 × Int32 × Int32 × Int32 × Int32 × Int64 × (Nat → Int32)) × ((Nat → Int32))) => w_X13_readsDay cy a0 gth gvm gtt gtd u.1 u.2.1 gnv ((gac.1, gac.2.1, u.2.2)) grc gim) (As := [.ref (a0 20), .int ((5 : Int32) * gac.1)]) (rest := [.int (x2 + (4 : Int32)), .ref (a0 19)]) ⟨hx, hb, hml, hown, hts⟩ (c_X13_figures l dC dI cy a0 (fun k => a0 (k + 20)) 600 gth gvm gtt gtd gfl grd gnv gac grc gim gac.2.2 ((5 : Int32) * gac.1) H.size v3 hv4) (cwV 2 hts gX13_readsDay_X13_figures rfl rfl rfl (by decide +kernel) ⟨Nat.le_of_ble_eq_true rfl, Nat.le_of_ble_eq_true rfl⟩) (va_recv hK hP (ci := 11) (q0 := 0) rfl rfl) cl_blind (cl_pre hK hP hD [0, 10, 11, 13] (by decide) rfl) hP hD hS hA [0, 10, 11, 13] rfl rfl hl.1 rfl (lv_room (Nat.le_of_ble_eq_true rfl)) dX13_readsDay_228 ⟨Nat.le_of_ble_eq_true rfl, Nat.le_of_ble_eq_true rfl⟩ ⟨rfl, rfl⟩ (fun _ => updM [0, 10, 11, 13] [1, 2, 3, 4, 5, 6, 7, 8, 9, 12] [(a0 1, .inl (cy 1, 5, .inl (gvm.2.2.2.1))), (a0 2, .inl (cy 1, 5, .inl (gvm.2.2.2.2.1))), (a0 3, .inl (cy 1, 5, .inl (gvm.2.2.2.2.2.1))), (a0 4, .inl (cy 1, 25, .inl (gvm.2.2.2.2.2.2.1))), (a0 5, .inl (cy 1, 10, .inl (gvm.2.2.2.2.2.2.2.1))), (a0 6, .inl (cy 1, 10, .inl (gvm.2.2.2.2.2.2.2.2.1))), (a0 7, .inl (cy 1, 10, .inl (gvm.2.2.2.2.2.2.2.2.2.1))), (a0 8, .inl (cy 1, 10, .inl (gvm.2.2.2.2.2.2.2.2.2.2.1))), (a0 9, .inl (cy 1, 50, .inl (gvm.2.2.2.2.2.2.2.2.2.2.2))), (a0 19, .inl (cy 1, 600, .inl (gac.2.1)))] 14 rfl rfl rfl rfl rfl (by decide +kernel) (by decide +kernel) rfl) (fun r u H locs hw hP hD hS => ?_)
      obtain ⟨rfl, rfl⟩ := hw
      have hP : va_P (dC, dI) vwCl (w_X13_readsDay cy a0 gth gvm gtt gtd v3.2.1 v3.2.2.1 gnv ((gac.1, gac.2.1, v3.2.2.2)) grc gim) H := hP
      have hD : va_D A (w_X13_readsDay cy a0 gth gvm gtt gtd v3.2.1 v3.2.2.1 gnv ((gac.1, gac.2.1, v3.2.2.2)) grc gim) := hD
      obtain ⟨hi5, h⟩ := ok_if h
      refine va_iast hx hb hK hP hD hS 12 1 rfl rfl (ix_in hi5) dX13_readsDay_231 (fun H locs hP hD hS => ?_)
      have hP : va_P (dC, dI) vwCl (w_X13_readsDay cy a0 gth gvm gtt gtd v3.2.1 v3.2.2.1 gnv ((gac.1, (upd gac.2.1 (x2 + (4 : Int32)).toNatClampNeg v3.1), v3.2.2.2)) grc gim) H := hP
      have hD : va_D A (w_X13_readsDay cy a0 gth gvm gtt gtd v3.2.1 v3.2.2.1 gnv ((gac.1, (upd gac.2.1 (x2 + (4 : Int32)).toNatClampNeg v3.1), v3.2.2.2)) grc gim) := hD
      refine lv_goto (tgt := 259) hx hb dX13_readsDay_232 (by decide) ?_
      exact c259 () v3.2.1 v3.2.2.1 (gac.1, (upd gac.2.1 (x2 + (4 : Int32)).toNatClampNeg v3.1), v3.2.2.2) H locs ls h hP hD hS (lv_sub hl [0] rfl)
  have c180 : ∀ (_u : Unit), ∀ (gfl : Int32 × Int32) (grd : Int32 × Int32 × Int32 × Int32 × Int32 × Int32 × Int64 × (Nat → Int32)) (gac : Int32 × (Nat → Int32) × (Nat → Int32)) (x1 : Int32) (x2 : Int32) (H : Heap) (locs : List Loc) (ls : Array Slot), p_X13_readsDay_180 gvm gtt gfl grd gac x1 x2 = some R0 → va_P (dC, dI) vwCl (w_X13_readsDay cy a0 gth gvm gtt gtd gfl grd gnv gac grc gim) H → va_D A (w_X13_readsDay cy a0 gth gvm gtt gtd gfl grd gnv gac grc gim) → va_S A s.heap H locs → lv_has ls 3 [(0, .ref (a0 0)), (1, .int x1), (2, .int x2)] → W p l e rm_X13_readsDay s m aa below meth c H locs 0 0 (MQ below qq aa s 0 0 A) (F0 m 180 ls []) := by
    intro _ gfl grd gac x1 x2 H locs ls h hP hD hS hl
    unfold p_X13_readsDay_180 at h
    refine lv_aload_n hx hb dX13_readsDay_180 rfl (lv_at hl 0 rfl) ?_
    refine va_get (D := (dC, dI)) (ci := 11) (v := .ref (a0 19)) (C := RX13) (T := TX13) (N := 64) hx hb hts in_X13 hown hK hP 0 rfl rfl 38 (by decide) lk2 (fun _ h9 => h9) rfl dX13_readsDay_181 ?_
    refine lv_iload_n hx hb dX13_readsDay_184 rfl (lv_at hl 2 rfl) ?_
    refine lv_iconst (v := (2 : Int32)) hx hb dX13_readsDay_185 (by decide) ?_
    refine lv_iadd hx hb dX13_readsDay_186 ?_
    refine lv_aload_n hx hb dX13_readsDay_187 rfl (lv_at hl 0 rfl) ?_
    refine lv_aload_n hx hb dX13_readsDay_188 rfl (lv_at hl 0 rfl) ?_
    refine va_get (D := (dC, dI)) (ci := 11) (v := .int gvm.1) (C := RX13) (T := TX13) (N := 64) hx hb hts in_X13 hown hK hP 0 rfl rfl 1 (by decide) lk4 (fun _ h9 => h9) rfl dX13_readsDay_189 ?_
    refine lv_aload_n hx hb dX13_readsDay_192 rfl (lv_at hl 0 rfl) ?_
    refine va_get (D := (dC, dI)) (ci := 11) (v := .ref (a0 19)) (C := RX13) (T := TX13) (N := 64) hx hb hts in_X13 hown hK hP 0 rfl rfl 38 (by decide) lk2 (fun _ h9 => h9) rfl dX13_readsDay_193 ?_
    refine lv_iload_n hx hb dX13_readsDay_196 rfl (lv_at hl 2 rfl) ?_
    refine lv_iconst (v := (1 : Int32)) hx hb dX13_readsDay_197 (by decide) ?_
    refine lv_iadd hx hb dX13_readsDay_198 ?_
    obtain ⟨hi1, h⟩ := ok_if h
    refine va_iald hx hb hK hP 12 1 rfl rfl (ix_in hi1) dX13_readsDay_199 ?_
    obtain ⟨v2, hv3, h⟩ := ok_bind h
    refine cl_vi (w2 := fun (u : (Int32 × Int32) × (Int32 × Int32 × Int32 × Int32 × Int32 × Int32 × Int64 × (Nat → Int32))) => w_X13_readsDay cy a0 gth gvm gtt gtd u.1 u.2 gnv gac grc gim) (As := [.int gvm.1, .int (gac.2.1 (x2 + (1 : Int32)).toNatClampNeg)]) (rest := [.int (x2 + (2 : Int32)), .ref (a0 19)]) ⟨hx, hb, hml, hown, hts⟩ (c_X13_among l dC dI cy a0 gth gvm gtt gtd gfl grd gnv gac grc gim gvm.1 (gac.2.1 (x2 + (1 : Int32)).toNatClampNeg) H.size v2 hv3) (cwV 2 hts gX13_readsDay_X13_among rfl rfl rfl (by decide +kernel) ⟨Nat.le_of_ble_eq_true rfl, Nat.le_of_ble_eq_true rfl⟩) (va_recv hK hP (ci := 11) (q0 := 0) rfl rfl) cl_blind (cl_pre hK hP hD [0, 10, 11] (by decide) rfl) hP hD hS hA [0, 10, 11] rfl rfl hl.1 rfl (lv_room (Nat.le_of_ble_eq_true rfl)) dX13_readsDay_200 ⟨Nat.le_of_ble_eq_true rfl, Nat.le_of_ble_eq_true rfl⟩ ⟨rfl, rfl⟩ (fun _ => updM [0, 10, 11] [1, 2, 3, 4, 5, 6, 7, 8, 9, 12, 13] [(a0 1, .inl (cy 1, 5, .inl (gvm.2.2.2.1))), (a0 2, .inl (cy 1, 5, .inl (gvm.2.2.2.2.1))), (a0 3, .inl (cy 1, 5, .inl (gvm.2.2.2.2.2.1))), (a0 4, .inl (cy 1, 25, .inl (gvm.2.2.2.2.2.2.1))), (a0 5, .inl (cy 1, 10, .inl (gvm.2.2.2.2.2.2.2.1))), (a0 6, .inl (cy 1, 10, .inl (gvm.2.2.2.2.2.2.2.2.1))), (a0 7, .inl (cy 1, 10, .inl (gvm.2.2.2.2.2.2.2.2.2.1))), (a0 8, .inl (cy 1, 10, .inl (gvm.2.2.2.2.2.2.2.2.2.2.1))), (a0 9, .inl (cy 1, 50, .inl (gvm.2.2.2.2.2.2.2.2.2.2.2))), (a0 19, .inl (cy 1, 600, .inl (gac.2.1))), (a0 20, .inl (cy 1, 600, .inl (gac.2.2)))] 14 rfl rfl rfl rfl rfl (by decide +kernel) (by decide +kernel) rfl) (fun r u H locs hw hP hD hS => ?_)
    obtain ⟨rfl, rfl⟩ := hw
    have hP : va_P (dC, dI) vwCl (w_X13_readsDay cy a0 gth gvm gtt gtd v2.2.1 v2.2.2 gnv gac grc gim) H := hP
    have hD : va_D A (w_X13_readsDay cy a0 gth gvm gtt gtd v2.2.1 v2.2.2 gnv gac grc gim) := hD
    obtain ⟨hi4, h⟩ := ok_if h
    refine va_iast hx hb hK hP hD hS 12 1 rfl rfl (ix_in hi4) dX13_readsDay_203 (fun H locs hP hD hS => ?_)
    have hP : va_P (dC, dI) vwCl (w_X13_readsDay cy a0 gth gvm gtt gtd v2.2.1 v2.2.2 gnv ((gac.1, (upd gac.2.1 (x2 + (2 : Int32)).toNatClampNeg v2.1), gac.2.2)) grc gim) H := hP
    have hD : va_D A (w_X13_readsDay cy a0 gth gvm gtt gtd v2.2.1 v2.2.2 gnv ((gac.1, (upd gac.2.1 (x2 + (2 : Int32)).toNatClampNeg v2.1), gac.2.2)) grc gim) := hD
    exact c204 () v2.2.1 v2.2.2 (gac.1, (upd gac.2.1 (x2 + (2 : Int32)).toNatClampNeg v2.1), gac.2.2) x1 x2 H locs ls h hP hD hS (lv_sub hl [0, 1, 2] rfl)
  have c101 : ∀ (_u : Unit), ∀ (gfl : Int32 × Int32) (grd : Int32 × Int32 × Int32 × Int32 × Int32 × Int32 × Int64 × (Nat → Int32)) (gac : Int32 × (Nat → Int32) × (Nat → Int32)) (x1 : Int32) (x2 : Int32) (H : Heap) (locs : List Loc) (ls : Array Slot), p_X13_readsDay_101 gvm gtt gfl grd gac x1 x2 = some R0 → va_P (dC, dI) vwCl (w_X13_readsDay cy a0 gth gvm gtt gtd gfl grd gnv gac grc gim) H → va_D A (w_X13_readsDay cy a0 gth gvm gtt gtd gfl grd gnv gac grc gim) → va_S A s.heap H locs → lv_has ls 3 [(0, .ref (a0 0)), (1, .int x1), (2, .int x2)] → W p l e rm_X13_readsDay s m aa below meth c H locs 0 0 (MQ below qq aa s 0 0 A) (F0 m 101 ls []) := by
    intro _ gfl grd gac x1 x2 H locs ls h hP hD hS hl
    unfold p_X13_readsDay_101 at h
    refine lv_aload_n hx hb dX13_readsDay_101 rfl (lv_at hl 0 rfl) ?_
    refine va_get (D := (dC, dI)) (ci := 11) (v := .ref (a0 19)) (C := RX13) (T := TX13) (N := 64) hx hb hts in_X13 hown hK hP 0 rfl rfl 38 (by decide) lk2 (fun _ h9 => h9) rfl dX13_readsDay_102 ?_
    refine lv_iload_n hx hb dX13_readsDay_105 rfl (lv_at hl 2 rfl) ?_
    refine lv_iconst (v := (1 : Int32)) hx hb dX13_readsDay_106 (by decide) ?_
    refine lv_iadd hx hb dX13_readsDay_107 ?_
    refine lv_aload_n hx hb dX13_readsDay_108 rfl (lv_at hl 0 rfl) ?_
    refine lv_bipush (v := (10 : Int32)) hx hb dX13_readsDay_109 (by decide) ?_
    refine lv_iconst (v := (-1 : Int32)) hx hb dX13_readsDay_111 (by decide) ?_
    obtain ⟨v1, hv2, h⟩ := ok_bind h
    refine cl_vi (w2 := fun (u : (Int32 × Int32) × (Int32 × Int32 × Int32 × Int32 × Int32 × Int32 × Int64 × (Nat → Int32))) => w_X13_readsDay cy a0 gth gvm gtt gtd u.1 u.2 gnv gac grc gim) (As := [.int (10 : Int32), .int (-1 : Int32)]) (rest := [.int (x2 + (1 : Int32)), .ref (a0 19)]) ⟨hx, hb, hml, hown, hts⟩ (c_X13_among l dC dI cy a0 gth gvm gtt gtd gfl grd gnv gac grc gim (10 : Int32) (-1 : Int32) H.size v1 hv2) (cwV 2 hts gX13_readsDay_X13_among rfl rfl rfl (by decide +kernel) ⟨Nat.le_of_ble_eq_true rfl, Nat.le_of_ble_eq_true rfl⟩) (va_recv hK hP (ci := 11) (q0 := 0) rfl rfl) cl_blind (cl_pre hK hP hD [0, 10, 11] (by decide) rfl) hP hD hS hA [0, 10, 11] rfl rfl hl.1 rfl (lv_room (Nat.le_of_ble_eq_true rfl)) dX13_readsDay_112 ⟨Nat.le_of_ble_eq_true rfl, Nat.le_of_ble_eq_true rfl⟩ ⟨rfl, rfl⟩ (fun _ => updM [0, 10, 11] [1, 2, 3, 4, 5, 6, 7, 8, 9, 12, 13] [(a0 1, .inl (cy 1, 5, .inl (gvm.2.2.2.1))), (a0 2, .inl (cy 1, 5, .inl (gvm.2.2.2.2.1))), (a0 3, .inl (cy 1, 5, .inl (gvm.2.2.2.2.2.1))), (a0 4, .inl (cy 1, 25, .inl (gvm.2.2.2.2.2.2.1))), (a0 5, .inl (cy 1, 10, .inl (gvm.2.2.2.2.2.2.2.1))), (a0 6, .inl (cy 1, 10, .inl (gvm.2.2.2.2.2.2.2.2.1))), (a0 7, .inl (cy 1, 10, .inl (gvm.2.2.2.2.2.2.2.2.2.1))), (a0 8, .inl (cy 1, 10, .inl (gvm.2.2.2.2.2.2.2.2.2.2.1))), (a0 9, .inl (cy 1, 50, .inl (gvm.2.2.2.2.2.2.2.2.2.2.2))), (a0 19, .inl (cy 1, 600, .inl (gac.2.1))), (a0 20, .inl (cy 1, 600, .inl (gac.2.2)))] 14 rfl rfl rfl rfl rfl (by decide +kernel) (by decide +kernel) rfl) (fun r u H locs hw hP hD hS => ?_)
    obtain ⟨rfl, rfl⟩ := hw
    have hP : va_P (dC, dI) vwCl (w_X13_readsDay cy a0 gth gvm gtt gtd v1.2.1 v1.2.2 gnv gac grc gim) H := hP
    have hD : va_D A (w_X13_readsDay cy a0 gth gvm gtt gtd v1.2.1 v1.2.2 gnv gac grc gim) := hD
    obtain ⟨hi3, h⟩ := ok_if h
    refine va_iast hx hb hK hP hD hS 12 1 rfl rfl (ix_in hi3) dX13_readsDay_115 (fun H locs hP hD hS => ?_)
    have hP : va_P (dC, dI) vwCl (w_X13_readsDay cy a0 gth gvm gtt gtd v1.2.1 v1.2.2 gnv ((gac.1, (upd gac.2.1 (x2 + (1 : Int32)).toNatClampNeg v1.1), gac.2.2)) grc gim) H := hP
    have hD : va_D A (w_X13_readsDay cy a0 gth gvm gtt gtd v1.2.1 v1.2.2 gnv ((gac.1, (upd gac.2.1 (x2 + (1 : Int32)).toNatClampNeg v1.1), gac.2.2)) grc gim) := hD
    refine lv_iload_n hx hb dX13_readsDay_116 rfl (lv_at hl 1 rfl) ?_
    refine lv_bipush (v := (7 : Int32)) hx hb dX13_readsDay_117 (by decide) ?_
    refine lv_icmp_ne (tgt := 259) hx hb dX13_readsDay_119 (by decide) (fun c4 => ?_) (fun c4 => ?_)
    · rw [if_neg c4] at h
      exact c259 () v1.2.1 v1.2.2 (gac.1, (upd gac.2.1 (x2 + (1 : Int32)).toNatClampNeg v1.1), gac.2.2) H locs ls h hP hD hS (lv_sub hl [0] rfl)
    · rw [if_pos c4] at h
      refine lv_aload_n hx hb dX13_readsDay_122 rfl (lv_at hl 0 rfl) ?_
      refine va_get (D := (dC, dI)) (ci := 11) (v := .ref (a0 19)) (C := RX13) (T := TX13) (N := 64) hx hb hts in_X13 hown hK hP 0 rfl rfl 38 (by decide) lk2 (fun _ h9 => h9) rfl dX13_readsDay_123 ?_
      refine lv_iload_n hx hb dX13_readsDay_126 rfl (lv_at hl 2 rfl) ?_
      refine lv_iconst (v := (2 : Int32)) hx hb dX13_readsDay_127 (by decide) ?_
      refine lv_iadd hx hb dX13_readsDay_128 ?_
      refine lv_aload_n hx hb dX13_readsDay_129 rfl (lv_at hl 0 rfl) ?_
      refine lv_bipush (v := (10 : Int32)) hx hb dX13_readsDay_130 (by decide) ?_
      refine lv_aload_n hx hb dX13_readsDay_132 rfl (lv_at hl 0 rfl) ?_
      refine va_get (D := (dC, dI)) (ci := 11) (v := .ref (a0 19)) (C := RX13) (T := TX13) (N := 64) hx hb hts in_X13 hown hK hP 0 rfl rfl 38 (by decide) lk2 (fun _ h9 => h9) rfl dX13_readsDay_133 ?_
      refine lv_iload_n hx hb dX13_readsDay_136 rfl (lv_at hl 2 rfl) ?_
      refine lv_iconst (v := (1 : Int32)) hx hb dX13_readsDay_137 (by decide) ?_
      refine lv_iadd hx hb dX13_readsDay_138 ?_
      obtain ⟨hi5, h⟩ := ok_if h
      refine va_iald hx hb hK hP 12 1 rfl rfl (ix_in hi5) dX13_readsDay_139 ?_
      obtain ⟨v6, hv7, h⟩ := ok_bind h
      refine cl_vi (w2 := fun (u : (Int32 × Int32) × (Int32 × Int32 × Int32 × Int32 × Int32 × Int32 × Int64 × (Nat → Int32))) => w_X13_readsDay cy a0 gth gvm gtt gtd u.1 u.2 gnv ((gac.1, (upd gac.2.1 (x2 + (1 : Int32)).toNatClampNeg v1.1), gac.2.2)) grc gim) (As := [.int (10 : Int32), .int ((upd gac.2.1 (x2 + (1 : Int32)).toNatClampNeg v1.1) (x2 + (1 : Int32)).toNatClampNeg)]) (rest := [.int (x2 + (2 : Int32)), .ref (a0 19)]) ⟨hx, hb, hml, hown, hts⟩ (c_X13_among l dC dI cy a0 gth gvm gtt gtd v1.2.1 v1.2.2 gnv (gac.1, (upd gac.2.1 (x2 + (1 : Int32)).toNatClampNeg v1.1), gac.2.2) grc gim (10 : Int32) ((upd gac.2.1 (x2 + (1 : Int32)).toNatClampNeg v1.1) (x2 + (1 : Int32)).toNatClampNeg) H.size v6 hv7) (cwV 2 hts gX13_readsDay_X13_among rfl rfl rfl (by decide +kernel) ⟨Nat.le_of_ble_eq_true rfl, Nat.le_of_ble_eq_true rfl⟩) (va_recv hK hP (ci := 11) (q0 := 0) rfl rfl) cl_blind (cl_pre hK hP hD [0, 10, 11] (by decide) rfl) hP hD hS hA [0, 10, 11] rfl rfl hl.1 rfl (lv_room (Nat.le_of_ble_eq_true rfl)) dX13_readsDay_140 ⟨Nat.le_of_ble_eq_true rfl, Nat.le_of_ble_eq_true rfl⟩ ⟨rfl, rfl⟩ (fun _ => updM [0, 10, 11] [1, 2, 3, 4, 5, 6, 7, 8, 9, 12, 13] [(a0 1, .inl (cy 1, 5, .inl (gvm.2.2.2.1))), (a0 2, .inl (cy 1, 5, .inl (gvm.2.2.2.2.1))), (a0 3, .inl (cy 1, 5, .inl (gvm.2.2.2.2.2.1))), (a0 4, .inl (cy 1, 25, .inl (gvm.2.2.2.2.2.2.1))), (a0 5, .inl (cy 1, 10, .inl (gvm.2.2.2.2.2.2.2.1))), (a0 6, .inl (cy 1, 10, .inl (gvm.2.2.2.2.2.2.2.2.1))), (a0 7, .inl (cy 1, 10, .inl (gvm.2.2.2.2.2.2.2.2.2.1))), (a0 8, .inl (cy 1, 10, .inl (gvm.2.2.2.2.2.2.2.2.2.2.1))), (a0 9, .inl (cy 1, 50, .inl (gvm.2.2.2.2.2.2.2.2.2.2.2))), (a0 19, .inl (cy 1, 600, .inl ((upd gac.2.1 (x2 + (1 : Int32)).toNatClampNeg v1.1)))), (a0 20, .inl (cy 1, 600, .inl (gac.2.2)))] 14 rfl rfl rfl rfl rfl (by decide +kernel) (by decide +kernel) rfl) (fun r u H locs hw hP hD hS => ?_)
      obtain ⟨rfl, rfl⟩ := hw
      have hP : va_P (dC, dI) vwCl (w_X13_readsDay cy a0 gth gvm gtt gtd v6.2.1 v6.2.2 gnv ((gac.1, (upd gac.2.1 (x2 + (1 : Int32)).toNatClampNeg v1.1), gac.2.2)) grc gim) H := hP
      have hD : va_D A (w_X13_readsDay cy a0 gth gvm gtt gtd v6.2.1 v6.2.2 gnv ((gac.1, (upd gac.2.1 (x2 + (1 : Int32)).toNatClampNeg v1.1), gac.2.2)) grc gim) := hD
      obtain ⟨hi8, h⟩ := ok_if h
      refine va_iast hx hb hK hP hD hS 12 1 rfl rfl (ix_in hi8) dX13_readsDay_143 (fun H locs hP hD hS => ?_)
      have hP : va_P (dC, dI) vwCl (w_X13_readsDay cy a0 gth gvm gtt gtd v6.2.1 v6.2.2 gnv ((gac.1, (upd (upd gac.2.1 (x2 + (1 : Int32)).toNatClampNeg v1.1) (x2 + (2 : Int32)).toNatClampNeg v6.1), gac.2.2)) grc gim) H := hP
      have hD : va_D A (w_X13_readsDay cy a0 gth gvm gtt gtd v6.2.1 v6.2.2 gnv ((gac.1, (upd (upd gac.2.1 (x2 + (1 : Int32)).toNatClampNeg v1.1) (x2 + (2 : Int32)).toNatClampNeg v6.1), gac.2.2)) grc gim) := hD
      refine lv_goto (tgt := 259) hx hb dX13_readsDay_144 (by decide) ?_
      exact c259 () v6.2.1 v6.2.2 (gac.1, (upd (upd gac.2.1 (x2 + (1 : Int32)).toNatClampNeg v1.1) (x2 + (2 : Int32)).toNatClampNeg v6.1), gac.2.2) H locs ls h hP hD hS (lv_sub hl [0] rfl)
  have c37 : ∀ (_u : Unit), ∀ (gfl : Int32 × Int32) (grd : Int32 × Int32 × Int32 × Int32 × Int32 × Int32 × Int64 × (Nat → Int32)) (gac : Int32 × (Nat → Int32) × (Nat → Int32)) (x1 : Int32) (t1 : Int32) (H : Heap) (locs : List Loc) (ls : Array Slot), p_X13_readsDay_37 gvm gtt gfl grd gac x1 t1 = some R0 → va_P (dC, dI) vwCl (w_X13_readsDay cy a0 gth gvm gtt gtd gfl grd gnv gac grc gim) H → va_D A (w_X13_readsDay cy a0 gth gvm gtt gtd gfl grd gnv gac grc gim) → va_S A s.heap H locs → lv_has ls 3 [(0, .ref (a0 0)), (1, .int x1)] → W p l e rm_X13_readsDay s m aa below meth c H locs 0 0 (MQ below qq aa s 0 0 A) (F0 m 37 ls [.int t1, .ref (a0 0)]) := by
    intro _ gfl grd gac x1 t1 H locs ls h hP hD hS hl
    unfold p_X13_readsDay_37 at h
    obtain ⟨v1, hv2, h⟩ := ok_bind h
    refine cl_vv (w2 := fun (u : (Int32 × Int32) × (Int32 × Int32 × Int32 × Int32 × Int32 × Int32 × Int64 × (Nat → Int32))) => w_X13_readsDay cy a0 gth gvm gtt gtd u.1 u.2 gnv gac grc gim) (As := [.int t1]) (rest := []) ⟨hx, hb, hml, hown, hts⟩ (c_X13_need l dC dI cy a0 gth gvm gtt gtd gfl grd gnv gac grc gim t1 H.size v1 hv2) (cwV 1 hts gX13_readsDay_X13_need rfl rfl rfl (by decide +kernel) ⟨Nat.le_of_ble_eq_true rfl, Nat.le_of_ble_eq_true rfl⟩) (va_recv hK hP (ci := 11) (q0 := 0) rfl rfl) cl_blind (cl_pre hK hP hD [0, 10, 11] (by decide) rfl) hP hD hS hA [0, 10, 11] rfl rfl hl.1 rfl (lv_room (Nat.le_of_ble_eq_true rfl)) dX13_readsDay_37 ⟨Nat.le_of_ble_eq_true rfl, Nat.le_of_ble_eq_true rfl⟩ ⟨rfl, rfl⟩ (fun _ => updM [0, 10, 11] [1, 2, 3, 4, 5, 6, 7, 8, 9, 12, 13] [(a0 1, .inl (cy 1, 5, .inl (gvm.2.2.2.1))), (a0 2, .inl (cy 1, 5, .inl (gvm.2.2.2.2.1))), (a0 3, .inl (cy 1, 5, .inl (gvm.2.2.2.2.2.1))), (a0 4, .inl (cy 1, 25, .inl (gvm.2.2.2.2.2.2.1))), (a0 5, .inl (cy 1, 10, .inl (gvm.2.2.2.2.2.2.2.1))), (a0 6, .inl (cy 1, 10, .inl (gvm.2.2.2.2.2.2.2.2.1))), (a0 7, .inl (cy 1, 10, .inl (gvm.2.2.2.2.2.2.2.2.2.1))), (a0 8, .inl (cy 1, 10, .inl (gvm.2.2.2.2.2.2.2.2.2.2.1))), (a0 9, .inl (cy 1, 50, .inl (gvm.2.2.2.2.2.2.2.2.2.2.2))), (a0 19, .inl (cy 1, 600, .inl (gac.2.1))), (a0 20, .inl (cy 1, 600, .inl (gac.2.2)))] 14 rfl rfl rfl rfl rfl (by decide +kernel) (by decide +kernel) rfl) (fun u H locs hw hP hD hS => ?_)
    have hw := hw.symm
    subst hw
    have hP : va_P (dC, dI) vwCl (w_X13_readsDay cy a0 gth gvm gtt gtd v1.1 v1.2 gnv gac grc gim) H := hP
    have hD : va_D A (w_X13_readsDay cy a0 gth gvm gtt gtd v1.1 v1.2 gnv gac grc gim) := hD
    refine lv_iconst (v := (5 : Int32)) hx hb dX13_readsDay_40 (by decide) ?_
    refine lv_aload_n hx hb dX13_readsDay_41 rfl (lv_at hl 0 rfl) ?_
    refine va_get (D := (dC, dI)) (ci := 11) (v := .int gac.1) (C := RX13) (T := TX13) (N := 64) hx hb hts in_X13 hown hK hP 0 rfl rfl 37 (by decide) lk0 (fun _ h9 => h9) rfl dX13_readsDay_42 ?_
    refine lv_imul hx hb dX13_readsDay_45 ?_
    refine lv_istore_n (lv' := [(2, .int ((5 : Int32) * gac.1)), (0, .ref (a0 0)), (1, .int x1)]) hx hb dX13_readsDay_46 rfl hl (by decide) rfl (fun ls hl => ?_)
    refine lv_aload_n hx hb dX13_readsDay_47 rfl (lv_at hl 1 rfl) ?_
    refine va_get (D := (dC, dI)) (ci := 11) (v := .ref (a0 19)) (C := RX13) (T := TX13) (N := 64) hx hb hts in_X13 hown hK hP 0 rfl rfl 38 (by decide) lk2 (fun _ h9 => h9) rfl dX13_readsDay_48 ?_
    refine lv_iload_n hx hb dX13_readsDay_51 rfl (lv_at hl 0 rfl) ?_
    refine lv_iload_n hx hb dX13_readsDay_52 rfl (lv_at hl 2 rfl) ?_
    obtain ⟨hi3, h⟩ := ok_if h
    refine va_iast hx hb hK hP hD hS 12 1 rfl rfl (ix_in hi3) dX13_readsDay_53 (fun H locs hP hD hS => ?_)
    have hP : va_P (dC, dI) vwCl (w_X13_readsDay cy a0 gth gvm gtt gtd v1.1 v1.2 gnv ((gac.1, (upd gac.2.1 ((5 : Int32) * gac.1).toNatClampNeg x1), gac.2.2)) grc gim) H := hP
    have hD : va_D A (w_X13_readsDay cy a0 gth gvm gtt gtd v1.1 v1.2 gnv ((gac.1, (upd gac.2.1 ((5 : Int32) * gac.1).toNatClampNeg x1), gac.2.2)) grc gim) := hD
    refine lv_aload_n hx hb dX13_readsDay_54 rfl (lv_at hl 1 rfl) ?_
    refine va_get (D := (dC, dI)) (ci := 11) (v := .ref (a0 19)) (C := RX13) (T := TX13) (N := 64) hx hb hts in_X13 hown hK hP 0 rfl rfl 38 (by decide) lk2 (fun _ h9 => h9) rfl dX13_readsDay_55 ?_
    refine lv_iload_n hx hb dX13_readsDay_58 rfl (lv_at hl 0 rfl) ?_
    refine lv_iconst (v := (1 : Int32)) hx hb dX13_readsDay_59 (by decide) ?_
    refine lv_iadd hx hb dX13_readsDay_60 ?_
    refine lv_iconst (v := (0 : Int32)) hx hb dX13_readsDay_61 (by decide) ?_
    obtain ⟨hi4, h⟩ := ok_if h
    refine va_iast hx hb hK hP hD hS 12 1 rfl rfl (ix_in hi4) dX13_readsDay_62 (fun H locs hP hD hS => ?_)
    have hP : va_P (dC, dI) vwCl (w_X13_readsDay cy a0 gth gvm gtt gtd v1.1 v1.2 gnv ((gac.1, (upd (upd gac.2.1 ((5 : Int32) * gac.1).toNatClampNeg x1) (((5 : Int32) * gac.1) + (1 : Int32)).toNatClampNeg (0 : Int32)), gac.2.2)) grc gim) H := hP
    have hD : va_D A (w_X13_readsDay cy a0 gth gvm gtt gtd v1.1 v1.2 gnv ((gac.1, (upd (upd gac.2.1 ((5 : Int32) * gac.1).toNatClampNeg x1) (((5 : Int32) * gac.1) + (1 : Int32)).toNatClampNeg (0 : Int32)), gac.2.2)) grc gim) := hD
    refine lv_aload_n hx hb dX13_readsDay_63 rfl (lv_at hl 1 rfl) ?_
    refine va_get (D := (dC, dI)) (ci := 11) (v := .ref (a0 19)) (C := RX13) (T := TX13) (N := 64) hx hb hts in_X13 hown hK hP 0 rfl rfl 38 (by decide) lk2 (fun _ h9 => h9) rfl dX13_readsDay_64 ?_
    refine lv_iload_n hx hb dX13_readsDay_67 rfl (lv_at hl 0 rfl) ?_
    refine lv_iconst (v := (2 : Int32)) hx hb dX13_readsDay_68 (by decide) ?_
    refine lv_iadd hx hb dX13_readsDay_69 ?_
    refine lv_iconst (v := (0 : Int32)) hx hb dX13_readsDay_70 (by decide) ?_
    obtain ⟨hi5, h⟩ := ok_if h
    refine va_iast hx hb hK hP hD hS 12 1 rfl rfl (ix_in hi5) dX13_readsDay_71 (fun H locs hP hD hS => ?_)
    have hP : va_P (dC, dI) vwCl (w_X13_readsDay cy a0 gth gvm gtt gtd v1.1 v1.2 gnv ((gac.1, (upd (upd (upd gac.2.1 ((5 : Int32) * gac.1).toNatClampNeg x1) (((5 : Int32) * gac.1) + (1 : Int32)).toNatClampNeg (0 : Int32)) (((5 : Int32) * gac.1) + (2 : Int32)).toNatClampNeg (0 : Int32)), gac.2.2)) grc gim) H := hP
    have hD : va_D A (w_X13_readsDay cy a0 gth gvm gtt gtd v1.1 v1.2 gnv ((gac.1, (upd (upd (upd gac.2.1 ((5 : Int32) * gac.1).toNatClampNeg x1) (((5 : Int32) * gac.1) + (1 : Int32)).toNatClampNeg (0 : Int32)) (((5 : Int32) * gac.1) + (2 : Int32)).toNatClampNeg (0 : Int32)), gac.2.2)) grc gim) := hD
    refine lv_aload_n hx hb dX13_readsDay_72 rfl (lv_at hl 1 rfl) ?_
    refine va_get (D := (dC, dI)) (ci := 11) (v := .ref (a0 19)) (C := RX13) (T := TX13) (N := 64) hx hb hts in_X13 hown hK hP 0 rfl rfl 38 (by decide) lk2 (fun _ h9 => h9) rfl dX13_readsDay_73 ?_
    refine lv_iload_n hx hb dX13_readsDay_76 rfl (lv_at hl 0 rfl) ?_
    refine lv_iconst (v := (3 : Int32)) hx hb dX13_readsDay_77 (by decide) ?_
    refine lv_iadd hx hb dX13_readsDay_78 ?_
    refine lv_iconst (v := (0 : Int32)) hx hb dX13_readsDay_79 (by decide) ?_
    obtain ⟨hi6, h⟩ := ok_if h
    refine va_iast hx hb hK hP hD hS 12 1 rfl rfl (ix_in hi6) dX13_readsDay_80 (fun H locs hP hD hS => ?_)
    have hP : va_P (dC, dI) vwCl (w_X13_readsDay cy a0 gth gvm gtt gtd v1.1 v1.2 gnv ((gac.1, (upd (upd (upd (upd gac.2.1 ((5 : Int32) * gac.1).toNatClampNeg x1) (((5 : Int32) * gac.1) + (1 : Int32)).toNatClampNeg (0 : Int32)) (((5 : Int32) * gac.1) + (2 : Int32)).toNatClampNeg (0 : Int32)) (((5 : Int32) * gac.1) + (3 : Int32)).toNatClampNeg (0 : Int32)), gac.2.2)) grc gim) H := hP
    have hD : va_D A (w_X13_readsDay cy a0 gth gvm gtt gtd v1.1 v1.2 gnv ((gac.1, (upd (upd (upd (upd gac.2.1 ((5 : Int32) * gac.1).toNatClampNeg x1) (((5 : Int32) * gac.1) + (1 : Int32)).toNatClampNeg (0 : Int32)) (((5 : Int32) * gac.1) + (2 : Int32)).toNatClampNeg (0 : Int32)) (((5 : Int32) * gac.1) + (3 : Int32)).toNatClampNeg (0 : Int32)), gac.2.2)) grc gim) := hD
    refine lv_aload_n hx hb dX13_readsDay_81 rfl (lv_at hl 1 rfl) ?_
    refine va_get (D := (dC, dI)) (ci := 11) (v := .ref (a0 19)) (C := RX13) (T := TX13) (N := 64) hx hb hts in_X13 hown hK hP 0 rfl rfl 38 (by decide) lk2 (fun _ h9 => h9) rfl dX13_readsDay_82 ?_
    refine lv_iload_n hx hb dX13_readsDay_85 rfl (lv_at hl 0 rfl) ?_
    refine lv_iconst (v := (4 : Int32)) hx hb dX13_readsDay_86 (by decide) ?_
    refine lv_iadd hx hb dX13_readsDay_87 ?_
    refine lv_iconst (v := (0 : Int32)) hx hb dX13_readsDay_88 (by decide) ?_
    obtain ⟨hi7, h⟩ := ok_if h
    refine va_iast hx hb hK hP hD hS 12 1 rfl rfl (ix_in hi7) dX13_readsDay_89 (fun H locs hP hD hS => ?_)
    have hP : va_P (dC, dI) vwCl (w_X13_readsDay cy a0 gth gvm gtt gtd v1.1 v1.2 gnv ((gac.1, (upd (upd (upd (upd (upd gac.2.1 ((5 : Int32) * gac.1).toNatClampNeg x1) (((5 : Int32) * gac.1) + (1 : Int32)).toNatClampNeg (0 : Int32)) (((5 : Int32) * gac.1) + (2 : Int32)).toNatClampNeg (0 : Int32)) (((5 : Int32) * gac.1) + (3 : Int32)).toNatClampNeg (0 : Int32)) (((5 : Int32) * gac.1) + (4 : Int32)).toNatClampNeg (0 : Int32)), gac.2.2)) grc gim) H := hP
    have hD : va_D A (w_X13_readsDay cy a0 gth gvm gtt gtd v1.1 v1.2 gnv ((gac.1, (upd (upd (upd (upd (upd gac.2.1 ((5 : Int32) * gac.1).toNatClampNeg x1) (((5 : Int32) * gac.1) + (1 : Int32)).toNatClampNeg (0 : Int32)) (((5 : Int32) * gac.1) + (2 : Int32)).toNatClampNeg (0 : Int32)) (((5 : Int32) * gac.1) + (3 : Int32)).toNatClampNeg (0 : Int32)) (((5 : Int32) * gac.1) + (4 : Int32)).toNatClampNeg (0 : Int32)), gac.2.2)) grc gim) := hD
    refine lv_iload_n hx hb dX13_readsDay_90 rfl (lv_at hl 2 rfl) ?_
    refine lv_iconst (v := (5 : Int32)) hx hb dX13_readsDay_91 (by decide) ?_
    refine lv_icmp_eq (tgt := 101) hx hb dX13_readsDay_92 (by decide) (fun c8 => ?_) (fun c8 => ?_)
    · rw [if_pos c8] at h
      exact c101 () v1.1 v1.2 (gac.1, (upd (upd (upd (upd (upd gac.2.1 ((5 : Int32) * gac.1).toNatClampNeg x1) (((5 : Int32) * gac.1) + (1 : Int32)).toNatClampNeg (0 : Int32)) (((5 : Int32) * gac.1) + (2 : Int32)).toNatClampNeg (0 : Int32)) (((5 : Int32) * gac.1) + (3 : Int32)).toNatClampNeg (0 : Int32)) (((5 : Int32) * gac.1) + (4 : Int32)).toNatClampNeg (0 : Int32)), gac.2.2) x1 ((5 : Int32) * gac.1) H locs ls h hP hD hS (lv_sub hl [1, 2, 0] rfl)
    · rw [if_neg c8] at h
      refine lv_iload_n hx hb dX13_readsDay_95 rfl (lv_at hl 2 rfl) ?_
      refine lv_bipush (v := (7 : Int32)) hx hb dX13_readsDay_96 (by decide) ?_
      refine lv_icmp_ne (tgt := 147) hx hb dX13_readsDay_98 (by decide) (fun c9 => ?_) (fun c9 => ?_)
      · rw [if_neg c9] at h
        refine lv_iload_n hx hb dX13_readsDay_147 rfl (lv_at hl 2 rfl) ?_
        refine lv_iconst (v := (4 : Int32)) hx hb dX13_readsDay_148 (by decide) ?_
        refine lv_icmp_eq (tgt := 259) hx hb dX13_readsDay_149 (by decide) (fun c10 => ?_) (fun c10 => ?_)
        · rw [if_pos c10] at h
          exact c259 () v1.1 v1.2 (gac.1, (upd (upd (upd (upd (upd gac.2.1 ((5 : Int32) * gac.1).toNatClampNeg x1) (((5 : Int32) * gac.1) + (1 : Int32)).toNatClampNeg (0 : Int32)) (((5 : Int32) * gac.1) + (2 : Int32)).toNatClampNeg (0 : Int32)) (((5 : Int32) * gac.1) + (3 : Int32)).toNatClampNeg (0 : Int32)) (((5 : Int32) * gac.1) + (4 : Int32)).toNatClampNeg (0 : Int32)), gac.2.2) H locs ls h hP hD hS (lv_sub hl [1] rfl)
        · rw [if_neg c10] at h
          refine lv_aload_n hx hb dX13_readsDay_152 rfl (lv_at hl 1 rfl) ?_
          refine va_get (D := (dC, dI)) (ci := 11) (v := .ref (a0 19)) (C := RX13) (T := TX13) (N := 64) hx hb hts in_X13 hown hK hP 0 rfl rfl 38 (by decide) lk2 (fun _ h9 => h9) rfl dX13_readsDay_153 ?_
          refine lv_iload_n hx hb dX13_readsDay_156 rfl (lv_at hl 0 rfl) ?_
          refine lv_iconst (v := (1 : Int32)) hx hb dX13_readsDay_157 (by decide) ?_
          refine lv_iadd hx hb dX13_readsDay_158 ?_
          refine lv_aload_n hx hb dX13_readsDay_159 rfl (lv_at hl 1 rfl) ?_
          refine lv_aload_n hx hb dX13_readsDay_160 rfl (lv_at hl 1 rfl) ?_
          refine va_get (D := (dC, dI)) (ci := 11) (v := .int gvm.1) (C := RX13) (T := TX13) (N := 64) hx hb hts in_X13 hown hK hP 0 rfl rfl 1 (by decide) lk4 (fun _ h9 => h9) rfl dX13_readsDay_161 ?_
          refine lv_iconst (v := (-1 : Int32)) hx hb dX13_readsDay_164 (by decide) ?_
          obtain ⟨v11, hv12, h⟩ := ok_bind h
          refine cl_vi (w2 := fun (u : (Int32 × Int32) × (Int32 × Int32 × Int32 × Int32 × Int32 × Int32 × Int64 × (Nat → Int32))) => w_X13_readsDay cy a0 gth gvm gtt gtd u.1 u.2 gnv ((gac.1, (upd (upd (upd (upd (upd gac.2.1 ((5 : Int32) * gac.1).toNatClampNeg x1) (((5 : Int32) * gac.1) + (1 : Int32)).toNatClampNeg (0 : Int32)) (((5 : Int32) * gac.1) + (2 : Int32)).toNatClampNeg (0 : Int32)) (((5 : Int32) * gac.1) + (3 : Int32)).toNatClampNeg (0 : Int32)) (((5 : Int32) * gac.1) + (4 : Int32)).toNatClampNeg (0 : Int32)), gac.2.2)) grc gim) (As := [.int gvm.1, .int (-1 : Int32)]) (rest := [.int (((5 : Int32) * gac.1) + (1 : Int32)), .ref (a0 19)]) ⟨hx, hb, hml, hown, hts⟩ (c_X13_among l dC dI cy a0 gth gvm gtt gtd v1.1 v1.2 gnv (gac.1, (upd (upd (upd (upd (upd gac.2.1 ((5 : Int32) * gac.1).toNatClampNeg x1) (((5 : Int32) * gac.1) + (1 : Int32)).toNatClampNeg (0 : Int32)) (((5 : Int32) * gac.1) + (2 : Int32)).toNatClampNeg (0 : Int32)) (((5 : Int32) * gac.1) + (3 : Int32)).toNatClampNeg (0 : Int32)) (((5 : Int32) * gac.1) + (4 : Int32)).toNatClampNeg (0 : Int32)), gac.2.2) grc gim gvm.1 (-1 : Int32) H.size v11 hv12) (cwV 2 hts gX13_readsDay_X13_among rfl rfl rfl (by decide +kernel) ⟨Nat.le_of_ble_eq_true rfl, Nat.le_of_ble_eq_true rfl⟩) (va_recv hK hP (ci := 11) (q0 := 0) rfl rfl) cl_blind (cl_pre hK hP hD [0, 10, 11] (by decide) rfl) hP hD hS hA [0, 10, 11] rfl rfl hl.1 rfl (lv_room (Nat.le_of_ble_eq_true rfl)) dX13_readsDay_165 ⟨Nat.le_of_ble_eq_true rfl, Nat.le_of_ble_eq_true rfl⟩ ⟨rfl, rfl⟩ (fun _ => updM [0, 10, 11] [1, 2, 3, 4, 5, 6, 7, 8, 9, 12, 13] [(a0 1, .inl (cy 1, 5, .inl (gvm.2.2.2.1))), (a0 2, .inl (cy 1, 5, .inl (gvm.2.2.2.2.1))), (a0 3, .inl (cy 1, 5, .inl (gvm.2.2.2.2.2.1))), (a0 4, .inl (cy 1, 25, .inl (gvm.2.2.2.2.2.2.1))), (a0 5, .inl (cy 1, 10, .inl (gvm.2.2.2.2.2.2.2.1))), (a0 6, .inl (cy 1, 10, .inl (gvm.2.2.2.2.2.2.2.2.1))), (a0 7, .inl (cy 1, 10, .inl (gvm.2.2.2.2.2.2.2.2.2.1))), (a0 8, .inl (cy 1, 10, .inl (gvm.2.2.2.2.2.2.2.2.2.2.1))), (a0 9, .inl (cy 1, 50, .inl (gvm.2.2.2.2.2.2.2.2.2.2.2))), (a0 19, .inl (cy 1, 600, .inl ((upd (upd (upd (upd (upd gac.2.1 ((5 : Int32) * gac.1).toNatClampNeg x1) (((5 : Int32) * gac.1) + (1 : Int32)).toNatClampNeg (0 : Int32)) (((5 : Int32) * gac.1) + (2 : Int32)).toNatClampNeg (0 : Int32)) (((5 : Int32) * gac.1) + (3 : Int32)).toNatClampNeg (0 : Int32)) (((5 : Int32) * gac.1) + (4 : Int32)).toNatClampNeg (0 : Int32))))), (a0 20, .inl (cy 1, 600, .inl (gac.2.2)))] 14 rfl rfl rfl rfl rfl (by decide +kernel) (by decide +kernel) rfl) (fun r u H locs hw hP hD hS => ?_)
          obtain ⟨rfl, rfl⟩ := hw
          have hP : va_P (dC, dI) vwCl (w_X13_readsDay cy a0 gth gvm gtt gtd v11.2.1 v11.2.2 gnv ((gac.1, (upd (upd (upd (upd (upd gac.2.1 ((5 : Int32) * gac.1).toNatClampNeg x1) (((5 : Int32) * gac.1) + (1 : Int32)).toNatClampNeg (0 : Int32)) (((5 : Int32) * gac.1) + (2 : Int32)).toNatClampNeg (0 : Int32)) (((5 : Int32) * gac.1) + (3 : Int32)).toNatClampNeg (0 : Int32)) (((5 : Int32) * gac.1) + (4 : Int32)).toNatClampNeg (0 : Int32)), gac.2.2)) grc gim) H := hP
          have hD : va_D A (w_X13_readsDay cy a0 gth gvm gtt gtd v11.2.1 v11.2.2 gnv ((gac.1, (upd (upd (upd (upd (upd gac.2.1 ((5 : Int32) * gac.1).toNatClampNeg x1) (((5 : Int32) * gac.1) + (1 : Int32)).toNatClampNeg (0 : Int32)) (((5 : Int32) * gac.1) + (2 : Int32)).toNatClampNeg (0 : Int32)) (((5 : Int32) * gac.1) + (3 : Int32)).toNatClampNeg (0 : Int32)) (((5 : Int32) * gac.1) + (4 : Int32)).toNatClampNeg (0 : Int32)), gac.2.2)) grc gim) := hD
          obtain ⟨hi13, h⟩ := ok_if h
          refine va_iast hx hb hK hP hD hS 12 1 rfl rfl (ix_in hi13) dX13_readsDay_168 (fun H locs hP hD hS => ?_)
          have hP : va_P (dC, dI) vwCl (w_X13_readsDay cy a0 gth gvm gtt gtd v11.2.1 v11.2.2 gnv ((gac.1, (upd (upd (upd (upd (upd (upd gac.2.1 ((5 : Int32) * gac.1).toNatClampNeg x1) (((5 : Int32) * gac.1) + (1 : Int32)).toNatClampNeg (0 : Int32)) (((5 : Int32) * gac.1) + (2 : Int32)).toNatClampNeg (0 : Int32)) (((5 : Int32) * gac.1) + (3 : Int32)).toNatClampNeg (0 : Int32)) (((5 : Int32) * gac.1) + (4 : Int32)).toNatClampNeg (0 : Int32)) (((5 : Int32) * gac.1) + (1 : Int32)).toNatClampNeg v11.1), gac.2.2)) grc gim) H := hP
          have hD : va_D A (w_X13_readsDay cy a0 gth gvm gtt gtd v11.2.1 v11.2.2 gnv ((gac.1, (upd (upd (upd (upd (upd (upd gac.2.1 ((5 : Int32) * gac.1).toNatClampNeg x1) (((5 : Int32) * gac.1) + (1 : Int32)).toNatClampNeg (0 : Int32)) (((5 : Int32) * gac.1) + (2 : Int32)).toNatClampNeg (0 : Int32)) (((5 : Int32) * gac.1) + (3 : Int32)).toNatClampNeg (0 : Int32)) (((5 : Int32) * gac.1) + (4 : Int32)).toNatClampNeg (0 : Int32)) (((5 : Int32) * gac.1) + (1 : Int32)).toNatClampNeg v11.1), gac.2.2)) grc gim) := hD
          refine lv_iload_n hx hb dX13_readsDay_169 rfl (lv_at hl 2 rfl) ?_
          refine lv_iconst (v := (2 : Int32)) hx hb dX13_readsDay_170 (by decide) ?_
          refine lv_icmp_eq (tgt := 180) hx hb dX13_readsDay_171 (by decide) (fun c14 => ?_) (fun c14 => ?_)
          · rw [if_pos c14] at h
            exact c180 () v11.2.1 v11.2.2 (gac.1, (upd (upd (upd (upd (upd (upd gac.2.1 ((5 : Int32) * gac.1).toNatClampNeg x1) (((5 : Int32) * gac.1) + (1 : Int32)).toNatClampNeg (0 : Int32)) (((5 : Int32) * gac.1) + (2 : Int32)).toNatClampNeg (0 : Int32)) (((5 : Int32) * gac.1) + (3 : Int32)).toNatClampNeg (0 : Int32)) (((5 : Int32) * gac.1) + (4 : Int32)).toNatClampNeg (0 : Int32)) (((5 : Int32) * gac.1) + (1 : Int32)).toNatClampNeg v11.1), gac.2.2) x1 ((5 : Int32) * gac.1) H locs ls h hP hD hS (lv_sub hl [1, 2, 0] rfl)
          · rw [if_neg c14] at h
            refine lv_iload_n hx hb dX13_readsDay_174 rfl (lv_at hl 2 rfl) ?_
            refine lv_bipush (v := (6 : Int32)) hx hb dX13_readsDay_175 (by decide) ?_
            refine lv_icmp_ne (tgt := 204) hx hb dX13_readsDay_177 (by decide) (fun c15 => ?_) (fun c15 => ?_)
            · rw [if_neg c15] at h
              exact c204 () v11.2.1 v11.2.2 (gac.1, (upd (upd (upd (upd (upd (upd gac.2.1 ((5 : Int32) * gac.1).toNatClampNeg x1) (((5 : Int32) * gac.1) + (1 : Int32)).toNatClampNeg (0 : Int32)) (((5 : Int32) * gac.1) + (2 : Int32)).toNatClampNeg (0 : Int32)) (((5 : Int32) * gac.1) + (3 : Int32)).toNatClampNeg (0 : Int32)) (((5 : Int32) * gac.1) + (4 : Int32)).toNatClampNeg (0 : Int32)) (((5 : Int32) * gac.1) + (1 : Int32)).toNatClampNeg v11.1), gac.2.2) x1 ((5 : Int32) * gac.1) H locs ls h hP hD hS (lv_sub hl [1, 2, 0] rfl)
            · rw [if_pos c15] at h
              exact c180 () v11.2.1 v11.2.2 (gac.1, (upd (upd (upd (upd (upd (upd gac.2.1 ((5 : Int32) * gac.1).toNatClampNeg x1) (((5 : Int32) * gac.1) + (1 : Int32)).toNatClampNeg (0 : Int32)) (((5 : Int32) * gac.1) + (2 : Int32)).toNatClampNeg (0 : Int32)) (((5 : Int32) * gac.1) + (3 : Int32)).toNatClampNeg (0 : Int32)) (((5 : Int32) * gac.1) + (4 : Int32)).toNatClampNeg (0 : Int32)) (((5 : Int32) * gac.1) + (1 : Int32)).toNatClampNeg v11.1), gac.2.2) x1 ((5 : Int32) * gac.1) H locs ls h hP hD hS (lv_sub hl [1, 2, 0] rfl)
      · rw [if_pos c9] at h
        exact c101 () v1.1 v1.2 (gac.1, (upd (upd (upd (upd (upd gac.2.1 ((5 : Int32) * gac.1).toNatClampNeg x1) (((5 : Int32) * gac.1) + (1 : Int32)).toNatClampNeg (0 : Int32)) (((5 : Int32) * gac.1) + (2 : Int32)).toNatClampNeg (0 : Int32)) (((5 : Int32) * gac.1) + (3 : Int32)).toNatClampNeg (0 : Int32)) (((5 : Int32) * gac.1) + (4 : Int32)).toNatClampNeg (0 : Int32)), gac.2.2) x1 ((5 : Int32) * gac.1) H locs ls h hP hD hS (lv_sub hl [1, 2, 0] rfl)
  have c20 : ∀ (k4 : (Int32 × Int32) → (Int32 × Int32 × Int32 × Int32 × Int32 × Int32 × Int64 × (Nat → Int32)) → (Int32 × (Nat → Int32) × (Nat → Int32)) → Int32 → Int32 → Option ((Int32 × Int32) × (Int32 × Int32 × Int32 × Int32 × Int32 × Int32 × Int64 × (Nat → Int32)) × (Int32 × (Nat → Int32) × (Nat → Int32)))) (hk4 : ∀ (gfl : Int32 × Int32) (grd : Int32 × Int32 × Int32 × Int32 × Int32 × Int32 × Int64 × (Nat → Int32)) (gac : Int32 × (Nat → Int32) × (Nat → Int32)) (x1 : Int32) (x2 : Int32) (H : Heap) (locs : List Loc) (ls : Array Slot), k4 gfl grd gac x1 x2 = some R0 → va_P (dC, dI) vwCl (w_X13_readsDay cy a0 gth gvm gtt gtd gfl grd gnv gac grc gim) H → va_D A (w_X13_readsDay cy a0 gth gvm gtt gtd gfl grd gnv gac grc gim) → va_S A s.heap H locs → lv_has ls 3 [(0, .ref (a0 0)), (1, .int x1), (2, .int x2)] → W p l e rm_X13_readsDay s m aa below meth c H locs 0 0 (MQ below qq aa s 0 0 A) (F0 m 4 ls [])), ∀ (gfl : Int32 × Int32) (grd : Int32 × Int32 × Int32 × Int32 × Int32 × Int32 × Int64 × (Nat → Int32)) (gac : Int32 × (Nat → Int32) × (Nat → Int32)) (x1 : Int32) (x2 : Int32) (H : Heap) (locs : List Loc) (ls : Array Slot), p_X13_readsDay_20 k4 gvm gtt gfl grd gac x1 x2 = some R0 → va_P (dC, dI) vwCl (w_X13_readsDay cy a0 gth gvm gtt gtd gfl grd gnv gac grc gim) H → va_D A (w_X13_readsDay cy a0 gth gvm gtt gtd gfl grd gnv gac grc gim) → va_S A s.heap H locs → lv_has ls 3 [(0, .ref (a0 0)), (1, .int x1), (2, .int x2)] → W p l e rm_X13_readsDay s m aa below meth c H locs 0 0 (MQ below qq aa s 0 0 A) (F0 m 20 ls []) := by
    intro k4 hk4 gfl grd gac x1 x2 H locs ls h hP hD hS hl
    unfold p_X13_readsDay_20 at h
    refine lv_iinc (v := (x2 + (1 : Int32))) (lv' := [(2, .int (x2 + (1 : Int32))), (0, .ref (a0 0)), (1, .int x1)]) hx hb dX13_readsDay_20 hl (k := 2) rfl rfl (by decide) rfl (fun ls hl => ?_)
    refine lv_goto (tgt := 4) hx hb dX13_readsDay_23 (by decide) ?_
    exact hk4 gfl grd gac x1 (x2 + (1 : Int32)) H locs ls h hP hD hS (lv_sub hl [1, 2, 0] rfl)
  have c4 : ∀ (n : Nat), ∀ (gfl : Int32 × Int32) (grd : Int32 × Int32 × Int32 × Int32 × Int32 × Int32 × Int64 × (Nat → Int32)) (gac : Int32 × (Nat → Int32) × (Nat → Int32)) (x1 : Int32) (x2 : Int32) (H : Heap) (locs : List Loc) (ls : Array Slot), p_X13_readsDay_4 gvm gtt n gfl grd gac x1 x2 = some R0 → va_P (dC, dI) vwCl (w_X13_readsDay cy a0 gth gvm gtt gtd gfl grd gnv gac grc gim) H → va_D A (w_X13_readsDay cy a0 gth gvm gtt gtd gfl grd gnv gac grc gim) → va_S A s.heap H locs → lv_has ls 3 [(0, .ref (a0 0)), (1, .int x1), (2, .int x2)] → W p l e rm_X13_readsDay s m aa below meth c H locs 0 0 (MQ below qq aa s 0 0 A) (F0 m 4 ls []) := by
    intro  n
    induction n with
    | zero => intro gfl grd gac x1 x2 H locs ls h; exact no_some h
    | succ n ih =>
      intro gfl grd gac x1 x2 H locs ls h hP hD hS hl
      rw [p_X13_readsDay_4.eq_2] at h
      refine lv_iload_n hx hb dX13_readsDay_4 rfl (lv_at hl 2 rfl) ?_
      refine lv_bipush (v := (7 : Int32)) hx hb dX13_readsDay_5 (by decide) ?_
      refine lv_icmp_gt (tgt := 26) hx hb dX13_readsDay_7 (by decide) (fun c1 => ?_) (fun c1 => ?_)
      · rw [if_pos c1] at h
        refine lv_aload_n hx hb dX13_readsDay_26 rfl (lv_at hl 0 rfl) ?_
        refine lv_iload_n hx hb dX13_readsDay_27 rfl (lv_at hl 1 rfl) ?_
        refine lv_iconst (v := (-1 : Int32)) hx hb dX13_readsDay_28 (by decide) ?_
        refine lv_icmp_eq (tgt := 36) hx hb dX13_readsDay_29 (by decide) (fun c2 => ?_) (fun c2 => ?_)
        · rw [if_pos c2] at h
          refine lv_iconst (v := (0 : Int32)) hx hb dX13_readsDay_36 (by decide) ?_
          exact c37 () gfl grd gac x1 (0 : Int32) H locs ls h hP hD hS (lv_sub hl [0, 1] rfl)
        · rw [if_neg c2] at h
          refine lv_iconst (v := (1 : Int32)) hx hb dX13_readsDay_32 (by decide) ?_
          refine lv_goto (tgt := 37) hx hb dX13_readsDay_33 (by decide) ?_
          exact c37 () gfl grd gac x1 (1 : Int32) H locs ls h hP hD hS (lv_sub hl [0, 1] rfl)
      · rw [if_neg c1] at h
        refine lv_aload_n hx hb dX13_readsDay_10 rfl (lv_at hl 0 rfl) ?_
        refine lv_iload_n hx hb dX13_readsDay_11 rfl (lv_at hl 2 rfl) ?_
        obtain ⟨v3, hv4, h⟩ := ok_bind h
        refine cl_vi (w2 := fun (_ : Unit) => w_X13_readsDay cy a0 gth gvm gtt gtd gfl grd gnv gac grc gim) (As := [.int x2]) (rest := []) ⟨hx, hb, hml, hown, hts⟩ (c_X13_is l dC dI cy a0 gth gvm gtd gfl grd gnv gac grc gim x2 H.size v3 hv4) (cwV 1 hts gX13_readsDay_X13_is rfl rfl rfl (by decide +kernel) ⟨Nat.le_of_ble_eq_true rfl, Nat.le_of_ble_eq_true rfl⟩) (va_recv hK hP (ci := 11) (q0 := 0) rfl rfl) cl_blind (cl_pre hK hP hD [0, 11] (by decide) rfl) hP hD hS hA [0, 11] rfl rfl hl.1 rfl (lv_room (Nat.le_of_ble_eq_true rfl)) dX13_readsDay_12 ⟨Nat.le_of_ble_eq_true rfl, Nat.le_of_ble_eq_true rfl⟩ ⟨rfl, rfl⟩ (fun _ => updR [0, 11] rfl) (fun r u H locs hw hP hD hS => ?_)
        have hw := hw.symm
        subst hw
        have hP : va_P (dC, dI) vwCl (w_X13_readsDay cy a0 gth gvm gtt gtd gfl grd gnv gac grc gim) H := hP
        have hD : va_D A (w_X13_readsDay cy a0 gth gvm gtt gtd gfl grd gnv gac grc gim) := hD
        refine lv_if_eq (tgt := 20) hx hb dX13_readsDay_15 (by decide) (fun c5 => ?_) (fun c5 => ?_)
        · rw [if_pos c5] at h
          exact c20 (p_X13_readsDay_4 gvm gtt n) ih gfl grd gac x1 x2 H locs ls h hP hD hS (lv_sub hl [0, 1, 2] rfl)
        · rw [if_neg c5] at h
          refine lv_iload_n hx hb dX13_readsDay_18 rfl (lv_at hl 2 rfl) ?_
          refine lv_istore_n (lv' := [(1, .int x2), (0, .ref (a0 0)), (2, .int x2)]) hx hb dX13_readsDay_19 rfl hl (by decide) rfl (fun ls hl => ?_)
          exact c20 (p_X13_readsDay_4 gvm gtt n) ih gfl grd gac x2 x2 H locs ls h hP hD hS (lv_sub hl [1, 0, 2] rfl)
  obtain ⟨H, hH⟩ : ∃ H : Heap, H = s.heap := ⟨_, rfl⟩
  obtain ⟨locs, hlocs⟩ : ∃ locs : List Loc, locs = [] := ⟨_, rfl⟩
  have hS : va_S A s.heap H locs := by rw [hH, hlocs]; exact hS
  rw [← hH] at hP
  suffices hg : W p l e rm_X13_readsDay s m aa below meth c H locs 0 0 (MQ below qq aa s 0 0 A) (F0 m 0 ls []) by subst hH; subst hlocs; exact hg
  unfold p_X13_readsDay at h
  refine lv_iconst (v := (-1 : Int32)) hx hb dX13_readsDay_0 (by decide) ?_
  refine lv_istore_n (lv' := [(1, .int (-1 : Int32)), (0, .ref (a0 0))]) hx hb dX13_readsDay_1 rfl hl (by decide) rfl (fun ls hl => ?_)
  refine lv_iconst (v := (0 : Int32)) hx hb dX13_readsDay_2 (by decide) ?_
  refine lv_istore_n (lv' := [(2, .int (0 : Int32)), (1, .int (-1 : Int32)), (0, .ref (a0 0))]) hx hb dX13_readsDay_3 rfl hl (by decide) rfl (fun ls hl => ?_)
  exact c4 fu gfl grd gac (-1 : Int32) (0 : Int32) H locs ls h hP hD hS (lv_sub hl [2, 1, 0] rfl)
