abbrev w_X13_thrown (cy : Nat → ClassId) (a0 : Nat → Nat) (gth : Int32) (gvm : Int32 × Int32 × Int32 × (Nat → Int32) × (Nat → Int32) × (Nat → Int32) × (Nat → Int32) × (Nat → Int32) × (Nat → Int32) × (Nat → Int32) × (Nat → Int32) × (Nat → Int32)) (gtd : Int32) (gfl : Int32 × Int32) (grd : Int32 × Int32 × Int32 × Int32 × Int32 × Int32 × Int64 × (Nat → Int32)) (gnv : Int32 × Int32 × Int32 × Int32 × Int32 × (Nat → Int32) × (Nat → Int32) × (Nat → Int32) × (Nat → Int32) × (Nat → Int32) × (Nat → Int32)) (gac : Int32 × (Nat → Int32) × (Nat → Int32)) (grc : Int32 × (Nat → Int32)) (gim : Int32 × Int32 × Int32 × (Nat → Int32) × (Nat → Int32) × (Nat → Int32) × (Nat → Int32) × (Nat → Int32) × (Nat → Int32) × (Nat → Int32) × (Nat → Int32) × (Nat → Int32)) : va_W := [(a0 0, .inr (11, [.int (gth), .int (gvm.1), .int (gvm.2.1), .int (gvm.2.2.1), .ref (a0 1), .ref (a0 2), .ref (a0 3), .ref (a0 4), .ref (a0 5), .ref (a0 6), .ref (a0 7), .ref (a0 8), .ref (a0 9), .ref (a0 10), .int (gtd), .int (gfl.1), .int (gfl.2), .ref (a0 11), .int (grd.1), .int (grd.2.1), .int (grd.2.2.1), .int (grd.2.2.2.1), .int (grd.2.2.2.2.1), .int (grd.2.2.2.2.2.1), .long (grd.2.2.2.2.2.2.1), .ref (a0 12), .int (gnv.1), .int (gnv.2.1), .int (gnv.2.2.1), .int (gnv.2.2.2.1), .int (gnv.2.2.2.2.1), .ref (a0 13), .ref (a0 14), .ref (a0 15), .ref (a0 16), .ref (a0 17), .ref (a0 18), .int (gac.1), .ref (a0 19), .ref (a0 20), .ref (a0 21), .ref (a0 22), .ref (a0 23), .ref (a0 24), .ref (a0 25), .ref (a0 26), .ref (a0 27), .int (grc.1), .ref (a0 28), .ref (a0 29), .ref (a0 30), .ref (a0 31), .int (gim.1), .int (gim.2.1), .int (gim.2.2.1), .ref (a0 32), .ref (a0 33), .ref (a0 34), .ref (a0 35), .ref (a0 36), .ref (a0 37), .ref (a0 38), .ref (a0 39), .ref (a0 40)]))]
abbrev rm_X13_thrown : Room := { frames := 0, cells := 0, slots := 0, locals := 0 }
set_option maxHeartbeats 1000000 in
set_option maxRecDepth 100000 in
theorem c_X13_thrown (l : Launch) (dC : Nat → ClassId) (dI : Nat → Nat → Nat) (cy : Nat → ClassId) (a0 : Nat → Nat) (gth : Int32) (gvm : Int32 × Int32 × Int32 × (Nat → Int32) × (Nat → Int32) × (Nat → Int32) × (Nat → Int32) × (Nat → Int32) × (Nat → Int32) × (Nat → Int32) × (Nat → Int32) × (Nat → Int32)) (gtd : Int32) (gfl : Int32 × Int32) (grd : Int32 × Int32 × Int32 × Int32 × Int32 × Int32 × Int64 × (Nat → Int32)) (gnv : Int32 × Int32 × Int32 × Int32 × Int32 × (Nat → Int32) × (Nat → Int32) × (Nat → Int32) × (Nat → Int32) × (Nat → Int32) × (Nat → Int32)) (gac : Int32 × (Nat → Int32) × (Nat → Int32)) (grc : Int32 × (Nat → Int32)) (gim : Int32 × Int32 × Int32 × (Nat → Int32) × (Nat → Int32) × (Nat → Int32) × (Nat → Int32) × (Nat → Int32) × (Nat → Int32) × (Nat → Int32) × (Nat → Int32) × (Nat → Int32)) (sz : Nat) (R0 : Int32) (h : p_X13_thrown gth = some R0) : Met l yX13_thrown wsX13_thrown rm_X13_thrown (va_Pc [.ref (a0 0)] (prC dC dI cy (w_X13_thrown cy a0 gth gvm gtd gfl grd gnv gac grc gim) sz)) (va_Qi (fun (r : Int32) (_ : Unit) => r = R0) (fun (_ : Unit) t => poC dC dI cy (w_X13_thrown cy a0 gth gvm gtd gfl grd gnv gac grc gim) t) (va_A (w_X13_thrown cy a0 gth gvm gtd gfl grd gnv gac grc gim) sz)) 0 0 (va_A (w_X13_thrown cy a0 gth gvm gtd gfl grd gnv gac grc gim) sz) := by
  refine Met.ofW (cc := cX13_thrown) (maxL := 1) (ret := (some .int)) (by decide) rfl ?_
  intro p e s m aa below meth c s₁ B hml hv
  obtain ⟨haa, hsz, hP, hK, hD0⟩ := hv
  have hx := B.exec
  have hb := B.bytes
  have hr := B.returns
  have hts := atoms_spec (ws := wsX13_thrown) B.pre
  have hown : s.vm.findClass RX13 = some m.cls := findClass_of_methodNamed B.named
  have hlocks := B.notSynchronized
  subst hsz
  have hD := hD0.self (sz := s.heap.size)
  obtain ⟨qq, hqq⟩ : ∃ qq, qq = (va_Qi (fun (r : Int32) (_ : Unit) => r = R0) (fun (_ : Unit) t => poC dC dI cy (w_X13_thrown cy a0 gth gvm gtd gfl grd gnv gac grc gim) t) (va_A (w_X13_thrown cy a0 gth gvm gtd gfl grd gnv gac grc gim) s.heap.size)) := ⟨_, rfl⟩
  rw [← hqq]
  generalize hAe : va_A (w_X13_thrown cy a0 gth gvm gtd gfl grd gnv gac grc gim) s.heap.size = A at hD hqq ⊢
  have hA : ∀ q : Nat, s.heap.size ≤ q → A q := fun q h => by rw [← hAe]; exact Or.inr h
  have hS : va_S A s.heap s.heap [] := va_S.rf
  have hl := lv_entry ([.ref (a0 0)]) (n := 1) (Nat.le_of_ble_eq_true rfl)
  have hE : entryFrame m aa 1 = F0 m 0 ((lg_sl ([.ref (a0 0)]) ++ List.replicate (1 - (lg_sl ([.ref (a0 0)])).length) Slot.unset).toArray) [] := by rw [haa]; exact lg_entry_eq m _ 1
  refine W.eq hE ?_
  generalize (lg_sl ([.ref (a0 0)]) ++ List.replicate (1 - (lg_sl ([.ref (a0 0)])).length) Slot.unset).toArray = ls at hl ⊢
  have hl : lv_has ls 1 [(0, .ref (a0 0))] := hl
  change W p l e rm_X13_thrown s m aa below meth c s.heap [] 0 0 (MQ below qq aa s 0 0 A) (F0 m 0 ls [])
  have hS0 := hS
  have lk0 := hts (.fieldLink RX13 135 "GoatDoorsModel" "thrown" "I") (by decide +kernel)
  have in_X13 : ∀ w ∈ wsX130, w ∈ wsX13_thrown := by decide +kernel
  obtain ⟨H, hH⟩ : ∃ H : Heap, H = s.heap := ⟨_, rfl⟩
  obtain ⟨locs, hlocs⟩ : ∃ locs : List Loc, locs = [] := ⟨_, rfl⟩
  have hS : va_S A s.heap H locs := by rw [hH, hlocs]; exact hS
  rw [← hH] at hP
  suffices hg : W p l e rm_X13_thrown s m aa below meth c H locs 0 0 (MQ below qq aa s 0 0 A) (F0 m 0 ls []) by subst hH; subst hlocs; exact hg
  unfold p_X13_thrown at h
  refine lv_aload_n hx hb dX13_thrown_0 rfl (lv_at hl 0 rfl) ?_
  refine va_get (D := (dC, dI)) (ci := 11) (v := .int gth) (C := RX13) (T := TX13) (N := 64) hx hb hts in_X13 hown hK hP 0 rfl rfl 0 (by decide) lk0 (fun _ h9 => h9) rfl dX13_thrown_1 ?_
  exact W.iret (v := gth) hx hb hr (fun t ht hW => by rw [hqq]; have hh := Option.some.inj h; exact ⟨⟨gth, (()), rfl, Option.some.inj h, by rw [ht]; exact hP, va_K.moved hW.alike hK⟩, hS.F ht⟩) hS.2.2 dX13_thrown_4

abbrev w_X13_right (cy : Nat → ClassId) (a0 : Nat → Nat) (gth : Int32) (gvm : Int32 × Int32 × Int32 × (Nat → Int32) × (Nat → Int32) × (Nat → Int32) × (Nat → Int32) × (Nat → Int32) × (Nat → Int32) × (Nat → Int32) × (Nat → Int32) × (Nat → Int32)) (gtd : Int32) (gfl : Int32 × Int32) (grd : Int32 × Int32 × Int32 × Int32 × Int32 × Int32 × Int64 × (Nat → Int32)) (gnv : Int32 × Int32 × Int32 × Int32 × Int32 × (Nat → Int32) × (Nat → Int32) × (Nat → Int32) × (Nat → Int32) × (Nat → Int32) × (Nat → Int32)) (gac : Int32 × (Nat → Int32) × (Nat → Int32)) (grc : Int32 × (Nat → Int32)) (gim : Int32 × Int32 × Int32 × (Nat → Int32) × (Nat → Int32) × (Nat → Int32) × (Nat → Int32) × (Nat → Int32) × (Nat → Int32) × (Nat → Int32) × (Nat → Int32) × (Nat → Int32)) : va_W := [(a0 0, .inr (11, [.int (gth), .int (gvm.1), .int (gvm.2.1), .int (gvm.2.2.1), .ref (a0 1), .ref (a0 2), .ref (a0 3), .ref (a0 4), .ref (a0 5), .ref (a0 6), .ref (a0 7), .ref (a0 8), .ref (a0 9), .ref (a0 10), .int (gtd), .int (gfl.1), .int (gfl.2), .ref (a0 11), .int (grd.1), .int (grd.2.1), .int (grd.2.2.1), .int (grd.2.2.2.1), .int (grd.2.2.2.2.1), .int (grd.2.2.2.2.2.1), .long (grd.2.2.2.2.2.2.1), .ref (a0 12), .int (gnv.1), .int (gnv.2.1), .int (gnv.2.2.1), .int (gnv.2.2.2.1), .int (gnv.2.2.2.2.1), .ref (a0 13), .ref (a0 14), .ref (a0 15), .ref (a0 16), .ref (a0 17), .ref (a0 18), .int (gac.1), .ref (a0 19), .ref (a0 20), .ref (a0 21), .ref (a0 22), .ref (a0 23), .ref (a0 24), .ref (a0 25), .ref (a0 26), .ref (a0 27), .int (grc.1), .ref (a0 28), .ref (a0 29), .ref (a0 30), .ref (a0 31), .int (gim.1), .int (gim.2.1), .int (gim.2.2.1), .ref (a0 32), .ref (a0 33), .ref (a0 34), .ref (a0 35), .ref (a0 36), .ref (a0 37), .ref (a0 38), .ref (a0 39), .ref (a0 40)]))]
abbrev rm_X13_right : Room := { frames := 0, cells := 0, slots := 0, locals := 0 }
set_option maxHeartbeats 1000000 in
set_option maxRecDepth 100000 in
theorem c_X13_right (l : Launch) (dC : Nat → ClassId) (dI : Nat → Nat → Nat) (cy : Nat → ClassId) (a0 : Nat → Nat) (gth : Int32) (gvm : Int32 × Int32 × Int32 × (Nat → Int32) × (Nat → Int32) × (Nat → Int32) × (Nat → Int32) × (Nat → Int32) × (Nat → Int32) × (Nat → Int32) × (Nat → Int32) × (Nat → Int32)) (gtd : Int32) (gfl : Int32 × Int32) (grd : Int32 × Int32 × Int32 × Int32 × Int32 × Int32 × Int64 × (Nat → Int32)) (gnv : Int32 × Int32 × Int32 × Int32 × Int32 × (Nat → Int32) × (Nat → Int32) × (Nat → Int32) × (Nat → Int32) × (Nat → Int32) × (Nat → Int32)) (gac : Int32 × (Nat → Int32) × (Nat → Int32)) (grc : Int32 × (Nat → Int32)) (gim : Int32 × Int32 × Int32 × (Nat → Int32) × (Nat → Int32) × (Nat → Int32) × (Nat → Int32) × (Nat → Int32) × (Nat → Int32) × (Nat → Int32) × (Nat → Int32) × (Nat → Int32)) (x1 : Int32) (x2 : Int32) (sz : Nat) (R0 : Int32 × (Int32)) (h : p_X13_right gth x1 x2 = some R0) : Met l yX13_right wsX13_right rm_X13_right (va_Pc [.ref (a0 0), .int x1, .int x2] (prC dC dI cy (w_X13_right cy a0 gth gvm gtd gfl grd gnv gac grc gim) sz)) (va_Qi (fun (r : Int32) (u : (Int32)) => r = R0.1 ∧ u = R0.2) (fun (u : (Int32)) t => poC dC dI cy (w_X13_right cy a0 u gvm gtd gfl grd gnv gac grc gim) t) (va_A (w_X13_right cy a0 gth gvm gtd gfl grd gnv gac grc gim) sz)) 0 0 (va_A (w_X13_right cy a0 gth gvm gtd gfl grd gnv gac grc gim) sz) := by
  refine Met.ofW (cc := cX13_right) (maxL := 3) (ret := (some .boolean)) (by decide) rfl ?_
  intro p e s m aa below meth c s₁ B hml hv
  obtain ⟨haa, hsz, hP, hK, hD0⟩ := hv
  have hx := B.exec
  have hb := B.bytes
  have hr := B.returns
  have hts := atoms_spec (ws := wsX13_right) B.pre
  have hown : s.vm.findClass RX13 = some m.cls := findClass_of_methodNamed B.named
  have hlocks := B.notSynchronized
  subst hsz
  have hD := hD0.self (sz := s.heap.size)
  obtain ⟨qq, hqq⟩ : ∃ qq, qq = (va_Qi (fun (r : Int32) (u : (Int32)) => r = R0.1 ∧ u = R0.2) (fun (u : (Int32)) t => poC dC dI cy (w_X13_right cy a0 u gvm gtd gfl grd gnv gac grc gim) t) (va_A (w_X13_right cy a0 gth gvm gtd gfl grd gnv gac grc gim) s.heap.size)) := ⟨_, rfl⟩
  rw [← hqq]
  generalize hAe : va_A (w_X13_right cy a0 gth gvm gtd gfl grd gnv gac grc gim) s.heap.size = A at hD hqq ⊢
  have hA : ∀ q : Nat, s.heap.size ≤ q → A q := fun q h => by rw [← hAe]; exact Or.inr h
  have hS : va_S A s.heap s.heap [] := va_S.rf
  have hl := lv_entry ([.ref (a0 0), .int x1, .int x2]) (n := 3) (Nat.le_of_ble_eq_true rfl)
  have hE : entryFrame m aa 3 = F0 m 0 ((lg_sl ([.ref (a0 0), .int x1, .int x2]) ++ List.replicate (3 - (lg_sl ([.ref (a0 0), .int x1, .int x2])).length) Slot.unset).toArray) [] := by rw [haa]; exact lg_entry_eq m _ 3
  refine W.eq hE ?_
  generalize (lg_sl ([.ref (a0 0), .int x1, .int x2]) ++ List.replicate (3 - (lg_sl ([.ref (a0 0), .int x1, .int x2])).length) Slot.unset).toArray = ls at hl ⊢
  have hl : lv_has ls 3 [(0, .ref (a0 0)), (1, .int x1), (2, .int x2)] := hl
  change W p l e rm_X13_right s m aa below meth c s.heap [] 0 0 (MQ below qq aa s 0 0 A) (F0 m 0 ls [])
  have hS0 := hS
  have lk0 := hts (.fieldLink RX13 135 "GoatDoorsModel" "thrown" "I") (by decide +kernel)
  have in_X13 : ∀ w ∈ wsX130, w ∈ wsX13_right := by decide +kernel
  have c16 : ∀ (_u : Unit), ∀ (gth : Int32) (H : Heap) (locs : List Loc) (ls : Array Slot), p_X13_right_16 gth = some R0 → va_P (dC, dI) vwCl (w_X13_right cy a0 gth gvm gtd gfl grd gnv gac grc gim) H → va_D A (w_X13_right cy a0 gth gvm gtd gfl grd gnv gac grc gim) → va_S A s.heap H locs → lv_has ls 3 [(0, .ref (a0 0))] → W p l e rm_X13_right s m aa below meth c H locs 0 0 (MQ below qq aa s 0 0 A) (F0 m 16 ls []) := by
    intro _ gth H locs ls h hP hD hS hl
    unfold p_X13_right_16 at h
    refine lv_aload_n hx hb dX13_right_16 rfl (lv_at hl 0 rfl) ?_
    refine va_get (D := (dC, dI)) (ci := 11) (v := .int gth) (C := RX13) (T := TX13) (N := 64) hx hb hts in_X13 hown hK hP 0 rfl rfl 0 (by decide) lk0 (fun _ h9 => h9) rfl dX13_right_17 ?_
    refine lv_if_ne (tgt := 27) hx hb dX13_right_20 (by decide) (fun c1 => ?_) (fun c1 => ?_)
    · rw [if_neg c1] at h
      refine lv_iconst (v := (0 : Int32)) hx hb dX13_right_27 (by decide) ?_
      exact W.zret (v := (0 : Int32)) (ty := .boolean) hx hb hr rfl (fun t ht hW => by rw [hqq]; have hh := Option.some.inj h; exact ⟨⟨(0 : Int32), (gth), rfl, ⟨fst_of hh, snd_of hh⟩, by rw [ht]; exact hP, va_K.moved hW.alike hK⟩, hS.F ht⟩) hS.2.2 dX13_right_28
    · rw [if_pos c1] at h
      refine lv_iconst (v := (1 : Int32)) hx hb dX13_right_23 (by decide) ?_
      refine lv_goto (tgt := 28) hx hb dX13_right_24 (by decide) ?_
      exact W.zret (v := (1 : Int32)) (ty := .boolean) hx hb hr rfl (fun t ht hW => by rw [hqq]; have hh := Option.some.inj h; exact ⟨⟨(1 : Int32), (gth), rfl, ⟨fst_of hh, snd_of hh⟩, by rw [ht]; exact hP, va_K.moved hW.alike hK⟩, hS.F ht⟩) hS.2.2 dX13_right_28
  obtain ⟨H, hH⟩ : ∃ H : Heap, H = s.heap := ⟨_, rfl⟩
  obtain ⟨locs, hlocs⟩ : ∃ locs : List Loc, locs = [] := ⟨_, rfl⟩
  have hS : va_S A s.heap H locs := by rw [hH, hlocs]; exact hS
  rw [← hH] at hP
  suffices hg : W p l e rm_X13_right s m aa below meth c H locs 0 0 (MQ below qq aa s 0 0 A) (F0 m 0 ls []) by subst hH; subst hlocs; exact hg
  unfold p_X13_right at h
  refine lv_aload_n hx hb dX13_right_0 rfl (lv_at hl 0 rfl) ?_
  refine va_get (D := (dC, dI)) (ci := 11) (v := .int gth) (C := RX13) (T := TX13) (N := 64) hx hb hts in_X13 hown hK hP 0 rfl rfl 0 (by decide) lk0 (fun _ h9 => h9) rfl dX13_right_1 ?_
  refine lv_if_ne (tgt := 16) hx hb dX13_right_4 (by decide) (fun c1 => ?_) (fun c1 => ?_)
  · rw [if_neg c1] at h
    exact c16 () gth H locs ls h hP hD hS (lv_sub hl [0] rfl)
  · rw [if_pos c1] at h
    refine lv_iload_n hx hb dX13_right_7 rfl (lv_at hl 1 rfl) ?_
    refine lv_if_ne (tgt := 16) hx hb dX13_right_8 (by decide) (fun c2 => ?_) (fun c2 => ?_)
    · rw [if_neg c2] at h
      exact c16 () gth H locs ls h hP hD hS (lv_sub hl [0] rfl)
    · rw [if_pos c2] at h
      refine lv_aload_n hx hb dX13_right_11 rfl (lv_at hl 0 rfl) ?_
      refine lv_iload_n hx hb dX13_right_12 rfl (lv_at hl 2 rfl) ?_
      refine va_put (D := (dC, dI)) (ci := 11) (v := .int x2) (ty := .int) (C := RX13) (T := TX13) (N := 64) hx hb hts in_X13 tyX13 tyX13_ok nmX13 hown hK hP hD hS 0 rfl rfl 0 (by decide) lk0 (fun _ h9 => h9) rfl (by decide +kernel) rfl rfl (Nat.le_of_ble_eq_true rfl) dX13_right_13 (fun H locs hP hD hS => ?_)
      have hP : va_P (dC, dI) vwCl (w_X13_right cy a0 x2 gvm gtd gfl grd gnv gac grc gim) H := hP
      have hD : va_D A (w_X13_right cy a0 x2 gvm gtd gfl grd gnv gac grc gim) := hD
      exact c16 () x2 H locs ls h hP hD hS (lv_sub hl [0] rfl)

abbrev w_X13_within (cy : Nat → ClassId)   : va_W := []
abbrev rm_X13_within : Room := { frames := 0, cells := 0, slots := 0, locals := 0 }
set_option maxHeartbeats 1000000 in
set_option maxRecDepth 100000 in
theorem c_X13_within (l : Launch) (dC : Nat → ClassId) (dI : Nat → Nat → Nat) (cy : Nat → ClassId)   (x0 : Int32) (x1 : Int32) (x2 : Int32) (sz : Nat) (R0 : Int32) (h : p_X13_within x0 x1 x2 = some R0) : Met l yX13_within wsX13_within rm_X13_within (va_Pc [.int x0, .int x1, .int x2] (prC dC dI cy (w_X13_within cy  ) sz)) (va_Qi (fun (r : Int32) (_ : Unit) => r = R0) (fun (_ : Unit) t => poC dC dI cy (w_X13_within cy  ) t) (va_A (w_X13_within cy  ) sz)) 0 0 (va_A (w_X13_within cy  ) sz) := by
  refine Met.ofW (cc := cX13_within) (maxL := 3) (ret := (some .boolean)) (by decide) rfl ?_
  intro p e s m aa below meth c s₁ B hml hv
  obtain ⟨haa, hsz, hP, hK, hD0⟩ := hv
  have hx := B.exec
  have hb := B.bytes
  have hr := B.returns
  have hts := atoms_spec (ws := wsX13_within) B.pre
  have hown : s.vm.findClass RX13 = some m.cls := findClass_of_methodNamed B.named
  have hlocks := B.notSynchronized
  subst hsz
  have hD := hD0.self (sz := s.heap.size)
  obtain ⟨qq, hqq⟩ : ∃ qq, qq = (va_Qi (fun (r : Int32) (_ : Unit) => r = R0) (fun (_ : Unit) t => poC dC dI cy (w_X13_within cy  ) t) (va_A (w_X13_within cy  ) s.heap.size)) := ⟨_, rfl⟩
  rw [← hqq]
  generalize hAe : va_A (w_X13_within cy  ) s.heap.size = A at hD hqq ⊢
  have hA : ∀ q : Nat, s.heap.size ≤ q → A q := fun q h => by rw [← hAe]; exact Or.inr h
  have hS : va_S A s.heap s.heap [] := va_S.rf
  have hl := lv_entry ([.int x0, .int x1, .int x2]) (n := 3) (Nat.le_of_ble_eq_true rfl)
  have hE : entryFrame m aa 3 = F0 m 0 ((lg_sl ([.int x0, .int x1, .int x2]) ++ List.replicate (3 - (lg_sl ([.int x0, .int x1, .int x2])).length) Slot.unset).toArray) [] := by rw [haa]; exact lg_entry_eq m _ 3
  refine W.eq hE ?_
  generalize (lg_sl ([.int x0, .int x1, .int x2]) ++ List.replicate (3 - (lg_sl ([.int x0, .int x1, .int x2])).length) Slot.unset).toArray = ls at hl ⊢
  have hl : lv_has ls 3 [(0, .int x0), (1, .int x1), (2, .int x2)] := hl
  change W p l e rm_X13_within s m aa below meth c s.heap [] 0 0 (MQ below qq aa s 0 0 A) (F0 m 0 ls [])
  have hS0 := hS
  obtain ⟨H, hH⟩ : ∃ H : Heap, H = s.heap := ⟨_, rfl⟩
  obtain ⟨locs, hlocs⟩ : ∃ locs : List Loc, locs = [] := ⟨_, rfl⟩
  have hS : va_S A s.heap H locs := by rw [hH, hlocs]; exact hS
  rw [← hH] at hP
  suffices hg : W p l e rm_X13_within s m aa below meth c H locs 0 0 (MQ below qq aa s 0 0 A) (F0 m 0 ls []) by subst hH; subst hlocs; exact hg
  unfold p_X13_within at h
  refine lv_iload_n hx hb dX13_within_0 rfl (lv_at hl 0 rfl) ?_
  refine lv_iload_n hx hb dX13_within_1 rfl (lv_at hl 1 rfl) ?_
  refine lv_icmp_lt (tgt := 14) hx hb dX13_within_2 (by decide) (fun c1 => ?_) (fun c1 => ?_)
  · rw [if_pos c1] at h
    refine lv_iconst (v := (0 : Int32)) hx hb dX13_within_14 (by decide) ?_
    exact W.zret (v := (0 : Int32)) (ty := .boolean) hx hb hr rfl (fun t ht hW => by rw [hqq]; have hh := Option.some.inj h; exact ⟨⟨(0 : Int32), (()), rfl, Option.some.inj h, by rw [ht]; exact hP, va_K.moved hW.alike hK⟩, hS.F ht⟩) hS.2.2 dX13_within_15
  · rw [if_neg c1] at h
    refine lv_iload_n hx hb dX13_within_5 rfl (lv_at hl 0 rfl) ?_
    refine lv_iload_n hx hb dX13_within_6 rfl (lv_at hl 2 rfl) ?_
    refine lv_icmp_gt (tgt := 14) hx hb dX13_within_7 (by decide) (fun c2 => ?_) (fun c2 => ?_)
    · rw [if_pos c2] at h
      refine lv_iconst (v := (0 : Int32)) hx hb dX13_within_14 (by decide) ?_
      exact W.zret (v := (0 : Int32)) (ty := .boolean) hx hb hr rfl (fun t ht hW => by rw [hqq]; have hh := Option.some.inj h; exact ⟨⟨(0 : Int32), (()), rfl, Option.some.inj h, by rw [ht]; exact hP, va_K.moved hW.alike hK⟩, hS.F ht⟩) hS.2.2 dX13_within_15
    · rw [if_neg c2] at h
      refine lv_iconst (v := (1 : Int32)) hx hb dX13_within_10 (by decide) ?_
      refine lv_goto (tgt := 15) hx hb dX13_within_11 (by decide) ?_
      exact W.zret (v := (1 : Int32)) (ty := .boolean) hx hb hr rfl (fun t ht hW => by rw [hqq]; have hh := Option.some.inj h; exact ⟨⟨(1 : Int32), (()), rfl, Option.some.inj h, by rw [ht]; exact hP, va_K.moved hW.alike hK⟩, hS.F ht⟩) hS.2.2 dX13_within_15

abbrev w_X13_bits (cy : Nat → ClassId)   : va_W := []
abbrev rm_X13_bits : Room := { frames := 0, cells := 0, slots := 0, locals := 0 }
set_option maxHeartbeats 1000000 in
set_option maxRecDepth 100000 in
theorem c_X13_bits (l : Launch) (dC : Nat → ClassId) (dI : Nat → Nat → Nat) (cy : Nat → ClassId)   (x0 : Int32) (sz : Nat) (R0 : Int32) (h : p_X13_bits x0 = some R0) : Met l yX13_bits wsX13_bits rm_X13_bits (va_Pc [.int x0] (prC dC dI cy (w_X13_bits cy  ) sz)) (va_Qi (fun (r : Int32) (_ : Unit) => r = R0) (fun (_ : Unit) t => poC dC dI cy (w_X13_bits cy  ) t) (va_A (w_X13_bits cy  ) sz)) 0 0 (va_A (w_X13_bits cy  ) sz) := by
  refine Met.ofW (cc := cX13_bits) (maxL := 3) (ret := (some .int)) (by decide) rfl ?_
  intro p e s m aa below meth c s₁ B hml hv
  obtain ⟨haa, hsz, hP, hK, hD0⟩ := hv
  have hx := B.exec
  have hb := B.bytes
  have hr := B.returns
  have hts := atoms_spec (ws := wsX13_bits) B.pre
  have hown : s.vm.findClass RX13 = some m.cls := findClass_of_methodNamed B.named
  have hlocks := B.notSynchronized
  subst hsz
  have hD := hD0.self (sz := s.heap.size)
  obtain ⟨qq, hqq⟩ : ∃ qq, qq = (va_Qi (fun (r : Int32) (_ : Unit) => r = R0) (fun (_ : Unit) t => poC dC dI cy (w_X13_bits cy  ) t) (va_A (w_X13_bits cy  ) s.heap.size)) := ⟨_, rfl⟩
  rw [← hqq]
  generalize hAe : va_A (w_X13_bits cy  ) s.heap.size = A at hD hqq ⊢
  have hA : ∀ q : Nat, s.heap.size ≤ q → A q := fun q h => by rw [← hAe]; exact Or.inr h
  have hS : va_S A s.heap s.heap [] := va_S.rf
  have hl := lv_entry ([.int x0]) (n := 3) (Nat.le_of_ble_eq_true rfl)
  have hE : entryFrame m aa 3 = F0 m 0 ((lg_sl ([.int x0]) ++ List.replicate (3 - (lg_sl ([.int x0])).length) Slot.unset).toArray) [] := by rw [haa]; exact lg_entry_eq m _ 3
  refine W.eq hE ?_
  generalize (lg_sl ([.int x0]) ++ List.replicate (3 - (lg_sl ([.int x0])).length) Slot.unset).toArray = ls at hl ⊢
  have hl : lv_has ls 3 [(0, .int x0)] := hl
  change W p l e rm_X13_bits s m aa below meth c s.heap [] 0 0 (MQ below qq aa s 0 0 A) (F0 m 0 ls [])
  have hS0 := hS
  have c4 : ∀ (n : Nat), ∀ (x0 : Int32) (x1 : Int32) (x2 : Int32) (H : Heap) (locs : List Loc) (ls : Array Slot), p_X13_bits_4 n x0 x1 x2 = some R0 → va_P (dC, dI) vwCl (w_X13_bits cy  ) H → va_D A (w_X13_bits cy  ) → va_S A s.heap H locs → lv_has ls 3 [(0, .int x0), (1, .int x1), (2, .int x2)] → W p l e rm_X13_bits s m aa below meth c H locs 0 0 (MQ below qq aa s 0 0 A) (F0 m 4 ls []) := by
    intro  n
    induction n with
    | zero => intro x0 x1 x2 H locs ls h; exact no_some h
    | succ n ih =>
      intro x0 x1 x2 H locs ls h hP hD hS hl
      rw [p_X13_bits_4.eq_2] at h
      refine lv_iload_n hx hb dX13_bits_4 rfl (lv_at hl 2 rfl) ?_
      refine lv_bipush (v := (10 : Int32)) hx hb dX13_bits_5 (by decide) ?_
      refine lv_icmp_ge (tgt := 24) hx hb dX13_bits_7 (by decide) (fun c1 => ?_) (fun c1 => ?_)
      · rw [if_pos c1] at h
        refine lv_iload_n hx hb dX13_bits_24 rfl (lv_at hl 1 rfl) ?_
        exact W.iret (v := x1) hx hb hr (fun t ht hW => by rw [hqq]; have hh := Option.some.inj h; exact ⟨⟨x1, (()), rfl, Option.some.inj h, by rw [ht]; exact hP, va_K.moved hW.alike hK⟩, hS.F ht⟩) hS.2.2 dX13_bits_25
      · rw [if_neg c1] at h
        refine lv_iload_n hx hb dX13_bits_10 rfl (lv_at hl 1 rfl) ?_
        refine lv_iload_n hx hb dX13_bits_11 rfl (lv_at hl 0 rfl) ?_
        refine lv_iload_n hx hb dX13_bits_12 rfl (lv_at hl 2 rfl) ?_
        refine lv_ishr hx hb dX13_bits_13 ?_
        refine lv_iconst (v := (1 : Int32)) hx hb dX13_bits_14 (by decide) ?_
        refine lv_iand hx hb dX13_bits_15 ?_
        refine lv_iadd hx hb dX13_bits_16 ?_
        refine lv_istore_n (lv' := [(1, .int (x1 + ((x0 >>> (x2 &&& 31)) &&& (1 : Int32)))), (0, .int x0), (2, .int x2)]) hx hb dX13_bits_17 rfl hl (by decide) rfl (fun ls hl => ?_)
        refine lv_iinc (v := (x2 + (1 : Int32))) (lv' := [(2, .int (x2 + (1 : Int32))), (1, .int (x1 + ((x0 >>> (x2 &&& 31)) &&& (1 : Int32)))), (0, .int x0)]) hx hb dX13_bits_18 hl (k := 2) rfl rfl (by decide) rfl (fun ls hl => ?_)
        refine lv_goto (tgt := 4) hx hb dX13_bits_21 (by decide) ?_
        exact ih x0 (x1 + ((x0 >>> (x2 &&& 31)) &&& (1 : Int32))) (x2 + (1 : Int32)) H locs ls h hP hD hS (lv_sub hl [2, 1, 0] rfl)
  obtain ⟨H, hH⟩ : ∃ H : Heap, H = s.heap := ⟨_, rfl⟩
  obtain ⟨locs, hlocs⟩ : ∃ locs : List Loc, locs = [] := ⟨_, rfl⟩
  have hS : va_S A s.heap H locs := by rw [hH, hlocs]; exact hS
  rw [← hH] at hP
  suffices hg : W p l e rm_X13_bits s m aa below meth c H locs 0 0 (MQ below qq aa s 0 0 A) (F0 m 0 ls []) by subst hH; subst hlocs; exact hg
  unfold p_X13_bits at h
  refine lv_iconst (v := (0 : Int32)) hx hb dX13_bits_0 (by decide) ?_
  refine lv_istore_n (lv' := [(1, .int (0 : Int32)), (0, .int x0)]) hx hb dX13_bits_1 rfl hl (by decide) rfl (fun ls hl => ?_)
  refine lv_iconst (v := (0 : Int32)) hx hb dX13_bits_2 (by decide) ?_
  refine lv_istore_n (lv' := [(2, .int (0 : Int32)), (1, .int (0 : Int32)), (0, .int x0)]) hx hb dX13_bits_3 rfl hl (by decide) rfl (fun ls hl => ?_)
  exact c4 fu x0 (0 : Int32) (0 : Int32) H locs ls h hP hD hS (lv_sub hl [2, 1, 0] rfl)

abbrev w_X13_copies (cy : Nat → ClassId) (a0 : Nat → Nat) (a1 : Nat → Nat) (a2 : Nat → Nat) (n1 : Nat) (n2 : Nat) (gar_1 : (Nat → Int32)) (gar_2 : (Nat → Int32)) : va_W := [(a1 0, .inl (cy 1, n1, .inl (gar_1))), (a2 0, .inl (cy 1, n2, .inl (gar_2)))]
abbrev rm_X13_copies : Room := { frames := 0, cells := 0, slots := 0, locals := 0 }
set_option maxHeartbeats 1000000 in
set_option maxRecDepth 100000 in
theorem c_X13_copies (l : Launch) (dC : Nat → ClassId) (dI : Nat → Nat → Nat) (cy : Nat → ClassId) (a0 : Nat → Nat) (a1 : Nat → Nat) (a2 : Nat → Nat) (n1 : Nat) (n2 : Nat) (gar_1 : (Nat → Int32)) (gar_2 : (Nat → Int32)) (sz : Nat) (R0 : ((Nat → Int32))) (h : p_X13_copies n1 n2 gar_1 gar_2 = some R0) : Met l yX13_copies wsX13_copies rm_X13_copies (va_Pc [.ref (a0 0), .ref (a1 0), .ref (a2 0)] (prC dC dI cy (w_X13_copies cy a0 a1 a2 n1 n2 gar_1 gar_2) sz)) (va_Qv (fun (u : ((Nat → Int32))) => u = R0) (fun (u : ((Nat → Int32))) t => poC dC dI cy (w_X13_copies cy a0 a1 a2 n1 n2 gar_1 u) t) (va_A (w_X13_copies cy a0 a1 a2 n1 n2 gar_1 gar_2) sz)) 0 0 (va_A (w_X13_copies cy a0 a1 a2 n1 n2 gar_1 gar_2) sz) := by
  refine Met.ofW (cc := cX13_copies) (maxL := 4) (ret := none) (by decide) rfl ?_
  intro p e s m aa below meth c s₁ B hml hv
  obtain ⟨haa, hsz, hP, hK, hD0⟩ := hv
  have hx := B.exec
  have hb := B.bytes
  have hr := B.returns
  have hts := atoms_spec (ws := wsX13_copies) B.pre
  have hown : s.vm.findClass RX13 = some m.cls := findClass_of_methodNamed B.named
  have hlocks := B.notSynchronized
  subst hsz
  have hD := hD0.self (sz := s.heap.size)
  obtain ⟨qq, hqq⟩ : ∃ qq, qq = (va_Qv (fun (u : ((Nat → Int32))) => u = R0) (fun (u : ((Nat → Int32))) t => poC dC dI cy (w_X13_copies cy a0 a1 a2 n1 n2 gar_1 u) t) (va_A (w_X13_copies cy a0 a1 a2 n1 n2 gar_1 gar_2) s.heap.size)) := ⟨_, rfl⟩
  rw [← hqq]
  generalize hAe : va_A (w_X13_copies cy a0 a1 a2 n1 n2 gar_1 gar_2) s.heap.size = A at hD hqq ⊢
  have hA : ∀ q : Nat, s.heap.size ≤ q → A q := fun q h => by rw [← hAe]; exact Or.inr h
  have hS : va_S A s.heap s.heap [] := va_S.rf
  have hl := lv_entry ([.ref (a0 0), .ref (a1 0), .ref (a2 0)]) (n := 4) (Nat.le_of_ble_eq_true rfl)
  have hE : entryFrame m aa 4 = F0 m 0 ((lg_sl ([.ref (a0 0), .ref (a1 0), .ref (a2 0)]) ++ List.replicate (4 - (lg_sl ([.ref (a0 0), .ref (a1 0), .ref (a2 0)])).length) Slot.unset).toArray) [] := by rw [haa]; exact lg_entry_eq m _ 4
  refine W.eq hE ?_
  generalize (lg_sl ([.ref (a0 0), .ref (a1 0), .ref (a2 0)]) ++ List.replicate (4 - (lg_sl ([.ref (a0 0), .ref (a1 0), .ref (a2 0)])).length) Slot.unset).toArray = ls at hl ⊢
  have hl : lv_has ls 4 [(0, .ref (a0 0)), (1, .ref (a1 0)), (2, .ref (a2 0))] := hl
  change W p l e rm_X13_copies s m aa below meth c s.heap [] 0 0 (MQ below qq aa s 0 0 A) (F0 m 0 ls [])
  have hS0 := hS
  have c2 : ∀ (n : Nat), ∀ (gar_2 : (Nat → Int32)) (x3 : Int32) (H : Heap) (locs : List Loc) (ls : Array Slot), p_X13_copies_2 n1 n2 gar_1 n gar_2 x3 = some R0 → va_P (dC, dI) vwCl (w_X13_copies cy a0 a1 a2 n1 n2 gar_1 gar_2) H → va_D A (w_X13_copies cy a0 a1 a2 n1 n2 gar_1 gar_2) → va_S A s.heap H locs → lv_has ls 4 [(1, .ref (a1 0)), (2, .ref (a2 0)), (3, .int x3)] → W p l e rm_X13_copies s m aa below meth c H locs 0 0 (MQ below qq aa s 0 0 A) (F0 m 2 ls []) := by
    intro  n
    induction n with
    | zero => intro gar_2 x3 H locs ls h; exact no_some h
    | succ n ih =>
      intro gar_2 x3 H locs ls h hP hD hS hl
      rw [p_X13_copies_2.eq_2] at h
      refine lv_iload_n hx hb dX13_copies_2 rfl (lv_at hl 2 rfl) ?_
      refine lv_aload_n hx hb dX13_copies_3 rfl (lv_at hl 0 rfl) ?_
      refine va_alen (v := (Int32.ofNat n1)) hx hb hK hP 0 1 rfl rfl rfl dX13_copies_4 ?_
      refine lv_icmp_ge (tgt := 20) hx hb dX13_copies_5 (by decide) (fun c1 => ?_) (fun c1 => ?_)
      · rw [if_pos c1] at h
        exact W.vret hx hb hr (fun t ht hW => by rw [hqq]; have hh := Option.some.inj h; exact ⟨⟨(gar_2), rfl, Option.some.inj h, by rw [ht]; exact hP, va_K.moved hW.alike hK⟩, hS.F ht⟩) hS.2.2 dX13_copies_20
      · rw [if_neg c1] at h
        refine lv_aload_n hx hb dX13_copies_8 rfl (lv_at hl 1 rfl) ?_
        refine lv_iload_n hx hb dX13_copies_9 rfl (lv_at hl 2 rfl) ?_
        refine lv_aload_n hx hb dX13_copies_10 rfl (lv_at hl 0 rfl) ?_
        refine lv_iload_n hx hb dX13_copies_11 rfl (lv_at hl 2 rfl) ?_
        obtain ⟨hi2, h⟩ := ok_if h
        refine va_iald hx hb hK hP 0 1 rfl rfl (ix_in hi2) dX13_copies_12 ?_
        obtain ⟨hi3, h⟩ := ok_if h
        refine va_iast hx hb hK hP hD hS 1 1 rfl rfl (ix_in hi3) dX13_copies_13 (fun H locs hP hD hS => ?_)
        have hP : va_P (dC, dI) vwCl (w_X13_copies cy a0 a1 a2 n1 n2 gar_1 ((upd gar_2 x3.toNatClampNeg (gar_1 x3.toNatClampNeg)))) H := hP
        have hD : va_D A (w_X13_copies cy a0 a1 a2 n1 n2 gar_1 ((upd gar_2 x3.toNatClampNeg (gar_1 x3.toNatClampNeg)))) := hD
        refine lv_iinc (v := (x3 + (1 : Int32))) (lv' := [(3, .int (x3 + (1 : Int32))), (1, .ref (a1 0)), (2, .ref (a2 0))]) hx hb dX13_copies_14 hl (k := 2) rfl rfl (by decide) rfl (fun ls hl => ?_)
        refine lv_goto (tgt := 2) hx hb dX13_copies_17 (by decide) ?_
        exact ih (upd gar_2 x3.toNatClampNeg (gar_1 x3.toNatClampNeg)) (x3 + (1 : Int32)) H locs ls h hP hD hS (lv_sub hl [1, 2, 0] rfl)
  obtain ⟨H, hH⟩ : ∃ H : Heap, H = s.heap := ⟨_, rfl⟩
  obtain ⟨locs, hlocs⟩ : ∃ locs : List Loc, locs = [] := ⟨_, rfl⟩
  have hS : va_S A s.heap H locs := by rw [hH, hlocs]; exact hS
  rw [← hH] at hP
  suffices hg : W p l e rm_X13_copies s m aa below meth c H locs 0 0 (MQ below qq aa s 0 0 A) (F0 m 0 ls []) by subst hH; subst hlocs; exact hg
  unfold p_X13_copies at h
  refine lv_iconst (v := (0 : Int32)) hx hb dX13_copies_0 (by decide) ?_
  refine lv_istore_n (lv' := [(3, .int (0 : Int32)), (0, .ref (a0 0)), (1, .ref (a1 0)), (2, .ref (a2 0))]) hx hb dX13_copies_1 rfl hl (by decide) rfl (fun ls hl => ?_)
  exact c2 fu gar_2 (0 : Int32) H locs ls h hP hD hS (lv_sub hl [2, 3, 0] rfl)

abbrev w_X13_lays (cy : Nat → ClassId) (a0 : Nat → Nat) (gth : Int32) (gvm : Int32 × Int32 × Int32 × (Nat → Int32) × (Nat → Int32) × (Nat → Int32) × (Nat → Int32) × (Nat → Int32) × (Nat → Int32) × (Nat → Int32) × (Nat → Int32) × (Nat → Int32)) (gtt : (Nat → Int32)) (gtd : Int32) (gfl : Int32 × Int32) (grd : Int32 × Int32 × Int32 × Int32 × Int32 × Int32 × Int64 × (Nat → Int32)) (gnv : Int32 × Int32 × Int32 × Int32 × Int32 × (Nat → Int32) × (Nat → Int32) × (Nat → Int32) × (Nat → Int32) × (Nat → Int32) × (Nat → Int32)) (gac : Int32 × (Nat → Int32) × (Nat → Int32)) (grc : Int32 × (Nat → Int32)) (gim : Int32 × Int32 × Int32 × (Nat → Int32) × (Nat → Int32) × (Nat → Int32) × (Nat → Int32) × (Nat → Int32) × (Nat → Int32) × (Nat → Int32) × (Nat → Int32) × (Nat → Int32)) : va_W := [(a0 0, .inr (11, [.int (gth), .int (gvm.1), .int (gvm.2.1), .int (gvm.2.2.1), .ref (a0 1), .ref (a0 2), .ref (a0 3), .ref (a0 4), .ref (a0 5), .ref (a0 6), .ref (a0 7), .ref (a0 8), .ref (a0 9), .ref (a0 10), .int (gtd), .int (gfl.1), .int (gfl.2), .ref (a0 11), .int (grd.1), .int (grd.2.1), .int (grd.2.2.1), .int (grd.2.2.2.1), .int (grd.2.2.2.2.1), .int (grd.2.2.2.2.2.1), .long (grd.2.2.2.2.2.2.1), .ref (a0 12), .int (gnv.1), .int (gnv.2.1), .int (gnv.2.2.1), .int (gnv.2.2.2.1), .int (gnv.2.2.2.2.1), .ref (a0 13), .ref (a0 14), .ref (a0 15), .ref (a0 16), .ref (a0 17), .ref (a0 18), .int (gac.1), .ref (a0 19), .ref (a0 20), .ref (a0 21), .ref (a0 22), .ref (a0 23), .ref (a0 24), .ref (a0 25), .ref (a0 26), .ref (a0 27), .int (grc.1), .ref (a0 28), .ref (a0 29), .ref (a0 30), .ref (a0 31), .int (gim.1), .int (gim.2.1), .int (gim.2.2.1), .ref (a0 32), .ref (a0 33), .ref (a0 34), .ref (a0 35), .ref (a0 36), .ref (a0 37), .ref (a0 38), .ref (a0 39), .ref (a0 40)])), (a0 10, .inl (cy 1, 600, .inl (gtt)))]
abbrev rm_X13_lays : Room := { frames := 0, cells := 0, slots := 0, locals := 0 }
set_option maxHeartbeats 1000000 in
set_option maxRecDepth 100000 in
theorem c_X13_lays (l : Launch) (dC : Nat → ClassId) (dI : Nat → Nat → Nat) (cy : Nat → ClassId) (a0 : Nat → Nat) (gth : Int32) (gvm : Int32 × Int32 × Int32 × (Nat → Int32) × (Nat → Int32) × (Nat → Int32) × (Nat → Int32) × (Nat → Int32) × (Nat → Int32) × (Nat → Int32) × (Nat → Int32) × (Nat → Int32)) (gtt : (Nat → Int32)) (gtd : Int32) (gfl : Int32 × Int32) (grd : Int32 × Int32 × Int32 × Int32 × Int32 × Int32 × Int64 × (Nat → Int32)) (gnv : Int32 × Int32 × Int32 × Int32 × Int32 × (Nat → Int32) × (Nat → Int32) × (Nat → Int32) × (Nat → Int32) × (Nat → Int32) × (Nat → Int32)) (gac : Int32 × (Nat → Int32) × (Nat → Int32)) (grc : Int32 × (Nat → Int32)) (gim : Int32 × Int32 × Int32 × (Nat → Int32) × (Nat → Int32) × (Nat → Int32) × (Nat → Int32) × (Nat → Int32) × (Nat → Int32) × (Nat → Int32) × (Nat → Int32) × (Nat → Int32)) (x1 : Int32) (sz : Nat) (R0 : ((Nat → Int32)) × (Int32)) (h : p_X13_lays gtt gtd x1 = some R0) : Met l yX13_lays wsX13_lays rm_X13_lays (va_Pc [.ref (a0 0), .int x1] (prC dC dI cy (w_X13_lays cy a0 gth gvm gtt gtd gfl grd gnv gac grc gim) sz)) (va_Qv (fun (u : ((Nat → Int32)) × (Int32)) => u = R0) (fun (u : ((Nat → Int32)) × (Int32)) t => poC dC dI cy (w_X13_lays cy a0 gth gvm u.1 u.2 gfl grd gnv gac grc gim) t) (va_A (w_X13_lays cy a0 gth gvm gtt gtd gfl grd gnv gac grc gim) sz)) 0 0 (va_A (w_X13_lays cy a0 gth gvm gtt gtd gfl grd gnv gac grc gim) sz) := by
  refine Met.ofW (cc := cX13_lays) (maxL := 3) (ret := none) (by decide) rfl ?_
  intro p e s m aa below meth c s₁ B hml hv
  obtain ⟨haa, hsz, hP, hK, hD0⟩ := hv
  have hx := B.exec
  have hb := B.bytes
  have hr := B.returns
  have hts := atoms_spec (ws := wsX13_lays) B.pre
  have hown : s.vm.findClass RX13 = some m.cls := findClass_of_methodNamed B.named
  have hlocks := B.notSynchronized
  subst hsz
  have hD := hD0.self (sz := s.heap.size)
  obtain ⟨qq, hqq⟩ : ∃ qq, qq = (va_Qv (fun (u : ((Nat → Int32)) × (Int32)) => u = R0) (fun (u : ((Nat → Int32)) × (Int32)) t => poC dC dI cy (w_X13_lays cy a0 gth gvm u.1 u.2 gfl grd gnv gac grc gim) t) (va_A (w_X13_lays cy a0 gth gvm gtt gtd gfl grd gnv gac grc gim) s.heap.size)) := ⟨_, rfl⟩
  rw [← hqq]
  generalize hAe : va_A (w_X13_lays cy a0 gth gvm gtt gtd gfl grd gnv gac grc gim) s.heap.size = A at hD hqq ⊢
  have hA : ∀ q : Nat, s.heap.size ≤ q → A q := fun q h => by rw [← hAe]; exact Or.inr h
  have hS : va_S A s.heap s.heap [] := va_S.rf
  have hl := lv_entry ([.ref (a0 0), .int x1]) (n := 3) (Nat.le_of_ble_eq_true rfl)
  have hE : entryFrame m aa 3 = F0 m 0 ((lg_sl ([.ref (a0 0), .int x1]) ++ List.replicate (3 - (lg_sl ([.ref (a0 0), .int x1])).length) Slot.unset).toArray) [] := by rw [haa]; exact lg_entry_eq m _ 3
  refine W.eq hE ?_
  generalize (lg_sl ([.ref (a0 0), .int x1]) ++ List.replicate (3 - (lg_sl ([.ref (a0 0), .int x1])).length) Slot.unset).toArray = ls at hl ⊢
  have hl : lv_has ls 3 [(0, .ref (a0 0)), (1, .int x1)] := hl
  change W p l e rm_X13_lays s m aa below meth c s.heap [] 0 0 (MQ below qq aa s 0 0 A) (F0 m 0 ls [])
  have hS0 := hS
  have lk0 := hts (.fieldLink RX13 37 "GoatDoorsModel" "tape" "[I") (by decide +kernel)
  have lk1 := hts (.fieldLink RX13 138 "GoatDoorsModel" "taped" "I") (by decide +kernel)
  have in_X13 : ∀ w ∈ wsX130, w ∈ wsX13_lays := by decide +kernel
  have c3 : ∀ (n : Nat), ∀ (gtt : (Nat → Int32)) (gtd : Int32) (x1 : Int32) (x2 : Int32) (H : Heap) (locs : List Loc) (ls : Array Slot), p_X13_lays_3 n gtt gtd x1 x2 = some R0 → va_P (dC, dI) vwCl (w_X13_lays cy a0 gth gvm gtt gtd gfl grd gnv gac grc gim) H → va_D A (w_X13_lays cy a0 gth gvm gtt gtd gfl grd gnv gac grc gim) → va_S A s.heap H locs → lv_has ls 3 [(0, .ref (a0 0)), (1, .int x1), (2, .int x2)] → W p l e rm_X13_lays s m aa below meth c H locs 0 0 (MQ below qq aa s 0 0 A) (F0 m 3 ls []) := by
    intro  n
    induction n with
    | zero => intro gtt gtd x1 x2 H locs ls h; exact no_some h
    | succ n ih =>
      intro gtt gtd x1 x2 H locs ls h hP hD hS hl
      rw [p_X13_lays_3.eq_2] at h
      refine lv_iload_n hx hb dX13_lays_3 rfl (lv_at hl 2 rfl) ?_
      refine lv_if_lt (tgt := 39) hx hb dX13_lays_4 (by decide) (fun c1 => ?_) (fun c1 => ?_)
      · rw [if_pos c1] at h
        exact W.vret hx hb hr (fun t ht hW => by rw [hqq]; have hh := Option.some.inj h; exact ⟨⟨((gtt, gtd)), rfl, Option.some.inj h, by rw [ht]; exact hP, va_K.moved hW.alike hK⟩, hS.F ht⟩) hS.2.2 dX13_lays_39
      · rw [if_neg c1] at h
        refine lv_aload_n hx hb dX13_lays_7 rfl (lv_at hl 0 rfl) ?_
        refine va_get (D := (dC, dI)) (ci := 11) (v := .ref (a0 10)) (C := RX13) (T := TX13) (N := 64) hx hb hts in_X13 hown hK hP 0 rfl rfl 13 (by decide) lk0 (fun _ h9 => h9) rfl dX13_lays_8 ?_
        refine lv_aload_n hx hb dX13_lays_11 rfl (lv_at hl 0 rfl) ?_
        refine va_get (D := (dC, dI)) (ci := 11) (v := .int gtd) (C := RX13) (T := TX13) (N := 64) hx hb hts in_X13 hown hK hP 0 rfl rfl 14 (by decide) lk1 (fun _ h9 => h9) rfl dX13_lays_12 ?_
        refine lv_iload_n hx hb dX13_lays_15 rfl (lv_at hl 1 rfl) ?_
        refine lv_iload_n hx hb dX13_lays_16 rfl (lv_at hl 2 rfl) ?_
        refine lv_ishr hx hb dX13_lays_17 ?_
        refine lv_sipush (v := (255 : Int32)) hx hb dX13_lays_18 (by decide) ?_
        refine lv_iand hx hb dX13_lays_21 ?_
        obtain ⟨hi2, h⟩ := ok_if h
        refine va_iast hx hb hK hP hD hS 1 1 rfl rfl (ix_in hi2) dX13_lays_22 (fun H locs hP hD hS => ?_)
        have hP : va_P (dC, dI) vwCl (w_X13_lays cy a0 gth gvm ((upd gtt gtd.toNatClampNeg ((x1 >>> (x2 &&& 31)) &&& (255 : Int32)))) gtd gfl grd gnv gac grc gim) H := hP
        have hD : va_D A (w_X13_lays cy a0 gth gvm ((upd gtt gtd.toNatClampNeg ((x1 >>> (x2 &&& 31)) &&& (255 : Int32)))) gtd gfl grd gnv gac grc gim) := hD
        refine lv_aload_n hx hb dX13_lays_23 rfl (lv_at hl 0 rfl) ?_
        refine lv_dup hx hb dX13_lays_24 rfl ?_
        refine va_get (D := (dC, dI)) (ci := 11) (v := .int gtd) (C := RX13) (T := TX13) (N := 64) hx hb hts in_X13 hown hK hP 0 rfl rfl 14 (by decide) lk1 (fun _ h9 => h9) rfl dX13_lays_25 ?_
        refine lv_iconst (v := (1 : Int32)) hx hb dX13_lays_28 (by decide) ?_
        refine lv_iadd hx hb dX13_lays_29 ?_
        refine va_put (D := (dC, dI)) (ci := 11) (v := .int (gtd + (1 : Int32))) (ty := .int) (C := RX13) (T := TX13) (N := 64) hx hb hts in_X13 tyX13 tyX13_ok nmX13 hown hK hP hD hS 0 rfl rfl 14 (by decide) lk1 (fun _ h9 => h9) rfl (by decide +kernel) rfl rfl (Nat.le_of_ble_eq_true rfl) dX13_lays_30 (fun H locs hP hD hS => ?_)
        have hP : va_P (dC, dI) vwCl (w_X13_lays cy a0 gth gvm ((upd gtt gtd.toNatClampNeg ((x1 >>> (x2 &&& 31)) &&& (255 : Int32)))) ((gtd + (1 : Int32))) gfl grd gnv gac grc gim) H := hP
        have hD : va_D A (w_X13_lays cy a0 gth gvm ((upd gtt gtd.toNatClampNeg ((x1 >>> (x2 &&& 31)) &&& (255 : Int32)))) ((gtd + (1 : Int32))) gfl grd gnv gac grc gim) := hD
        refine lv_iinc (v := (x2 + (-8 : Int32))) (lv' := [(2, .int (x2 + (-8 : Int32))), (0, .ref (a0 0)), (1, .int x1)]) hx hb dX13_lays_33 hl (k := 2) rfl rfl (by decide) rfl (fun ls hl => ?_)
        refine lv_goto (tgt := 3) hx hb dX13_lays_36 (by decide) ?_
        exact ih (upd gtt gtd.toNatClampNeg ((x1 >>> (x2 &&& 31)) &&& (255 : Int32))) (gtd + (1 : Int32)) x1 (x2 + (-8 : Int32)) H locs ls h hP hD hS (lv_sub hl [1, 2, 0] rfl)
  obtain ⟨H, hH⟩ : ∃ H : Heap, H = s.heap := ⟨_, rfl⟩
  obtain ⟨locs, hlocs⟩ : ∃ locs : List Loc, locs = [] := ⟨_, rfl⟩
  have hS : va_S A s.heap H locs := by rw [hH, hlocs]; exact hS
  rw [← hH] at hP
  suffices hg : W p l e rm_X13_lays s m aa below meth c H locs 0 0 (MQ below qq aa s 0 0 A) (F0 m 0 ls []) by subst hH; subst hlocs; exact hg
  unfold p_X13_lays at h
  refine lv_bipush (v := (24 : Int32)) hx hb dX13_lays_0 (by decide) ?_
  refine lv_istore_n (lv' := [(2, .int (24 : Int32)), (0, .ref (a0 0)), (1, .int x1)]) hx hb dX13_lays_2 rfl hl (by decide) rfl (fun ls hl => ?_)
  exact c3 fu gtt gtd x1 (24 : Int32) H locs ls h hP hD hS (lv_sub hl [1, 2, 0] rfl)

abbrev w_X13_feed (cy : Nat → ClassId) (a0 : Nat → Nat) (gth : Int32) (gvm : Int32 × Int32 × Int32 × (Nat → Int32) × (Nat → Int32) × (Nat → Int32) × (Nat → Int32) × (Nat → Int32) × (Nat → Int32) × (Nat → Int32) × (Nat → Int32) × (Nat → Int32)) (gtt : (Nat → Int32)) (gtd : Int32) (gfl : Int32 × Int32) (grd : Int32 × Int32 × Int32 × Int32 × Int32 × Int32 × Int64 × (Nat → Int32)) (gnv : Int32 × Int32 × Int32 × Int32 × Int32 × (Nat → Int32) × (Nat → Int32) × (Nat → Int32) × (Nat → Int32) × (Nat → Int32) × (Nat → Int32)) (gac : Int32 × (Nat → Int32) × (Nat → Int32)) (grc : Int32 × (Nat → Int32)) (gim : Int32 × Int32 × Int32 × (Nat → Int32) × (Nat → Int32) × (Nat → Int32) × (Nat → Int32) × (Nat → Int32) × (Nat → Int32) × (Nat → Int32) × (Nat → Int32) × (Nat → Int32)) : va_W := [(a0 0, .inr (11, [.int (gth), .int (gvm.1), .int (gvm.2.1), .int (gvm.2.2.1), .ref (a0 1), .ref (a0 2), .ref (a0 3), .ref (a0 4), .ref (a0 5), .ref (a0 6), .ref (a0 7), .ref (a0 8), .ref (a0 9), .ref (a0 10), .int (gtd), .int (gfl.1), .int (gfl.2), .ref (a0 11), .int (grd.1), .int (grd.2.1), .int (grd.2.2.1), .int (grd.2.2.2.1), .int (grd.2.2.2.2.1), .int (grd.2.2.2.2.2.1), .long (grd.2.2.2.2.2.2.1), .ref (a0 12), .int (gnv.1), .int (gnv.2.1), .int (gnv.2.2.1), .int (gnv.2.2.2.1), .int (gnv.2.2.2.2.1), .ref (a0 13), .ref (a0 14), .ref (a0 15), .ref (a0 16), .ref (a0 17), .ref (a0 18), .int (gac.1), .ref (a0 19), .ref (a0 20), .ref (a0 21), .ref (a0 22), .ref (a0 23), .ref (a0 24), .ref (a0 25), .ref (a0 26), .ref (a0 27), .int (grc.1), .ref (a0 28), .ref (a0 29), .ref (a0 30), .ref (a0 31), .int (gim.1), .int (gim.2.1), .int (gim.2.2.1), .ref (a0 32), .ref (a0 33), .ref (a0 34), .ref (a0 35), .ref (a0 36), .ref (a0 37), .ref (a0 38), .ref (a0 39), .ref (a0 40)])), (a0 10, .inl (cy 1, 600, .inl (gtt)))]
abbrev rm_X13_feed : Room := { frames := 1, cells := 0, slots := 0, locals := 22 }
set_option maxHeartbeats 1000000 in
set_option maxRecDepth 100000 in
theorem c_X13_feed (l : Launch) (dC : Nat → ClassId) (dI : Nat → Nat → Nat) (cy : Nat → ClassId) (a0 : Nat → Nat) (gth : Int32) (gvm : Int32 × Int32 × Int32 × (Nat → Int32) × (Nat → Int32) × (Nat → Int32) × (Nat → Int32) × (Nat → Int32) × (Nat → Int32) × (Nat → Int32) × (Nat → Int32) × (Nat → Int32)) (gtt : (Nat → Int32)) (gtd : Int32) (gfl : Int32 × Int32) (grd : Int32 × Int32 × Int32 × Int32 × Int32 × Int32 × Int64 × (Nat → Int32)) (gnv : Int32 × Int32 × Int32 × Int32 × Int32 × (Nat → Int32) × (Nat → Int32) × (Nat → Int32) × (Nat → Int32) × (Nat → Int32) × (Nat → Int32)) (gac : Int32 × (Nat → Int32) × (Nat → Int32)) (grc : Int32 × (Nat → Int32)) (gim : Int32 × Int32 × Int32 × (Nat → Int32) × (Nat → Int32) × (Nat → Int32) × (Nat → Int32) × (Nat → Int32) × (Nat → Int32) × (Nat → Int32) × (Nat → Int32) × (Nat → Int32)) (x1 : Int32) (x2 : Int32) (x3 : Int32) (x4 : Int32) (x5 : Int32) (sz : Nat) (R0 : Int32 × (Int32) × ((Nat → Int32)) × (Int32)) (h : p_X13_feed gth gtt gtd x1 x2 x3 x4 x5 = some R0) : Met l yX13_feed wsX13_feed rm_X13_feed (va_Pc [.ref (a0 0), .int x1, .int x2, .int x3, .int x4, .int x5] (prC dC dI cy (w_X13_feed cy a0 gth gvm gtt gtd gfl grd gnv gac grc gim) sz)) (va_Qi (fun (r : Int32) (u : (Int32) × ((Nat → Int32)) × (Int32)) => r = R0.1 ∧ u = R0.2) (fun (u : (Int32) × ((Nat → Int32)) × (Int32)) t => poC dC dI cy (w_X13_feed cy a0 u.1 gvm u.2.1 u.2.2 gfl grd gnv gac grc gim) t) (va_A (w_X13_feed cy a0 gth gvm gtt gtd gfl grd gnv gac grc gim) sz)) 0 0 (va_A (w_X13_feed cy a0 gth gvm gtt gtd gfl grd gnv gac grc gim) sz) := by
  refine Met.ofW (cc := cX13_feed) (maxL := 6) (ret := (some .int)) (by decide) rfl ?_
  intro p e s m aa below meth c s₁ B hml hv
  obtain ⟨haa, hsz, hP, hK, hD0⟩ := hv
  have hx := B.exec
  have hb := B.bytes
  have hr := B.returns
  have hts := atoms_spec (ws := wsX13_feed) B.pre
  have hown : s.vm.findClass RX13 = some m.cls := findClass_of_methodNamed B.named
  have hlocks := B.notSynchronized
  subst hsz
  have hD := hD0.self (sz := s.heap.size)
  obtain ⟨qq, hqq⟩ : ∃ qq, qq = (va_Qi (fun (r : Int32) (u : (Int32) × ((Nat → Int32)) × (Int32)) => r = R0.1 ∧ u = R0.2) (fun (u : (Int32) × ((Nat → Int32)) × (Int32)) t => poC dC dI cy (w_X13_feed cy a0 u.1 gvm u.2.1 u.2.2 gfl grd gnv gac grc gim) t) (va_A (w_X13_feed cy a0 gth gvm gtt gtd gfl grd gnv gac grc gim) s.heap.size)) := ⟨_, rfl⟩
  rw [← hqq]
  generalize hAe : va_A (w_X13_feed cy a0 gth gvm gtt gtd gfl grd gnv gac grc gim) s.heap.size = A at hD hqq ⊢
  have hA : ∀ q : Nat, s.heap.size ≤ q → A q := fun q h => by rw [← hAe]; exact Or.inr h
  have hS : va_S A s.heap s.heap [] := va_S.rf
  have hl := lv_entry ([.ref (a0 0), .int x1, .int x2, .int x3, .int x4, .int x5]) (n := 6) (Nat.le_of_ble_eq_true rfl)
  have hE : entryFrame m aa 6 = F0 m 0 ((lg_sl ([.ref (a0 0), .int x1, .int x2, .int x3, .int x4, .int x5]) ++ List.replicate (6 - (lg_sl ([.ref (a0 0), .int x1, .int x2, .int x3, .int x4, .int x5])).length) Slot.unset).toArray) [] := by rw [haa]; exact lg_entry_eq m _ 6
  refine W.eq hE ?_
  generalize (lg_sl ([.ref (a0 0), .int x1, .int x2, .int x3, .int x4, .int x5]) ++ List.replicate (6 - (lg_sl ([.ref (a0 0), .int x1, .int x2, .int x3, .int x4, .int x5])).length) Slot.unset).toArray = ls at hl ⊢
  have hl : lv_has ls 6 [(0, .ref (a0 0)), (1, .int x1), (2, .int x2), (3, .int x3), (4, .int x4), (5, .int x5)] := hl
  change W p l e rm_X13_feed s m aa below meth c s.heap [] 0 0 (MQ below qq aa s 0 0 A) (F0 m 0 ls [])
  have hS0 := hS
  have lk0 := hts (.fieldLink RX13 135 "GoatDoorsModel" "thrown" "I") (by decide +kernel)
  have lk1 := hts (.fieldLink RX13 138 "GoatDoorsModel" "taped" "I") (by decide +kernel)
  have in_X13 : ∀ w ∈ wsX130, w ∈ wsX13_feed := by decide +kernel
  obtain ⟨H, hH⟩ : ∃ H : Heap, H = s.heap := ⟨_, rfl⟩
  obtain ⟨locs, hlocs⟩ : ∃ locs : List Loc, locs = [] := ⟨_, rfl⟩
  have hS : va_S A s.heap H locs := by rw [hH, hlocs]; exact hS
  rw [← hH] at hP
  suffices hg : W p l e rm_X13_feed s m aa below meth c H locs 0 0 (MQ below qq aa s 0 0 A) (F0 m 0 ls []) by subst hH; subst hlocs; exact hg
  unfold p_X13_feed at h
  refine lv_aload_n hx hb dX13_feed_0 rfl (lv_at hl 0 rfl) ?_
  refine lv_iconst (v := (0 : Int32)) hx hb dX13_feed_1 (by decide) ?_
  refine va_put (D := (dC, dI)) (ci := 11) (v := .int (0 : Int32)) (ty := .int) (C := RX13) (T := TX13) (N := 64) hx hb hts in_X13 tyX13 tyX13_ok nmX13 hown hK hP hD hS 0 rfl rfl 0 (by decide) lk0 (fun _ h9 => h9) rfl (by decide +kernel) rfl rfl (Nat.le_of_ble_eq_true rfl) dX13_feed_2 (fun H locs hP hD hS => ?_)
  have hP : va_P (dC, dI) vwCl (w_X13_feed cy a0 ((0 : Int32)) gvm gtt gtd gfl grd gnv gac grc gim) H := hP
  have hD : va_D A (w_X13_feed cy a0 ((0 : Int32)) gvm gtt gtd gfl grd gnv gac grc gim) := hD
  refine lv_aload_n hx hb dX13_feed_5 rfl (lv_at hl 0 rfl) ?_
  refine va_get (D := (dC, dI)) (ci := 11) (v := .int gtd) (C := RX13) (T := TX13) (N := 64) hx hb hts in_X13 hown hK hP 0 rfl rfl 14 (by decide) lk1 (fun _ h9 => h9) rfl dX13_feed_6 ?_
  refine lv_bipush (v := (20 : Int32)) hx hb dX13_feed_9 (by decide) ?_
  refine lv_iadd hx hb dX13_feed_11 ?_
  refine lv_sipush (v := (600 : Int32)) hx hb dX13_feed_12 (by decide) ?_
  refine lv_icmp_le (tgt := 20) hx hb dX13_feed_15 (by decide) (fun c1 => ?_) (fun c1 => ?_)
  · rw [if_pos c1] at h
    refine lv_aload_n hx hb dX13_feed_20 rfl (lv_at hl 0 rfl) ?_
    refine lv_iload_n hx hb dX13_feed_21 rfl (lv_at hl 1 rfl) ?_
    obtain ⟨v2, hv3, h⟩ := ok_bind h
    refine cl_vv (w2 := fun (u : ((Nat → Int32)) × (Int32)) => w_X13_feed cy a0 ((0 : Int32)) gvm u.1 u.2 gfl grd gnv gac grc gim) (As := [.int x1]) (rest := []) ⟨hx, hb, hml, hown, hts⟩ (c_X13_lays l dC dI cy a0 (0 : Int32) gvm gtt gtd gfl grd gnv gac grc gim x1 H.size v2 hv3) (cwV 1 hts gX13_feed_X13_lays rfl rfl rfl (by decide +kernel) ⟨Nat.le_of_ble_eq_true rfl, Nat.le_of_ble_eq_true rfl⟩) (va_recv hK hP (ci := 11) (q0 := 0) rfl rfl) cl_blind (cl_pre hK hP hD [0, 1] (by decide) rfl) hP hD hS hA [0, 1] rfl rfl hl.1 rfl (lv_room (Nat.le_of_ble_eq_true rfl)) dX13_feed_22 ⟨Nat.le_of_ble_eq_true rfl, Nat.le_of_ble_eq_true rfl⟩ ⟨rfl, rfl⟩ (fun _ => updM [0, 1] [] [] 2 rfl rfl rfl rfl rfl (by decide +kernel) (by decide +kernel) rfl) (fun u H locs hw hP hD hS => ?_)
    have hw := hw.symm
    subst hw
    have hP : va_P (dC, dI) vwCl (w_X13_feed cy a0 ((0 : Int32)) gvm v2.1 v2.2 gfl grd gnv gac grc gim) H := hP
    have hD : va_D A (w_X13_feed cy a0 ((0 : Int32)) gvm v2.1 v2.2 gfl grd gnv gac grc gim) := hD
    refine lv_aload_n hx hb dX13_feed_25 rfl (lv_at hl 0 rfl) ?_
    refine lv_iload_n hx hb dX13_feed_26 rfl (lv_at hl 2 rfl) ?_
    obtain ⟨v4, hv5, h⟩ := ok_bind h
    refine cl_vv (w2 := fun (u : ((Nat → Int32)) × (Int32)) => w_X13_feed cy a0 ((0 : Int32)) gvm u.1 u.2 gfl grd gnv gac grc gim) (As := [.int x2]) (rest := []) ⟨hx, hb, hml, hown, hts⟩ (c_X13_lays l dC dI cy a0 (0 : Int32) gvm v2.1 v2.2 gfl grd gnv gac grc gim x2 H.size v4 hv5) (cwV 1 hts gX13_feed_X13_lays rfl rfl rfl (by decide +kernel) ⟨Nat.le_of_ble_eq_true rfl, Nat.le_of_ble_eq_true rfl⟩) (va_recv hK hP (ci := 11) (q0 := 0) rfl rfl) cl_blind (cl_pre hK hP hD [0, 1] (by decide) rfl) hP hD hS hA [0, 1] rfl rfl hl.1 rfl (lv_room (Nat.le_of_ble_eq_true rfl)) dX13_feed_27 ⟨Nat.le_of_ble_eq_true rfl, Nat.le_of_ble_eq_true rfl⟩ ⟨rfl, rfl⟩ (fun _ => updM [0, 1] [] [] 2 rfl rfl rfl rfl rfl (by decide +kernel) (by decide +kernel) rfl) (fun u H locs hw hP hD hS => ?_)
    have hw := hw.symm
    subst hw
    have hP : va_P (dC, dI) vwCl (w_X13_feed cy a0 ((0 : Int32)) gvm v4.1 v4.2 gfl grd gnv gac grc gim) H := hP
    have hD : va_D A (w_X13_feed cy a0 ((0 : Int32)) gvm v4.1 v4.2 gfl grd gnv gac grc gim) := hD
    refine lv_aload_n hx hb dX13_feed_30 rfl (lv_at hl 0 rfl) ?_
    refine lv_iload_n hx hb dX13_feed_31 rfl (lv_at hl 3 rfl) ?_
    obtain ⟨v6, hv7, h⟩ := ok_bind h
    refine cl_vv (w2 := fun (u : ((Nat → Int32)) × (Int32)) => w_X13_feed cy a0 ((0 : Int32)) gvm u.1 u.2 gfl grd gnv gac grc gim) (As := [.int x3]) (rest := []) ⟨hx, hb, hml, hown, hts⟩ (c_X13_lays l dC dI cy a0 (0 : Int32) gvm v4.1 v4.2 gfl grd gnv gac grc gim x3 H.size v6 hv7) (cwV 1 hts gX13_feed_X13_lays rfl rfl rfl (by decide +kernel) ⟨Nat.le_of_ble_eq_true rfl, Nat.le_of_ble_eq_true rfl⟩) (va_recv hK hP (ci := 11) (q0 := 0) rfl rfl) cl_blind (cl_pre hK hP hD [0, 1] (by decide) rfl) hP hD hS hA [0, 1] rfl rfl hl.1 rfl (lv_room (Nat.le_of_ble_eq_true rfl)) dX13_feed_32 ⟨Nat.le_of_ble_eq_true rfl, Nat.le_of_ble_eq_true rfl⟩ ⟨rfl, rfl⟩ (fun _ => updM [0, 1] [] [] 2 rfl rfl rfl rfl rfl (by decide +kernel) (by decide +kernel) rfl) (fun u H locs hw hP hD hS => ?_)
    have hw := hw.symm
    subst hw
    have hP : va_P (dC, dI) vwCl (w_X13_feed cy a0 ((0 : Int32)) gvm v6.1 v6.2 gfl grd gnv gac grc gim) H := hP
    have hD : va_D A (w_X13_feed cy a0 ((0 : Int32)) gvm v6.1 v6.2 gfl grd gnv gac grc gim) := hD
    refine lv_aload_n hx hb dX13_feed_35 rfl (lv_at hl 0 rfl) ?_
    refine lv_iload hx hb dX13_feed_36 (lv_at hl 4 rfl) ?_
    obtain ⟨v8, hv9, h⟩ := ok_bind h
    refine cl_vv (w2 := fun (u : ((Nat → Int32)) × (Int32)) => w_X13_feed cy a0 ((0 : Int32)) gvm u.1 u.2 gfl grd gnv gac grc gim) (As := [.int x4]) (rest := []) ⟨hx, hb, hml, hown, hts⟩ (c_X13_lays l dC dI cy a0 (0 : Int32) gvm v6.1 v6.2 gfl grd gnv gac grc gim x4 H.size v8 hv9) (cwV 1 hts gX13_feed_X13_lays rfl rfl rfl (by decide +kernel) ⟨Nat.le_of_ble_eq_true rfl, Nat.le_of_ble_eq_true rfl⟩) (va_recv hK hP (ci := 11) (q0 := 0) rfl rfl) cl_blind (cl_pre hK hP hD [0, 1] (by decide) rfl) hP hD hS hA [0, 1] rfl rfl hl.1 rfl (lv_room (Nat.le_of_ble_eq_true rfl)) dX13_feed_38 ⟨Nat.le_of_ble_eq_true rfl, Nat.le_of_ble_eq_true rfl⟩ ⟨rfl, rfl⟩ (fun _ => updM [0, 1] [] [] 2 rfl rfl rfl rfl rfl (by decide +kernel) (by decide +kernel) rfl) (fun u H locs hw hP hD hS => ?_)
    have hw := hw.symm
    subst hw
    have hP : va_P (dC, dI) vwCl (w_X13_feed cy a0 ((0 : Int32)) gvm v8.1 v8.2 gfl grd gnv gac grc gim) H := hP
    have hD : va_D A (w_X13_feed cy a0 ((0 : Int32)) gvm v8.1 v8.2 gfl grd gnv gac grc gim) := hD
    refine lv_aload_n hx hb dX13_feed_41 rfl (lv_at hl 0 rfl) ?_
    refine lv_iload hx hb dX13_feed_42 (lv_at hl 5 rfl) ?_
    obtain ⟨v10, hv11, h⟩ := ok_bind h
    refine cl_vv (w2 := fun (u : ((Nat → Int32)) × (Int32)) => w_X13_feed cy a0 ((0 : Int32)) gvm u.1 u.2 gfl grd gnv gac grc gim) (As := [.int x5]) (rest := []) ⟨hx, hb, hml, hown, hts⟩ (c_X13_lays l dC dI cy a0 (0 : Int32) gvm v8.1 v8.2 gfl grd gnv gac grc gim x5 H.size v10 hv11) (cwV 1 hts gX13_feed_X13_lays rfl rfl rfl (by decide +kernel) ⟨Nat.le_of_ble_eq_true rfl, Nat.le_of_ble_eq_true rfl⟩) (va_recv hK hP (ci := 11) (q0 := 0) rfl rfl) cl_blind (cl_pre hK hP hD [0, 1] (by decide) rfl) hP hD hS hA [0, 1] rfl rfl hl.1 rfl (lv_room (Nat.le_of_ble_eq_true rfl)) dX13_feed_44 ⟨Nat.le_of_ble_eq_true rfl, Nat.le_of_ble_eq_true rfl⟩ ⟨rfl, rfl⟩ (fun _ => updM [0, 1] [] [] 2 rfl rfl rfl rfl rfl (by decide +kernel) (by decide +kernel) rfl) (fun u H locs hw hP hD hS => ?_)
    have hw := hw.symm
    subst hw
    have hP : va_P (dC, dI) vwCl (w_X13_feed cy a0 ((0 : Int32)) gvm v10.1 v10.2 gfl grd gnv gac grc gim) H := hP
    have hD : va_D A (w_X13_feed cy a0 ((0 : Int32)) gvm v10.1 v10.2 gfl grd gnv gac grc gim) := hD
    refine lv_aload_n hx hb dX13_feed_47 rfl (lv_at hl 0 rfl) ?_
    refine va_get (D := (dC, dI)) (ci := 11) (v := .int v10.2) (C := RX13) (T := TX13) (N := 64) hx hb hts in_X13 hown hK hP 0 rfl rfl 14 (by decide) lk1 (fun _ h9 => h9) rfl dX13_feed_48 ?_
    exact W.iret (v := v10.2) hx hb hr (fun t ht hW => by rw [hqq]; have hh := Option.some.inj h; exact ⟨⟨v10.2, (((0 : Int32), v10)), rfl, ⟨fst_of hh, snd_of hh⟩, by rw [ht]; exact hP, va_K.moved hW.alike hK⟩, hS.F ht⟩) hS.2.2 dX13_feed_51
  · rw [if_neg c1] at h
    refine lv_iconst (v := (-1 : Int32)) hx hb dX13_feed_18 (by decide) ?_
    exact W.iret (v := (-1 : Int32)) hx hb hr (fun t ht hW => by rw [hqq]; have hh := Option.some.inj h; exact ⟨⟨(-1 : Int32), (((0 : Int32), gtt, gtd)), rfl, ⟨fst_of hh, snd_of hh⟩, by rw [ht]; exact hP, va_K.moved hW.alike hK⟩, hS.F ht⟩) hS.2.2 dX13_feed_19

abbrev w_X13_byteAt (cy : Nat → ClassId) (a0 : Nat → Nat) (gth : Int32) (gvm : Int32 × Int32 × Int32 × (Nat → Int32) × (Nat → Int32) × (Nat → Int32) × (Nat → Int32) × (Nat → Int32) × (Nat → Int32) × (Nat → Int32) × (Nat → Int32) × (Nat → Int32)) (gtt : (Nat → Int32)) (gtd : Int32) (gfl : Int32 × Int32) (grd : Int32 × Int32 × Int32 × Int32 × Int32 × Int32 × Int64 × (Nat → Int32)) (gnv : Int32 × Int32 × Int32 × Int32 × Int32 × (Nat → Int32) × (Nat → Int32) × (Nat → Int32) × (Nat → Int32) × (Nat → Int32) × (Nat → Int32)) (gac : Int32 × (Nat → Int32) × (Nat → Int32)) (grc : Int32 × (Nat → Int32)) (gim : Int32 × Int32 × Int32 × (Nat → Int32) × (Nat → Int32) × (Nat → Int32) × (Nat → Int32) × (Nat → Int32) × (Nat → Int32) × (Nat → Int32) × (Nat → Int32) × (Nat → Int32)) : va_W := [(a0 0, .inr (11, [.int (gth), .int (gvm.1), .int (gvm.2.1), .int (gvm.2.2.1), .ref (a0 1), .ref (a0 2), .ref (a0 3), .ref (a0 4), .ref (a0 5), .ref (a0 6), .ref (a0 7), .ref (a0 8), .ref (a0 9), .ref (a0 10), .int (gtd), .int (gfl.1), .int (gfl.2), .ref (a0 11), .int (grd.1), .int (grd.2.1), .int (grd.2.2.1), .int (grd.2.2.2.1), .int (grd.2.2.2.2.1), .int (grd.2.2.2.2.2.1), .long (grd.2.2.2.2.2.2.1), .ref (a0 12), .int (gnv.1), .int (gnv.2.1), .int (gnv.2.2.1), .int (gnv.2.2.2.1), .int (gnv.2.2.2.2.1), .ref (a0 13), .ref (a0 14), .ref (a0 15), .ref (a0 16), .ref (a0 17), .ref (a0 18), .int (gac.1), .ref (a0 19), .ref (a0 20), .ref (a0 21), .ref (a0 22), .ref (a0 23), .ref (a0 24), .ref (a0 25), .ref (a0 26), .ref (a0 27), .int (grc.1), .ref (a0 28), .ref (a0 29), .ref (a0 30), .ref (a0 31), .int (gim.1), .int (gim.2.1), .int (gim.2.2.1), .ref (a0 32), .ref (a0 33), .ref (a0 34), .ref (a0 35), .ref (a0 36), .ref (a0 37), .ref (a0 38), .ref (a0 39), .ref (a0 40)])), (a0 10, .inl (cy 1, 600, .inl (gtt))), (a0 12, .inl (cy 1, 5, .inl (grd.2.2.2.2.2.2.2)))]
abbrev rm_X13_byteAt : Room := { frames := 0, cells := 0, slots := 0, locals := 0 }
set_option maxHeartbeats 1000000 in
set_option maxRecDepth 100000 in
theorem c_X13_byteAt (l : Launch) (dC : Nat → ClassId) (dI : Nat → Nat → Nat) (cy : Nat → ClassId) (a0 : Nat → Nat) (gth : Int32) (gvm : Int32 × Int32 × Int32 × (Nat → Int32) × (Nat → Int32) × (Nat → Int32) × (Nat → Int32) × (Nat → Int32) × (Nat → Int32) × (Nat → Int32) × (Nat → Int32) × (Nat → Int32)) (gtt : (Nat → Int32)) (gtd : Int32) (gfl : Int32 × Int32) (grd : Int32 × Int32 × Int32 × Int32 × Int32 × Int32 × Int64 × (Nat → Int32)) (gnv : Int32 × Int32 × Int32 × Int32 × Int32 × (Nat → Int32) × (Nat → Int32) × (Nat → Int32) × (Nat → Int32) × (Nat → Int32) × (Nat → Int32)) (gac : Int32 × (Nat → Int32) × (Nat → Int32)) (grc : Int32 × (Nat → Int32)) (gim : Int32 × Int32 × Int32 × (Nat → Int32) × (Nat → Int32) × (Nat → Int32) × (Nat → Int32) × (Nat → Int32) × (Nat → Int32) × (Nat → Int32) × (Nat → Int32) × (Nat → Int32)) (x1 : Int32) (sz : Nat) (R0 : Int32) (h : p_X13_byteAt gtt grd x1 = some R0) : Met l yX13_byteAt wsX13_byteAt rm_X13_byteAt (va_Pc [.ref (a0 0), .int x1] (prC dC dI cy (w_X13_byteAt cy a0 gth gvm gtt gtd gfl grd gnv gac grc gim) sz)) (va_Qi (fun (r : Int32) (_ : Unit) => r = R0) (fun (_ : Unit) t => poC dC dI cy (w_X13_byteAt cy a0 gth gvm gtt gtd gfl grd gnv gac grc gim) t) (va_A (w_X13_byteAt cy a0 gth gvm gtt gtd gfl grd gnv gac grc gim) sz)) 0 0 (va_A (w_X13_byteAt cy a0 gth gvm gtt gtd gfl grd gnv gac grc gim) sz) := by
  refine Met.ofW (cc := cX13_byteAt) (maxL := 2) (ret := (some .int)) (by decide) rfl ?_
  intro p e s m aa below meth c s₁ B hml hv
  obtain ⟨haa, hsz, hP, hK, hD0⟩ := hv
  have hx := B.exec
  have hb := B.bytes
  have hr := B.returns
  have hts := atoms_spec (ws := wsX13_byteAt) B.pre
  have hown : s.vm.findClass RX13 = some m.cls := findClass_of_methodNamed B.named
  have hlocks := B.notSynchronized
  subst hsz
  have hD := hD0.self (sz := s.heap.size)
  obtain ⟨qq, hqq⟩ : ∃ qq, qq = (va_Qi (fun (r : Int32) (_ : Unit) => r = R0) (fun (_ : Unit) t => poC dC dI cy (w_X13_byteAt cy a0 gth gvm gtt gtd gfl grd gnv gac grc gim) t) (va_A (w_X13_byteAt cy a0 gth gvm gtt gtd gfl grd gnv gac grc gim) s.heap.size)) := ⟨_, rfl⟩
  rw [← hqq]
  generalize hAe : va_A (w_X13_byteAt cy a0 gth gvm gtt gtd gfl grd gnv gac grc gim) s.heap.size = A at hD hqq ⊢
  have hA : ∀ q : Nat, s.heap.size ≤ q → A q := fun q h => by rw [← hAe]; exact Or.inr h
  have hS : va_S A s.heap s.heap [] := va_S.rf
  have hl := lv_entry ([.ref (a0 0), .int x1]) (n := 2) (Nat.le_of_ble_eq_true rfl)
  have hE : entryFrame m aa 2 = F0 m 0 ((lg_sl ([.ref (a0 0), .int x1]) ++ List.replicate (2 - (lg_sl ([.ref (a0 0), .int x1])).length) Slot.unset).toArray) [] := by rw [haa]; exact lg_entry_eq m _ 2
  refine W.eq hE ?_
  generalize (lg_sl ([.ref (a0 0), .int x1]) ++ List.replicate (2 - (lg_sl ([.ref (a0 0), .int x1])).length) Slot.unset).toArray = ls at hl ⊢
  have hl : lv_has ls 2 [(0, .ref (a0 0)), (1, .int x1)] := hl
  change W p l e rm_X13_byteAt s m aa below meth c s.heap [] 0 0 (MQ below qq aa s 0 0 A) (F0 m 0 ls [])
  have hS0 := hS
  have lk0 := hts (.fieldLink RX13 145 "GoatDoorsModel" "size" "I") (by decide +kernel)
  have lk1 := hts (.fieldLink RX13 37 "GoatDoorsModel" "tape" "[I") (by decide +kernel)
  have in_X13 : ∀ w ∈ wsX130, w ∈ wsX13_byteAt := by decide +kernel
  obtain ⟨H, hH⟩ : ∃ H : Heap, H = s.heap := ⟨_, rfl⟩
  obtain ⟨locs, hlocs⟩ : ∃ locs : List Loc, locs = [] := ⟨_, rfl⟩
  have hS : va_S A s.heap H locs := by rw [hH, hlocs]; exact hS
  rw [← hH] at hP
  suffices hg : W p l e rm_X13_byteAt s m aa below meth c H locs 0 0 (MQ below qq aa s 0 0 A) (F0 m 0 ls []) by subst hH; subst hlocs; exact hg
  unfold p_X13_byteAt at h
  refine lv_iload_n hx hb dX13_byteAt_0 rfl (lv_at hl 1 rfl) ?_
  refine lv_aload_n hx hb dX13_byteAt_1 rfl (lv_at hl 0 rfl) ?_
  refine va_get (D := (dC, dI)) (ci := 11) (v := .int grd.1) (C := RX13) (T := TX13) (N := 64) hx hb hts in_X13 hown hK hP 0 rfl rfl 18 (by decide) lk0 (fun _ h9 => h9) rfl dX13_byteAt_2 ?_
  refine lv_icmp_ge (tgt := 17) hx hb dX13_byteAt_5 (by decide) (fun c1 => ?_) (fun c1 => ?_)
  · rw [if_pos c1] at h
    refine lv_iconst (v := (0 : Int32)) hx hb dX13_byteAt_17 (by decide) ?_
    exact W.iret (v := (0 : Int32)) hx hb hr (fun t ht hW => by rw [hqq]; have hh := Option.some.inj h; exact ⟨⟨(0 : Int32), (()), rfl, Option.some.inj h, by rw [ht]; exact hP, va_K.moved hW.alike hK⟩, hS.F ht⟩) hS.2.2 dX13_byteAt_18
  · rw [if_neg c1] at h
    refine lv_aload_n hx hb dX13_byteAt_8 rfl (lv_at hl 0 rfl) ?_
    refine va_get (D := (dC, dI)) (ci := 11) (v := .ref (a0 10)) (C := RX13) (T := TX13) (N := 64) hx hb hts in_X13 hown hK hP 0 rfl rfl 13 (by decide) lk1 (fun _ h9 => h9) rfl dX13_byteAt_9 ?_
    refine lv_iload_n hx hb dX13_byteAt_12 rfl (lv_at hl 1 rfl) ?_
    obtain ⟨hi2, h⟩ := ok_if h
    refine va_iald hx hb hK hP 1 1 rfl rfl (ix_in hi2) dX13_byteAt_13 ?_
    refine lv_goto (tgt := 18) hx hb dX13_byteAt_14 (by decide) ?_
    exact W.iret (v := (gtt x1.toNatClampNeg)) hx hb hr (fun t ht hW => by rw [hqq]; have hh := Option.some.inj h; exact ⟨⟨(gtt x1.toNatClampNeg), (()), rfl, Option.some.inj h, by rw [ht]; exact hP, va_K.moved hW.alike hK⟩, hS.F ht⟩) hS.2.2 dX13_byteAt_18

abbrev w_X13_isLetter (cy : Nat → ClassId)   : va_W := []
abbrev rm_X13_isLetter : Room := { frames := 0, cells := 0, slots := 0, locals := 0 }
set_option maxHeartbeats 1000000 in
set_option maxRecDepth 100000 in
theorem c_X13_isLetter (l : Launch) (dC : Nat → ClassId) (dI : Nat → Nat → Nat) (cy : Nat → ClassId)   (x0 : Int32) (sz : Nat) (R0 : Int32) (h : p_X13_isLetter x0 = some R0) : Met l yX13_isLetter wsX13_isLetter rm_X13_isLetter (va_Pc [.int x0] (prC dC dI cy (w_X13_isLetter cy  ) sz)) (va_Qi (fun (r : Int32) (_ : Unit) => r = R0) (fun (_ : Unit) t => poC dC dI cy (w_X13_isLetter cy  ) t) (va_A (w_X13_isLetter cy  ) sz)) 0 0 (va_A (w_X13_isLetter cy  ) sz) := by
  refine Met.ofW (cc := cX13_isLetter) (maxL := 1) (ret := (some .boolean)) (by decide) rfl ?_
  intro p e s m aa below meth c s₁ B hml hv
  obtain ⟨haa, hsz, hP, hK, hD0⟩ := hv
  have hx := B.exec
  have hb := B.bytes
  have hr := B.returns
  have hts := atoms_spec (ws := wsX13_isLetter) B.pre
  have hown : s.vm.findClass RX13 = some m.cls := findClass_of_methodNamed B.named
  have hlocks := B.notSynchronized
  subst hsz
  have hD := hD0.self (sz := s.heap.size)
  obtain ⟨qq, hqq⟩ : ∃ qq, qq = (va_Qi (fun (r : Int32) (_ : Unit) => r = R0) (fun (_ : Unit) t => poC dC dI cy (w_X13_isLetter cy  ) t) (va_A (w_X13_isLetter cy  ) s.heap.size)) := ⟨_, rfl⟩
  rw [← hqq]
  generalize hAe : va_A (w_X13_isLetter cy  ) s.heap.size = A at hD hqq ⊢
  have hA : ∀ q : Nat, s.heap.size ≤ q → A q := fun q h => by rw [← hAe]; exact Or.inr h
  have hS : va_S A s.heap s.heap [] := va_S.rf
  have hl := lv_entry ([.int x0]) (n := 1) (Nat.le_of_ble_eq_true rfl)
  have hE : entryFrame m aa 1 = F0 m 0 ((lg_sl ([.int x0]) ++ List.replicate (1 - (lg_sl ([.int x0])).length) Slot.unset).toArray) [] := by rw [haa]; exact lg_entry_eq m _ 1
  refine W.eq hE ?_
  generalize (lg_sl ([.int x0]) ++ List.replicate (1 - (lg_sl ([.int x0])).length) Slot.unset).toArray = ls at hl ⊢
  have hl : lv_has ls 1 [(0, .int x0)] := hl
  change W p l e rm_X13_isLetter s m aa below meth c s.heap [] 0 0 (MQ below qq aa s 0 0 A) (F0 m 0 ls [])
  have hS0 := hS
  obtain ⟨H, hH⟩ : ∃ H : Heap, H = s.heap := ⟨_, rfl⟩
  obtain ⟨locs, hlocs⟩ : ∃ locs : List Loc, locs = [] := ⟨_, rfl⟩
  have hS : va_S A s.heap H locs := by rw [hH, hlocs]; exact hS
  rw [← hH] at hP
  suffices hg : W p l e rm_X13_isLetter s m aa below meth c H locs 0 0 (MQ below qq aa s 0 0 A) (F0 m 0 ls []) by subst hH; subst hlocs; exact hg
  unfold p_X13_isLetter at h
  refine lv_iload_n hx hb dX13_isLetter_0 rfl (lv_at hl 0 rfl) ?_
  refine lv_bipush (v := (97 : Int32)) hx hb dX13_isLetter_1 (by decide) ?_
  refine lv_icmp_lt (tgt := 16) hx hb dX13_isLetter_3 (by decide) (fun c1 => ?_) (fun c1 => ?_)
  · rw [if_pos c1] at h
    refine lv_iconst (v := (0 : Int32)) hx hb dX13_isLetter_16 (by decide) ?_
    exact W.zret (v := (0 : Int32)) (ty := .boolean) hx hb hr rfl (fun t ht hW => by rw [hqq]; have hh := Option.some.inj h; exact ⟨⟨(0 : Int32), (()), rfl, Option.some.inj h, by rw [ht]; exact hP, va_K.moved hW.alike hK⟩, hS.F ht⟩) hS.2.2 dX13_isLetter_17
  · rw [if_neg c1] at h
    refine lv_iload_n hx hb dX13_isLetter_6 rfl (lv_at hl 0 rfl) ?_
    refine lv_bipush (v := (122 : Int32)) hx hb dX13_isLetter_7 (by decide) ?_
    refine lv_icmp_gt (tgt := 16) hx hb dX13_isLetter_9 (by decide) (fun c2 => ?_) (fun c2 => ?_)
    · rw [if_pos c2] at h
      refine lv_iconst (v := (0 : Int32)) hx hb dX13_isLetter_16 (by decide) ?_
      exact W.zret (v := (0 : Int32)) (ty := .boolean) hx hb hr rfl (fun t ht hW => by rw [hqq]; have hh := Option.some.inj h; exact ⟨⟨(0 : Int32), (()), rfl, Option.some.inj h, by rw [ht]; exact hP, va_K.moved hW.alike hK⟩, hS.F ht⟩) hS.2.2 dX13_isLetter_17
    · rw [if_neg c2] at h
      refine lv_iconst (v := (1 : Int32)) hx hb dX13_isLetter_12 (by decide) ?_
      refine lv_goto (tgt := 17) hx hb dX13_isLetter_13 (by decide) ?_
      exact W.zret (v := (1 : Int32)) (ty := .boolean) hx hb hr rfl (fun t ht hW => by rw [hqq]; have hh := Option.some.inj h; exact ⟨⟨(1 : Int32), (()), rfl, Option.some.inj h, by rw [ht]; exact hP, va_K.moved hW.alike hK⟩, hS.F ht⟩) hS.2.2 dX13_isLetter_17

abbrev w_X13_isDigit (cy : Nat → ClassId)   : va_W := []
abbrev rm_X13_isDigit : Room := { frames := 0, cells := 0, slots := 0, locals := 0 }
set_option maxHeartbeats 1000000 in
set_option maxRecDepth 100000 in
theorem c_X13_isDigit (l : Launch) (dC : Nat → ClassId) (dI : Nat → Nat → Nat) (cy : Nat → ClassId)   (x0 : Int32) (sz : Nat) (R0 : Int32) (h : p_X13_isDigit x0 = some R0) : Met l yX13_isDigit wsX13_isDigit rm_X13_isDigit (va_Pc [.int x0] (prC dC dI cy (w_X13_isDigit cy  ) sz)) (va_Qi (fun (r : Int32) (_ : Unit) => r = R0) (fun (_ : Unit) t => poC dC dI cy (w_X13_isDigit cy  ) t) (va_A (w_X13_isDigit cy  ) sz)) 0 0 (va_A (w_X13_isDigit cy  ) sz) := by
  refine Met.ofW (cc := cX13_isDigit) (maxL := 1) (ret := (some .boolean)) (by decide) rfl ?_
  intro p e s m aa below meth c s₁ B hml hv
  obtain ⟨haa, hsz, hP, hK, hD0⟩ := hv
  have hx := B.exec
  have hb := B.bytes
  have hr := B.returns
  have hts := atoms_spec (ws := wsX13_isDigit) B.pre
  have hown : s.vm.findClass RX13 = some m.cls := findClass_of_methodNamed B.named
  have hlocks := B.notSynchronized
  subst hsz
  have hD := hD0.self (sz := s.heap.size)
  obtain ⟨qq, hqq⟩ : ∃ qq, qq = (va_Qi (fun (r : Int32) (_ : Unit) => r = R0) (fun (_ : Unit) t => poC dC dI cy (w_X13_isDigit cy  ) t) (va_A (w_X13_isDigit cy  ) s.heap.size)) := ⟨_, rfl⟩
  rw [← hqq]
  generalize hAe : va_A (w_X13_isDigit cy  ) s.heap.size = A at hD hqq ⊢
  have hA : ∀ q : Nat, s.heap.size ≤ q → A q := fun q h => by rw [← hAe]; exact Or.inr h
  have hS : va_S A s.heap s.heap [] := va_S.rf
  have hl := lv_entry ([.int x0]) (n := 1) (Nat.le_of_ble_eq_true rfl)
  have hE : entryFrame m aa 1 = F0 m 0 ((lg_sl ([.int x0]) ++ List.replicate (1 - (lg_sl ([.int x0])).length) Slot.unset).toArray) [] := by rw [haa]; exact lg_entry_eq m _ 1
  refine W.eq hE ?_
  generalize (lg_sl ([.int x0]) ++ List.replicate (1 - (lg_sl ([.int x0])).length) Slot.unset).toArray = ls at hl ⊢
  have hl : lv_has ls 1 [(0, .int x0)] := hl
  change W p l e rm_X13_isDigit s m aa below meth c s.heap [] 0 0 (MQ below qq aa s 0 0 A) (F0 m 0 ls [])
  have hS0 := hS
  obtain ⟨H, hH⟩ : ∃ H : Heap, H = s.heap := ⟨_, rfl⟩
  obtain ⟨locs, hlocs⟩ : ∃ locs : List Loc, locs = [] := ⟨_, rfl⟩
  have hS : va_S A s.heap H locs := by rw [hH, hlocs]; exact hS
  rw [← hH] at hP
  suffices hg : W p l e rm_X13_isDigit s m aa below meth c H locs 0 0 (MQ below qq aa s 0 0 A) (F0 m 0 ls []) by subst hH; subst hlocs; exact hg
  unfold p_X13_isDigit at h
  refine lv_iload_n hx hb dX13_isDigit_0 rfl (lv_at hl 0 rfl) ?_
  refine lv_bipush (v := (48 : Int32)) hx hb dX13_isDigit_1 (by decide) ?_
  refine lv_icmp_lt (tgt := 16) hx hb dX13_isDigit_3 (by decide) (fun c1 => ?_) (fun c1 => ?_)
  · rw [if_pos c1] at h
    refine lv_iconst (v := (0 : Int32)) hx hb dX13_isDigit_16 (by decide) ?_
    exact W.zret (v := (0 : Int32)) (ty := .boolean) hx hb hr rfl (fun t ht hW => by rw [hqq]; have hh := Option.some.inj h; exact ⟨⟨(0 : Int32), (()), rfl, Option.some.inj h, by rw [ht]; exact hP, va_K.moved hW.alike hK⟩, hS.F ht⟩) hS.2.2 dX13_isDigit_17
  · rw [if_neg c1] at h
    refine lv_iload_n hx hb dX13_isDigit_6 rfl (lv_at hl 0 rfl) ?_
    refine lv_bipush (v := (57 : Int32)) hx hb dX13_isDigit_7 (by decide) ?_
    refine lv_icmp_gt (tgt := 16) hx hb dX13_isDigit_9 (by decide) (fun c2 => ?_) (fun c2 => ?_)
    · rw [if_pos c2] at h
      refine lv_iconst (v := (0 : Int32)) hx hb dX13_isDigit_16 (by decide) ?_
      exact W.zret (v := (0 : Int32)) (ty := .boolean) hx hb hr rfl (fun t ht hW => by rw [hqq]; have hh := Option.some.inj h; exact ⟨⟨(0 : Int32), (()), rfl, Option.some.inj h, by rw [ht]; exact hP, va_K.moved hW.alike hK⟩, hS.F ht⟩) hS.2.2 dX13_isDigit_17
    · rw [if_neg c2] at h
      refine lv_iconst (v := (1 : Int32)) hx hb dX13_isDigit_12 (by decide) ?_
      refine lv_goto (tgt := 17) hx hb dX13_isDigit_13 (by decide) ?_
      exact W.zret (v := (1 : Int32)) (ty := .boolean) hx hb hr rfl (fun t ht hW => by rw [hqq]; have hh := Option.some.inj h; exact ⟨⟨(1 : Int32), (()), rfl, Option.some.inj h, by rw [ht]; exact hP, va_K.moved hW.alike hK⟩, hS.F ht⟩) hS.2.2 dX13_isDigit_17

abbrev w_X13_steps (cy : Nat → ClassId) (a0 : Nat → Nat) (gth : Int32) (gvm : Int32 × Int32 × Int32 × (Nat → Int32) × (Nat → Int32) × (Nat → Int32) × (Nat → Int32) × (Nat → Int32) × (Nat → Int32) × (Nat → Int32) × (Nat → Int32) × (Nat → Int32)) (gtt : (Nat → Int32)) (gtd : Int32) (gfl : Int32 × Int32) (grd : Int32 × Int32 × Int32 × Int32 × Int32 × Int32 × Int64 × (Nat → Int32)) (gnv : Int32 × Int32 × Int32 × Int32 × Int32 × (Nat → Int32) × (Nat → Int32) × (Nat → Int32) × (Nat → Int32) × (Nat → Int32) × (Nat → Int32)) (gac : Int32 × (Nat → Int32) × (Nat → Int32)) (grc : Int32 × (Nat → Int32)) (gim : Int32 × Int32 × Int32 × (Nat → Int32) × (Nat → Int32) × (Nat → Int32) × (Nat → Int32) × (Nat → Int32) × (Nat → Int32) × (Nat → Int32) × (Nat → Int32) × (Nat → Int32)) : va_W := [(a0 0, .inr (11, [.int (gth), .int (gvm.1), .int (gvm.2.1), .int (gvm.2.2.1), .ref (a0 1), .ref (a0 2), .ref (a0 3), .ref (a0 4), .ref (a0 5), .ref (a0 6), .ref (a0 7), .ref (a0 8), .ref (a0 9), .ref (a0 10), .int (gtd), .int (gfl.1), .int (gfl.2), .ref (a0 11), .int (grd.1), .int (grd.2.1), .int (grd.2.2.1), .int (grd.2.2.2.1), .int (grd.2.2.2.2.1), .int (grd.2.2.2.2.2.1), .long (grd.2.2.2.2.2.2.1), .ref (a0 12), .int (gnv.1), .int (gnv.2.1), .int (gnv.2.2.1), .int (gnv.2.2.2.1), .int (gnv.2.2.2.2.1), .ref (a0 13), .ref (a0 14), .ref (a0 15), .ref (a0 16), .ref (a0 17), .ref (a0 18), .int (gac.1), .ref (a0 19), .ref (a0 20), .ref (a0 21), .ref (a0 22), .ref (a0 23), .ref (a0 24), .ref (a0 25), .ref (a0 26), .ref (a0 27), .int (grc.1), .ref (a0 28), .ref (a0 29), .ref (a0 30), .ref (a0 31), .int (gim.1), .int (gim.2.1), .int (gim.2.2.1), .ref (a0 32), .ref (a0 33), .ref (a0 34), .ref (a0 35), .ref (a0 36), .ref (a0 37), .ref (a0 38), .ref (a0 39), .ref (a0 40)])), (a0 10, .inl (cy 1, 600, .inl (gtt))), (a0 12, .inl (cy 1, 5, .inl (grd.2.2.2.2.2.2.2)))]
abbrev rm_X13_steps : Room := { frames := 1, cells := 0, slots := 0, locals := 21 }
set_option maxHeartbeats 1000000 in
set_option maxRecDepth 100000 in
theorem c_X13_steps (l : Launch) (dC : Nat → ClassId) (dI : Nat → Nat → Nat) (cy : Nat → ClassId) (a0 : Nat → Nat) (gth : Int32) (gvm : Int32 × Int32 × Int32 × (Nat → Int32) × (Nat → Int32) × (Nat → Int32) × (Nat → Int32) × (Nat → Int32) × (Nat → Int32) × (Nat → Int32) × (Nat → Int32) × (Nat → Int32)) (gtt : (Nat → Int32)) (gtd : Int32) (gfl : Int32 × Int32) (grd : Int32 × Int32 × Int32 × Int32 × Int32 × Int32 × Int64 × (Nat → Int32)) (gnv : Int32 × Int32 × Int32 × Int32 × Int32 × (Nat → Int32) × (Nat → Int32) × (Nat → Int32) × (Nat → Int32) × (Nat → Int32) × (Nat → Int32)) (gac : Int32 × (Nat → Int32) × (Nat → Int32)) (grc : Int32 × (Nat → Int32)) (gim : Int32 × Int32 × Int32 × (Nat → Int32) × (Nat → Int32) × (Nat → Int32) × (Nat → Int32) × (Nat → Int32) × (Nat → Int32) × (Nat → Int32) × (Nat → Int32) × (Nat → Int32)) (sz : Nat) (R0 : (Int32 × Int32 × Int32 × Int32 × Int32 × Int32 × Int64 × (Nat → Int32))) (h : p_X13_steps gtt grd = some R0) : Met l yX13_steps wsX13_steps rm_X13_steps (va_Pc [.ref (a0 0)] (prC dC dI cy (w_X13_steps cy a0 gth gvm gtt gtd gfl grd gnv gac grc gim) sz)) (va_Qv (fun (u : (Int32 × Int32 × Int32 × Int32 × Int32 × Int32 × Int64 × (Nat → Int32))) => u = R0) (fun (u : (Int32 × Int32 × Int32 × Int32 × Int32 × Int32 × Int64 × (Nat → Int32))) t => poC dC dI cy (w_X13_steps cy a0 gth gvm gtt gtd gfl u gnv gac grc gim) t) (va_A (w_X13_steps cy a0 gth gvm gtt gtd gfl grd gnv gac grc gim) sz)) 0 0 (va_A (w_X13_steps cy a0 gth gvm gtt gtd gfl grd gnv gac grc gim) sz) := by
  refine Met.ofW (cc := cX13_steps) (maxL := 3) (ret := none) (by decide) rfl ?_
  intro p e s m aa below meth c s₁ B hml hv
  obtain ⟨haa, hsz, hP, hK, hD0⟩ := hv
  have hx := B.exec
  have hb := B.bytes
  have hr := B.returns
  have hts := atoms_spec (ws := wsX13_steps) B.pre
  have hown : s.vm.findClass RX13 = some m.cls := findClass_of_methodNamed B.named
  have hlocks := B.notSynchronized
  subst hsz
  have hD := hD0.self (sz := s.heap.size)
  obtain ⟨qq, hqq⟩ : ∃ qq, qq = (va_Qv (fun (u : (Int32 × Int32 × Int32 × Int32 × Int32 × Int32 × Int64 × (Nat → Int32))) => u = R0) (fun (u : (Int32 × Int32 × Int32 × Int32 × Int32 × Int32 × Int64 × (Nat → Int32))) t => poC dC dI cy (w_X13_steps cy a0 gth gvm gtt gtd gfl u gnv gac grc gim) t) (va_A (w_X13_steps cy a0 gth gvm gtt gtd gfl grd gnv gac grc gim) s.heap.size)) := ⟨_, rfl⟩
  rw [← hqq]
  generalize hAe : va_A (w_X13_steps cy a0 gth gvm gtt gtd gfl grd gnv gac grc gim) s.heap.size = A at hD hqq ⊢
  have hA : ∀ q : Nat, s.heap.size ≤ q → A q := fun q h => by rw [← hAe]; exact Or.inr h
  have hS : va_S A s.heap s.heap [] := va_S.rf
  have hl := lv_entry ([.ref (a0 0)]) (n := 3) (Nat.le_of_ble_eq_true rfl)
  have hE : entryFrame m aa 3 = F0 m 0 ((lg_sl ([.ref (a0 0)]) ++ List.replicate (3 - (lg_sl ([.ref (a0 0)])).length) Slot.unset).toArray) [] := by rw [haa]; exact lg_entry_eq m _ 3
  refine W.eq hE ?_
  generalize (lg_sl ([.ref (a0 0)]) ++ List.replicate (3 - (lg_sl ([.ref (a0 0)])).length) Slot.unset).toArray = ls at hl ⊢
  have hl : lv_has ls 3 [(0, .ref (a0 0))] := hl
  change W p l e rm_X13_steps s m aa below meth c s.heap [] 0 0 (MQ below qq aa s 0 0 A) (F0 m 0 ls [])
  have hS0 := hS
  have lk0 := hts (.fieldLink RX13 148 "GoatDoorsModel" "next" "I") (by decide +kernel)
  have lk1 := hts (.fieldLink RX13 155 "GoatDoorsModel" "place" "I") (by decide +kernel)
  have lk2 := hts (.fieldLink RX13 175 "GoatDoorsModel" "long0" "I") (by decide +kernel)
  have lk3 := hts (.fieldLink RX13 165 "GoatDoorsModel" "sort" "I") (by decide +kernel)
  have lk4 := hts (.fieldLink RX13 47 "GoatDoorsModel" "row" "[I") (by decide +kernel)
  have lk5 := hts (.fieldLink RX13 162 "GoatDoorsModel" "value" "I") (by decide +kernel)
  have lk6 := hts (.fieldLink RX13 158 "GoatDoorsModel" "word" "J") (by decide +kernel)
  have lk7 := hts (.fieldLink RX13 145 "GoatDoorsModel" "size" "I") (by decide +kernel)
  have in_X13 : ∀ w ∈ wsX130, w ∈ wsX13_steps := by decide +kernel
  have c430 : ∀ (_u : Unit), ∀ (grd : Int32 × Int32 × Int32 × Int32 × Int32 × Int32 × Int64 × (Nat → Int32)) (H : Heap) (locs : List Loc) (ls : Array Slot), p_X13_steps_430 gtt grd = some R0 → va_P (dC, dI) vwCl (w_X13_steps cy a0 gth gvm gtt gtd gfl grd gnv gac grc gim) H → va_D A (w_X13_steps cy a0 gth gvm gtt gtd gfl grd gnv gac grc gim) → va_S A s.heap H locs → lv_has ls 3 [(0, .ref (a0 0))] → W p l e rm_X13_steps s m aa below meth c H locs 0 0 (MQ below qq aa s 0 0 A) (F0 m 430 ls []) := by
    intro _ grd H locs ls h hP hD hS hl
    unfold p_X13_steps_430 at h
    refine lv_aload_n hx hb dX13_steps_430 rfl (lv_at hl 0 rfl) ?_
    refine lv_aload_n hx hb dX13_steps_431 rfl (lv_at hl 0 rfl) ?_
    refine va_get (D := (dC, dI)) (ci := 11) (v := .int grd.2.1) (C := RX13) (T := TX13) (N := 64) hx hb hts in_X13 hown hK hP 0 rfl rfl 19 (by decide) lk0 (fun _ h9 => h9) rfl dX13_steps_432 ?_
    refine lv_aload_n hx hb dX13_steps_435 rfl (lv_at hl 0 rfl) ?_
    refine va_get (D := (dC, dI)) (ci := 11) (v := .int grd.2.2.2.1) (C := RX13) (T := TX13) (N := 64) hx hb hts in_X13 hown hK hP 0 rfl rfl 21 (by decide) lk1 (fun _ h9 => h9) rfl dX13_steps_436 ?_
    refine lv_isub hx hb dX13_steps_439 ?_
    refine va_put (D := (dC, dI)) (ci := 11) (v := .int (grd.2.1 - grd.2.2.2.1)) (ty := .int) (C := RX13) (T := TX13) (N := 64) hx hb hts in_X13 tyX13 tyX13_ok nmX13 hown hK hP hD hS 0 rfl rfl 22 (by decide) lk2 (fun _ h9 => h9) rfl (by decide +kernel) rfl rfl (Nat.le_of_ble_eq_true rfl) dX13_steps_440 (fun H locs hP hD hS => ?_)
    have hP : va_P (dC, dI) vwCl (w_X13_steps cy a0 gth gvm gtt gtd gfl ((grd.1, grd.2.1, grd.2.2.1, grd.2.2.2.1, (grd.2.1 - grd.2.2.2.1), grd.2.2.2.2.2)) gnv gac grc gim) H := hP
    have hD : va_D A (w_X13_steps cy a0 gth gvm gtt gtd gfl ((grd.1, grd.2.1, grd.2.2.1, grd.2.2.2.1, (grd.2.1 - grd.2.2.2.1), grd.2.2.2.2.2)) gnv gac grc gim) := hD
    exact W.vret hx hb hr (fun t ht hW => by rw [hqq]; have hh := Option.some.inj h; exact ⟨⟨((grd.1, grd.2.1, grd.2.2.1, grd.2.2.2.1, (grd.2.1 - grd.2.2.2.1), grd.2.2.2.2.2)), rfl, Option.some.inj h, by rw [ht]; exact hP, va_K.moved hW.alike hK⟩, hS.F ht⟩) hS.2.2 dX13_steps_443
  have c427 : ∀ (_u : Unit), ∀ (grd : Int32 × Int32 × Int32 × Int32 × Int32 × Int32 × Int64 × (Nat → Int32)) (t1 : Int32) (H : Heap) (locs : List Loc) (ls : Array Slot), p_X13_steps_427 gtt grd t1 = some R0 → va_P (dC, dI) vwCl (w_X13_steps cy a0 gth gvm gtt gtd gfl grd gnv gac grc gim) H → va_D A (w_X13_steps cy a0 gth gvm gtt gtd gfl grd gnv gac grc gim) → va_S A s.heap H locs → lv_has ls 3 [(0, .ref (a0 0))] → W p l e rm_X13_steps s m aa below meth c H locs 0 0 (MQ below qq aa s 0 0 A) (F0 m 427 ls [.int t1, .ref (a0 0)]) := by
    intro _ grd t1 H locs ls h hP hD hS hl
    unfold p_X13_steps_427 at h
    refine va_put (D := (dC, dI)) (ci := 11) (v := .int t1) (ty := .int) (C := RX13) (T := TX13) (N := 64) hx hb hts in_X13 tyX13 tyX13_ok nmX13 hown hK hP hD hS 0 rfl rfl 20 (by decide) lk3 (fun _ h9 => h9) rfl (by decide +kernel) rfl rfl (Nat.le_of_ble_eq_true rfl) dX13_steps_427 (fun H locs hP hD hS => ?_)
    have hP : va_P (dC, dI) vwCl (w_X13_steps cy a0 gth gvm gtt gtd gfl ((grd.1, grd.2.1, t1, grd.2.2.2)) gnv gac grc gim) H := hP
    have hD : va_D A (w_X13_steps cy a0 gth gvm gtt gtd gfl ((grd.1, grd.2.1, t1, grd.2.2.2)) gnv gac grc gim) := hD
    exact c430 () (grd.1, grd.2.1, t1, grd.2.2.2) H locs ls h hP hD hS (lv_sub hl [0] rfl)
  have c399 : ∀ (_u : Unit), ∀ (grd : Int32 × Int32 × Int32 × Int32 × Int32 × Int32 × Int64 × (Nat → Int32)) (t1 : Int32) (H : Heap) (locs : List Loc) (ls : Array Slot), p_X13_steps_399 gtt grd t1 = some R0 → va_P (dC, dI) vwCl (w_X13_steps cy a0 gth gvm gtt gtd gfl grd gnv gac grc gim) H → va_D A (w_X13_steps cy a0 gth gvm gtt gtd gfl grd gnv gac grc gim) → va_S A s.heap H locs → lv_has ls 3 [(0, .ref (a0 0))] → W p l e rm_X13_steps s m aa below meth c H locs 0 0 (MQ below qq aa s 0 0 A) (F0 m 399 ls [.int t1, .ref (a0 0)]) := by
    intro _ grd t1 H locs ls h hP hD hS hl
    unfold p_X13_steps_399 at h
    refine va_put (D := (dC, dI)) (ci := 11) (v := .int t1) (ty := .int) (C := RX13) (T := TX13) (N := 64) hx hb hts in_X13 tyX13 tyX13_ok nmX13 hown hK hP hD hS 0 rfl rfl 20 (by decide) lk3 (fun _ h9 => h9) rfl (by decide +kernel) rfl rfl (Nat.le_of_ble_eq_true rfl) dX13_steps_399 (fun H locs hP hD hS => ?_)
    have hP : va_P (dC, dI) vwCl (w_X13_steps cy a0 gth gvm gtt gtd gfl ((grd.1, grd.2.1, t1, grd.2.2.2)) gnv gac grc gim) H := hP
    have hD : va_D A (w_X13_steps cy a0 gth gvm gtt gtd gfl ((grd.1, grd.2.1, t1, grd.2.2.2)) gnv gac grc gim) := hD
    refine lv_goto (tgt := 430) hx hb dX13_steps_402 (by decide) ?_
    exact c430 () (grd.1, grd.2.1, t1, grd.2.2.2) H locs ls h hP hD hS (lv_sub hl [0] rfl)
  have c367 : ∀ (k269 : (Int32 × Int32 × Int32 × Int32 × Int32 × Int32 × Int64 × (Nat → Int32)) → Option ((Int32 × Int32 × Int32 × Int32 × Int32 × Int32 × Int64 × (Nat → Int32)))) (hk269 : ∀ (grd : Int32 × Int32 × Int32 × Int32 × Int32 × Int32 × Int64 × (Nat → Int32)) (H : Heap) (locs : List Loc) (ls : Array Slot), k269 grd = some R0 → va_P (dC, dI) vwCl (w_X13_steps cy a0 gth gvm gtt gtd gfl grd gnv gac grc gim) H → va_D A (w_X13_steps cy a0 gth gvm gtt gtd gfl grd gnv gac grc gim) → va_S A s.heap H locs → lv_has ls 3 [(0, .ref (a0 0))] → W p l e rm_X13_steps s m aa below meth c H locs 0 0 (MQ below qq aa s 0 0 A) (F0 m 269 ls [])), ∀ (grd : Int32 × Int32 × Int32 × Int32 × Int32 × Int32 × Int64 × (Nat → Int32)) (H : Heap) (locs : List Loc) (ls : Array Slot), p_X13_steps_367 k269 gtt grd = some R0 → va_P (dC, dI) vwCl (w_X13_steps cy a0 gth gvm gtt gtd gfl grd gnv gac grc gim) H → va_D A (w_X13_steps cy a0 gth gvm gtt gtd gfl grd gnv gac grc gim) → va_S A s.heap H locs → lv_has ls 3 [(0, .ref (a0 0))] → W p l e rm_X13_steps s m aa below meth c H locs 0 0 (MQ below qq aa s 0 0 A) (F0 m 367 ls []) := by
    intro k269 hk269 grd H locs ls h hP hD hS hl
    unfold p_X13_steps_367 at h
    refine lv_aload_n hx hb dX13_steps_367 rfl (lv_at hl 0 rfl) ?_
    refine lv_dup hx hb dX13_steps_368 rfl ?_
    refine va_get (D := (dC, dI)) (ci := 11) (v := .int grd.2.1) (C := RX13) (T := TX13) (N := 64) hx hb hts in_X13 hown hK hP 0 rfl rfl 19 (by decide) lk0 (fun _ h9 => h9) rfl dX13_steps_369 ?_
    refine lv_iconst (v := (1 : Int32)) hx hb dX13_steps_372 (by decide) ?_
    refine lv_iadd hx hb dX13_steps_373 ?_
    refine va_put (D := (dC, dI)) (ci := 11) (v := .int (grd.2.1 + (1 : Int32))) (ty := .int) (C := RX13) (T := TX13) (N := 64) hx hb hts in_X13 tyX13 tyX13_ok nmX13 hown hK hP hD hS 0 rfl rfl 19 (by decide) lk0 (fun _ h9 => h9) rfl (by decide +kernel) rfl rfl (Nat.le_of_ble_eq_true rfl) dX13_steps_374 (fun H locs hP hD hS => ?_)
    have hP : va_P (dC, dI) vwCl (w_X13_steps cy a0 gth gvm gtt gtd gfl ((grd.1, (grd.2.1 + (1 : Int32)), grd.2.2)) gnv gac grc gim) H := hP
    have hD : va_D A (w_X13_steps cy a0 gth gvm gtt gtd gfl ((grd.1, (grd.2.1 + (1 : Int32)), grd.2.2)) gnv gac grc gim) := hD
    refine lv_goto (tgt := 269) hx hb dX13_steps_377 (by decide) ?_
    exact hk269 (grd.1, (grd.2.1 + (1 : Int32)), grd.2.2) H locs ls h hP hD hS (lv_sub hl [0] rfl)
  have c336 : ∀ (k269 : (Int32 × Int32 × Int32 × Int32 × Int32 × Int32 × Int64 × (Nat → Int32)) → Option ((Int32 × Int32 × Int32 × Int32 × Int32 × Int32 × Int64 × (Nat → Int32)))) (hk269 : ∀ (grd : Int32 × Int32 × Int32 × Int32 × Int32 × Int32 × Int64 × (Nat → Int32)) (H : Heap) (locs : List Loc) (ls : Array Slot), k269 grd = some R0 → va_P (dC, dI) vwCl (w_X13_steps cy a0 gth gvm gtt gtd gfl grd gnv gac grc gim) H → va_D A (w_X13_steps cy a0 gth gvm gtt gtd gfl grd gnv gac grc gim) → va_S A s.heap H locs → lv_has ls 3 [(0, .ref (a0 0))] → W p l e rm_X13_steps s m aa below meth c H locs 0 0 (MQ below qq aa s 0 0 A) (F0 m 269 ls [])), ∀ (grd : Int32 × Int32 × Int32 × Int32 × Int32 × Int32 × Int64 × (Nat → Int32)) (t0 : Int32) (H : Heap) (locs : List Loc) (ls : Array Slot), p_X13_steps_336 k269 gtt grd t0 = some R0 → va_P (dC, dI) vwCl (w_X13_steps cy a0 gth gvm gtt gtd gfl grd gnv gac grc gim) H → va_D A (w_X13_steps cy a0 gth gvm gtt gtd gfl grd gnv gac grc gim) → va_S A s.heap H locs → lv_has ls 3 [(0, .ref (a0 0))] → W p l e rm_X13_steps s m aa below meth c H locs 0 0 (MQ below qq aa s 0 0 A) (F0 m 336 ls [.int t0]) := by
    intro k269 hk269 grd t0 H locs ls h hP hD hS hl
    unfold p_X13_steps_336 at h
    refine lv_istore_n (lv' := [(2, .int t0), (0, .ref (a0 0))]) hx hb dX13_steps_336 rfl hl (by decide) rfl (fun ls hl => ?_)
    refine lv_aload_n hx hb dX13_steps_337 rfl (lv_at hl 1 rfl) ?_
    refine va_get (D := (dC, dI)) (ci := 11) (v := .int grd.2.1) (C := RX13) (T := TX13) (N := 64) hx hb hts in_X13 hown hK hP 0 rfl rfl 19 (by decide) lk0 (fun _ h9 => h9) rfl dX13_steps_338 ?_
    refine lv_aload_n hx hb dX13_steps_341 rfl (lv_at hl 1 rfl) ?_
    refine va_get (D := (dC, dI)) (ci := 11) (v := .int grd.2.2.2.1) (C := RX13) (T := TX13) (N := 64) hx hb hts in_X13 hown hK hP 0 rfl rfl 21 (by decide) lk1 (fun _ h9 => h9) rfl dX13_steps_342 ?_
    refine lv_isub hx hb dX13_steps_345 ?_
    refine lv_iconst (v := (5 : Int32)) hx hb dX13_steps_346 (by decide) ?_
    refine lv_icmp_gt (tgt := 367) hx hb dX13_steps_347 (by decide) (fun c1 => ?_) (fun c1 => ?_)
    · rw [if_pos c1] at h
      exact c367 k269 hk269 grd H locs ls h hP hD hS (lv_sub hl [1] rfl)
    · rw [if_neg c1] at h
      refine lv_aload_n hx hb dX13_steps_350 rfl (lv_at hl 1 rfl) ?_
      refine va_get (D := (dC, dI)) (ci := 11) (v := .ref (a0 12)) (C := RX13) (T := TX13) (N := 64) hx hb hts in_X13 hown hK hP 0 rfl rfl 25 (by decide) lk4 (fun _ h9 => h9) rfl dX13_steps_351 ?_
      refine lv_aload_n hx hb dX13_steps_354 rfl (lv_at hl 1 rfl) ?_
      refine va_get (D := (dC, dI)) (ci := 11) (v := .int grd.2.1) (C := RX13) (T := TX13) (N := 64) hx hb hts in_X13 hown hK hP 0 rfl rfl 19 (by decide) lk0 (fun _ h9 => h9) rfl dX13_steps_355 ?_
      refine lv_aload_n hx hb dX13_steps_358 rfl (lv_at hl 1 rfl) ?_
      refine va_get (D := (dC, dI)) (ci := 11) (v := .int grd.2.2.2.1) (C := RX13) (T := TX13) (N := 64) hx hb hts in_X13 hown hK hP 0 rfl rfl 21 (by decide) lk1 (fun _ h9 => h9) rfl dX13_steps_359 ?_
      refine lv_isub hx hb dX13_steps_362 ?_
      refine lv_iconst (v := (1 : Int32)) hx hb dX13_steps_363 (by decide) ?_
      refine lv_isub hx hb dX13_steps_364 ?_
      refine lv_iload_n hx hb dX13_steps_365 rfl (lv_at hl 0 rfl) ?_
      obtain ⟨hi2, h⟩ := ok_if h
      refine va_iast hx hb hK hP hD hS 2 1 rfl rfl (ix_in hi2) dX13_steps_366 (fun H locs hP hD hS => ?_)
      have hP : va_P (dC, dI) vwCl (w_X13_steps cy a0 gth gvm gtt gtd gfl ((grd.1, grd.2.1, grd.2.2.1, grd.2.2.2.1, grd.2.2.2.2.1, grd.2.2.2.2.2.1, grd.2.2.2.2.2.2.1, (upd grd.2.2.2.2.2.2.2 ((grd.2.1 - grd.2.2.2.1) - (1 : Int32)).toNatClampNeg t0))) gnv gac grc gim) H := hP
      have hD : va_D A (w_X13_steps cy a0 gth gvm gtt gtd gfl ((grd.1, grd.2.1, grd.2.2.1, grd.2.2.2.1, grd.2.2.2.2.1, grd.2.2.2.2.2.1, grd.2.2.2.2.2.2.1, (upd grd.2.2.2.2.2.2.2 ((grd.2.1 - grd.2.2.2.1) - (1 : Int32)).toNatClampNeg t0))) gnv gac grc gim) := hD
      exact c367 k269 hk269 (grd.1, grd.2.1, grd.2.2.1, grd.2.2.2.1, grd.2.2.2.2.1, grd.2.2.2.2.2.1, grd.2.2.2.2.2.2.1, (upd grd.2.2.2.2.2.2.2 ((grd.2.1 - grd.2.2.2.1) - (1 : Int32)).toNatClampNeg t0)) H locs ls h hP hD hS (lv_sub hl [1] rfl)
  have c297 : ∀ (k269 : (Int32 × Int32 × Int32 × Int32 × Int32 × Int32 × Int64 × (Nat → Int32)) → Option ((Int32 × Int32 × Int32 × Int32 × Int32 × Int32 × Int64 × (Nat → Int32)))) (hk269 : ∀ (grd : Int32 × Int32 × Int32 × Int32 × Int32 × Int32 × Int64 × (Nat → Int32)) (H : Heap) (locs : List Loc) (ls : Array Slot), k269 grd = some R0 → va_P (dC, dI) vwCl (w_X13_steps cy a0 gth gvm gtt gtd gfl grd gnv gac grc gim) H → va_D A (w_X13_steps cy a0 gth gvm gtt gtd gfl grd gnv gac grc gim) → va_S A s.heap H locs → lv_has ls 3 [(0, .ref (a0 0))] → W p l e rm_X13_steps s m aa below meth c H locs 0 0 (MQ below qq aa s 0 0 A) (F0 m 269 ls [])), ∀ (grd : Int32 × Int32 × Int32 × Int32 × Int32 × Int32 × Int64 × (Nat → Int32)) (H : Heap) (locs : List Loc) (ls : Array Slot), p_X13_steps_297 k269 gtt grd = some R0 → va_P (dC, dI) vwCl (w_X13_steps cy a0 gth gvm gtt gtd gfl grd gnv gac grc gim) H → va_D A (w_X13_steps cy a0 gth gvm gtt gtd gfl grd gnv gac grc gim) → va_S A s.heap H locs → lv_has ls 3 [(0, .ref (a0 0))] → W p l e rm_X13_steps s m aa below meth c H locs 0 0 (MQ below qq aa s 0 0 A) (F0 m 297 ls []) := by
    intro k269 hk269 grd H locs ls h hP hD hS hl
    unfold p_X13_steps_297 at h
    refine lv_aload_n hx hb dX13_steps_297 rfl (lv_at hl 0 rfl) ?_
    refine lv_aload_n hx hb dX13_steps_298 rfl (lv_at hl 0 rfl) ?_
    refine va_get (D := (dC, dI)) (ci := 11) (v := .int grd.2.1) (C := RX13) (T := TX13) (N := 64) hx hb hts in_X13 hown hK hP 0 rfl rfl 19 (by decide) lk0 (fun _ h9 => h9) rfl dX13_steps_299 ?_
    obtain ⟨v1, hv2, h⟩ := ok_bind h
    refine cl_vi (w2 := fun (_ : Unit) => w_X13_steps cy a0 gth gvm gtt gtd gfl grd gnv gac grc gim) (As := [.int grd.2.1]) (rest := []) ⟨hx, hb, hml, hown, hts⟩ (c_X13_byteAt l dC dI cy a0 gth gvm gtt gtd gfl grd gnv gac grc gim grd.2.1 H.size v1 hv2) (cwV 1 hts gX13_steps_X13_byteAt rfl rfl rfl (by decide +kernel) ⟨Nat.le_of_ble_eq_true rfl, Nat.le_of_ble_eq_true rfl⟩) (va_recv hK hP (ci := 11) (q0 := 0) rfl rfl) cl_blind (cl_pre hK hP hD [0, 1, 2] (by decide) rfl) hP hD hS hA [0, 1, 2] rfl rfl hl.1 rfl (lv_room (Nat.le_of_ble_eq_true rfl)) dX13_steps_302 ⟨Nat.le_of_ble_eq_true rfl, Nat.le_of_ble_eq_true rfl⟩ ⟨rfl, rfl⟩ (fun _ => updR [0, 1, 2] rfl) (fun r u H locs hw hP hD hS => ?_)
    have hw := hw.symm
    subst hw
    have hP : va_P (dC, dI) vwCl (w_X13_steps cy a0 gth gvm gtt gtd gfl grd gnv gac grc gim) H := hP
    have hD : va_D A (w_X13_steps cy a0 gth gvm gtt gtd gfl grd gnv gac grc gim) := hD
    obtain ⟨v3, hv4, h⟩ := ok_bind h
    refine cl_si (w2 := fun (_ : Unit) => w_X13_steps cy a0 gth gvm gtt gtd gfl grd gnv gac grc gim) (As := [.int v1]) (rest := []) ⟨hx, hb, hml, hown, hts⟩ (c_X13_isDigit l dC dI cy  v1 H.size v3 hv4) (va_cwS 1 hts gX13_steps_X13_isDigit rfl rfl rfl (by decide +kernel) ⟨Nat.le_of_ble_eq_true rfl, Nat.le_of_ble_eq_true rfl⟩) cl_blind (cl_pre hK hP hD [] (by decide) rfl) hP hD hS hA [] rfl rfl hl.1 rfl (lv_room (Nat.le_of_ble_eq_true rfl)) dX13_steps_305 ⟨Nat.le_of_ble_eq_true rfl, Nat.le_of_ble_eq_true rfl⟩ ⟨rfl, rfl⟩ (fun _ => updR [] rfl) (fun r u H locs hw hP hD hS => ?_)
    have hw := hw.symm
    subst hw
    have hP : va_P (dC, dI) vwCl (w_X13_steps cy a0 gth gvm gtt gtd gfl grd gnv gac grc gim) H := hP
    have hD : va_D A (w_X13_steps cy a0 gth gvm gtt gtd gfl grd gnv gac grc gim) := hD
    refine lv_if_eq (tgt := 325) hx hb dX13_steps_308 (by decide) (fun c5 => ?_) (fun c5 => ?_)
    · rw [if_pos c5] at h
      refine lv_aload_n hx hb dX13_steps_325 rfl (lv_at hl 0 rfl) ?_
      refine lv_aload_n hx hb dX13_steps_326 rfl (lv_at hl 0 rfl) ?_
      refine va_get (D := (dC, dI)) (ci := 11) (v := .int grd.2.1) (C := RX13) (T := TX13) (N := 64) hx hb hts in_X13 hown hK hP 0 rfl rfl 19 (by decide) lk0 (fun _ h9 => h9) rfl dX13_steps_327 ?_
      obtain ⟨v6, hv7, h⟩ := ok_bind h
      refine cl_vi (w2 := fun (_ : Unit) => w_X13_steps cy a0 gth gvm gtt gtd gfl grd gnv gac grc gim) (As := [.int grd.2.1]) (rest := []) ⟨hx, hb, hml, hown, hts⟩ (c_X13_byteAt l dC dI cy a0 gth gvm gtt gtd gfl grd gnv gac grc gim grd.2.1 H.size v6 hv7) (cwV 1 hts gX13_steps_X13_byteAt rfl rfl rfl (by decide +kernel) ⟨Nat.le_of_ble_eq_true rfl, Nat.le_of_ble_eq_true rfl⟩) (va_recv hK hP (ci := 11) (q0 := 0) rfl rfl) cl_blind (cl_pre hK hP hD [0, 1, 2] (by decide) rfl) hP hD hS hA [0, 1, 2] rfl rfl hl.1 rfl (lv_room (Nat.le_of_ble_eq_true rfl)) dX13_steps_330 ⟨Nat.le_of_ble_eq_true rfl, Nat.le_of_ble_eq_true rfl⟩ ⟨rfl, rfl⟩ (fun _ => updR [0, 1, 2] rfl) (fun r u H locs hw hP hD hS => ?_)
      have hw := hw.symm
      subst hw
      have hP : va_P (dC, dI) vwCl (w_X13_steps cy a0 gth gvm gtt gtd gfl grd gnv gac grc gim) H := hP
      have hD : va_D A (w_X13_steps cy a0 gth gvm gtt gtd gfl grd gnv gac grc gim) := hD
      refine lv_bipush (v := (87 : Int32)) hx hb dX13_steps_333 (by decide) ?_
      refine lv_isub hx hb dX13_steps_335 ?_
      exact c336 k269 hk269 grd (v6 - (87 : Int32)) H locs ls h hP hD hS (lv_sub hl [0] rfl)
    · rw [if_neg c5] at h
      refine lv_aload_n hx hb dX13_steps_311 rfl (lv_at hl 0 rfl) ?_
      refine lv_aload_n hx hb dX13_steps_312 rfl (lv_at hl 0 rfl) ?_
      refine va_get (D := (dC, dI)) (ci := 11) (v := .int grd.2.1) (C := RX13) (T := TX13) (N := 64) hx hb hts in_X13 hown hK hP 0 rfl rfl 19 (by decide) lk0 (fun _ h9 => h9) rfl dX13_steps_313 ?_
      obtain ⟨v8, hv9, h⟩ := ok_bind h
      refine cl_vi (w2 := fun (_ : Unit) => w_X13_steps cy a0 gth gvm gtt gtd gfl grd gnv gac grc gim) (As := [.int grd.2.1]) (rest := []) ⟨hx, hb, hml, hown, hts⟩ (c_X13_byteAt l dC dI cy a0 gth gvm gtt gtd gfl grd gnv gac grc gim grd.2.1 H.size v8 hv9) (cwV 1 hts gX13_steps_X13_byteAt rfl rfl rfl (by decide +kernel) ⟨Nat.le_of_ble_eq_true rfl, Nat.le_of_ble_eq_true rfl⟩) (va_recv hK hP (ci := 11) (q0 := 0) rfl rfl) cl_blind (cl_pre hK hP hD [0, 1, 2] (by decide) rfl) hP hD hS hA [0, 1, 2] rfl rfl hl.1 rfl (lv_room (Nat.le_of_ble_eq_true rfl)) dX13_steps_316 ⟨Nat.le_of_ble_eq_true rfl, Nat.le_of_ble_eq_true rfl⟩ ⟨rfl, rfl⟩ (fun _ => updR [0, 1, 2] rfl) (fun r u H locs hw hP hD hS => ?_)
      have hw := hw.symm
      subst hw
      have hP : va_P (dC, dI) vwCl (w_X13_steps cy a0 gth gvm gtt gtd gfl grd gnv gac grc gim) H := hP
      have hD : va_D A (w_X13_steps cy a0 gth gvm gtt gtd gfl grd gnv gac grc gim) := hD
      refine lv_bipush (v := (48 : Int32)) hx hb dX13_steps_319 (by decide) ?_
      refine lv_isub hx hb dX13_steps_321 ?_
      refine lv_goto (tgt := 336) hx hb dX13_steps_322 (by decide) ?_
      exact c336 k269 hk269 grd (v8 - (48 : Int32)) H locs ls h hP hD hS (lv_sub hl [0] rfl)
  have c269 : ∀ (n : Nat), ∀ (grd : Int32 × Int32 × Int32 × Int32 × Int32 × Int32 × Int64 × (Nat → Int32)) (H : Heap) (locs : List Loc) (ls : Array Slot), p_X13_steps_269 gtt n grd = some R0 → va_P (dC, dI) vwCl (w_X13_steps cy a0 gth gvm gtt gtd gfl grd gnv gac grc gim) H → va_D A (w_X13_steps cy a0 gth gvm gtt gtd gfl grd gnv gac grc gim) → va_S A s.heap H locs → lv_has ls 3 [(0, .ref (a0 0))] → W p l e rm_X13_steps s m aa below meth c H locs 0 0 (MQ below qq aa s 0 0 A) (F0 m 269 ls []) := by
    intro  n
    induction n with
    | zero => intro grd H locs ls h; exact no_some h
    | succ n ih =>
      intro grd H locs ls h hP hD hS hl
      rw [p_X13_steps_269.eq_2] at h
      refine lv_aload_n hx hb dX13_steps_269 rfl (lv_at hl 0 rfl) ?_
      refine lv_aload_n hx hb dX13_steps_270 rfl (lv_at hl 0 rfl) ?_
      refine va_get (D := (dC, dI)) (ci := 11) (v := .int grd.2.1) (C := RX13) (T := TX13) (N := 64) hx hb hts in_X13 hown hK hP 0 rfl rfl 19 (by decide) lk0 (fun _ h9 => h9) rfl dX13_steps_271 ?_
      obtain ⟨v1, hv2, h⟩ := ok_bind h
      refine cl_vi (w2 := fun (_ : Unit) => w_X13_steps cy a0 gth gvm gtt gtd gfl grd gnv gac grc gim) (As := [.int grd.2.1]) (rest := []) ⟨hx, hb, hml, hown, hts⟩ (c_X13_byteAt l dC dI cy a0 gth gvm gtt gtd gfl grd gnv gac grc gim grd.2.1 H.size v1 hv2) (cwV 1 hts gX13_steps_X13_byteAt rfl rfl rfl (by decide +kernel) ⟨Nat.le_of_ble_eq_true rfl, Nat.le_of_ble_eq_true rfl⟩) (va_recv hK hP (ci := 11) (q0 := 0) rfl rfl) cl_blind (cl_pre hK hP hD [0, 1, 2] (by decide) rfl) hP hD hS hA [0, 1, 2] rfl rfl hl.1 rfl (lv_room (Nat.le_of_ble_eq_true rfl)) dX13_steps_274 ⟨Nat.le_of_ble_eq_true rfl, Nat.le_of_ble_eq_true rfl⟩ ⟨rfl, rfl⟩ (fun _ => updR [0, 1, 2] rfl) (fun r u H locs hw hP hD hS => ?_)
      have hw := hw.symm
      subst hw
      have hP : va_P (dC, dI) vwCl (w_X13_steps cy a0 gth gvm gtt gtd gfl grd gnv gac grc gim) H := hP
      have hD : va_D A (w_X13_steps cy a0 gth gvm gtt gtd gfl grd gnv gac grc gim) := hD
      obtain ⟨v3, hv4, h⟩ := ok_bind h
      refine cl_si (w2 := fun (_ : Unit) => w_X13_steps cy a0 gth gvm gtt gtd gfl grd gnv gac grc gim) (As := [.int v1]) (rest := []) ⟨hx, hb, hml, hown, hts⟩ (c_X13_isLetter l dC dI cy  v1 H.size v3 hv4) (va_cwS 1 hts gX13_steps_X13_isLetter rfl rfl rfl (by decide +kernel) ⟨Nat.le_of_ble_eq_true rfl, Nat.le_of_ble_eq_true rfl⟩) cl_blind (cl_pre hK hP hD [] (by decide) rfl) hP hD hS hA [] rfl rfl hl.1 rfl (lv_room (Nat.le_of_ble_eq_true rfl)) dX13_steps_277 ⟨Nat.le_of_ble_eq_true rfl, Nat.le_of_ble_eq_true rfl⟩ ⟨rfl, rfl⟩ (fun _ => updR [] rfl) (fun r u H locs hw hP hD hS => ?_)
      have hw := hw.symm
      subst hw
      have hP : va_P (dC, dI) vwCl (w_X13_steps cy a0 gth gvm gtt gtd gfl grd gnv gac grc gim) H := hP
      have hD : va_D A (w_X13_steps cy a0 gth gvm gtt gtd gfl grd gnv gac grc gim) := hD
      refine lv_if_ne (tgt := 297) hx hb dX13_steps_280 (by decide) (fun c5 => ?_) (fun c5 => ?_)
      · rw [if_neg c5] at h
        exact c297 (p_X13_steps_269 gtt n) ih grd H locs ls h hP hD hS (lv_sub hl [0] rfl)
      · rw [if_pos c5] at h
        refine lv_aload_n hx hb dX13_steps_283 rfl (lv_at hl 0 rfl) ?_
        refine lv_aload_n hx hb dX13_steps_284 rfl (lv_at hl 0 rfl) ?_
        refine va_get (D := (dC, dI)) (ci := 11) (v := .int grd.2.1) (C := RX13) (T := TX13) (N := 64) hx hb hts in_X13 hown hK hP 0 rfl rfl 19 (by decide) lk0 (fun _ h9 => h9) rfl dX13_steps_285 ?_
        obtain ⟨v6, hv7, h⟩ := ok_bind h
        refine cl_vi (w2 := fun (_ : Unit) => w_X13_steps cy a0 gth gvm gtt gtd gfl grd gnv gac grc gim) (As := [.int grd.2.1]) (rest := []) ⟨hx, hb, hml, hown, hts⟩ (c_X13_byteAt l dC dI cy a0 gth gvm gtt gtd gfl grd gnv gac grc gim grd.2.1 H.size v6 hv7) (cwV 1 hts gX13_steps_X13_byteAt rfl rfl rfl (by decide +kernel) ⟨Nat.le_of_ble_eq_true rfl, Nat.le_of_ble_eq_true rfl⟩) (va_recv hK hP (ci := 11) (q0 := 0) rfl rfl) cl_blind (cl_pre hK hP hD [0, 1, 2] (by decide) rfl) hP hD hS hA [0, 1, 2] rfl rfl hl.1 rfl (lv_room (Nat.le_of_ble_eq_true rfl)) dX13_steps_288 ⟨Nat.le_of_ble_eq_true rfl, Nat.le_of_ble_eq_true rfl⟩ ⟨rfl, rfl⟩ (fun _ => updR [0, 1, 2] rfl) (fun r u H locs hw hP hD hS => ?_)
        have hw := hw.symm
        subst hw
        have hP : va_P (dC, dI) vwCl (w_X13_steps cy a0 gth gvm gtt gtd gfl grd gnv gac grc gim) H := hP
        have hD : va_D A (w_X13_steps cy a0 gth gvm gtt gtd gfl grd gnv gac grc gim) := hD
        obtain ⟨v8, hv9, h⟩ := ok_bind h
        refine cl_si (w2 := fun (_ : Unit) => w_X13_steps cy a0 gth gvm gtt gtd gfl grd gnv gac grc gim) (As := [.int v6]) (rest := []) ⟨hx, hb, hml, hown, hts⟩ (c_X13_isDigit l dC dI cy  v6 H.size v8 hv9) (va_cwS 1 hts gX13_steps_X13_isDigit rfl rfl rfl (by decide +kernel) ⟨Nat.le_of_ble_eq_true rfl, Nat.le_of_ble_eq_true rfl⟩) cl_blind (cl_pre hK hP hD [] (by decide) rfl) hP hD hS hA [] rfl rfl hl.1 rfl (lv_room (Nat.le_of_ble_eq_true rfl)) dX13_steps_291 ⟨Nat.le_of_ble_eq_true rfl, Nat.le_of_ble_eq_true rfl⟩ ⟨rfl, rfl⟩ (fun _ => updR [] rfl) (fun r u H locs hw hP hD hS => ?_)
        have hw := hw.symm
        subst hw
        have hP : va_P (dC, dI) vwCl (w_X13_steps cy a0 gth gvm gtt gtd gfl grd gnv gac grc gim) H := hP
        have hD : va_D A (w_X13_steps cy a0 gth gvm gtt gtd gfl grd gnv gac grc gim) := hD
        refine lv_if_eq (tgt := 380) hx hb dX13_steps_294 (by decide) (fun c10 => ?_) (fun c10 => ?_)
        · rw [if_pos c10] at h
          refine lv_aload_n hx hb dX13_steps_380 rfl (lv_at hl 0 rfl) ?_
          refine lv_aload_n hx hb dX13_steps_381 rfl (lv_at hl 0 rfl) ?_
          refine va_get (D := (dC, dI)) (ci := 11) (v := .int grd.2.1) (C := RX13) (T := TX13) (N := 64) hx hb hts in_X13 hown hK hP 0 rfl rfl 19 (by decide) lk0 (fun _ h9 => h9) rfl dX13_steps_382 ?_
          refine lv_aload_n hx hb dX13_steps_385 rfl (lv_at hl 0 rfl) ?_
          refine va_get (D := (dC, dI)) (ci := 11) (v := .int grd.2.2.2.1) (C := RX13) (T := TX13) (N := 64) hx hb hts in_X13 hown hK hP 0 rfl rfl 21 (by decide) lk1 (fun _ h9 => h9) rfl dX13_steps_386 ?_
          refine lv_isub hx hb dX13_steps_389 ?_
          refine lv_iconst (v := (1 : Int32)) hx hb dX13_steps_390 (by decide) ?_
          refine lv_icmp_le (tgt := 398) hx hb dX13_steps_391 (by decide) (fun c11 => ?_) (fun c11 => ?_)
          · rw [if_pos c11] at h
            refine lv_iconst (v := (5 : Int32)) hx hb dX13_steps_398 (by decide) ?_
            exact c399 () grd (5 : Int32) H locs ls h hP hD hS (lv_sub hl [0] rfl)
          · rw [if_neg c11] at h
            refine lv_iconst (v := (3 : Int32)) hx hb dX13_steps_394 (by decide) ?_
            refine lv_goto (tgt := 399) hx hb dX13_steps_395 (by decide) ?_
            exact c399 () grd (3 : Int32) H locs ls h hP hD hS (lv_sub hl [0] rfl)
        · rw [if_neg c10] at h
          exact c297 (p_X13_steps_269 gtt n) ih grd H locs ls h hP hD hS (lv_sub hl [0] rfl)
  have c232 : ∀ (k182 : (Int32 × Int32 × Int32 × Int32 × Int32 × Int32 × Int64 × (Nat → Int32)) → Option ((Int32 × Int32 × Int32 × Int32 × Int32 × Int32 × Int64 × (Nat → Int32)))) (hk182 : ∀ (grd : Int32 × Int32 × Int32 × Int32 × Int32 × Int32 × Int64 × (Nat → Int32)) (H : Heap) (locs : List Loc) (ls : Array Slot), k182 grd = some R0 → va_P (dC, dI) vwCl (w_X13_steps cy a0 gth gvm gtt gtd gfl grd gnv gac grc gim) H → va_D A (w_X13_steps cy a0 gth gvm gtt gtd gfl grd gnv gac grc gim) → va_S A s.heap H locs → lv_has ls 3 [(0, .ref (a0 0))] → W p l e rm_X13_steps s m aa below meth c H locs 0 0 (MQ below qq aa s 0 0 A) (F0 m 182 ls [])), ∀ (grd : Int32 × Int32 × Int32 × Int32 × Int32 × Int32 × Int64 × (Nat → Int32)) (H : Heap) (locs : List Loc) (ls : Array Slot), p_X13_steps_232 k182 gtt grd = some R0 → va_P (dC, dI) vwCl (w_X13_steps cy a0 gth gvm gtt gtd gfl grd gnv gac grc gim) H → va_D A (w_X13_steps cy a0 gth gvm gtt gtd gfl grd gnv gac grc gim) → va_S A s.heap H locs → lv_has ls 3 [(0, .ref (a0 0))] → W p l e rm_X13_steps s m aa below meth c H locs 0 0 (MQ below qq aa s 0 0 A) (F0 m 232 ls []) := by
    intro k182 hk182 grd H locs ls h hP hD hS hl
    unfold p_X13_steps_232 at h
    refine lv_aload_n hx hb dX13_steps_232 rfl (lv_at hl 0 rfl) ?_
    refine lv_dup hx hb dX13_steps_233 rfl ?_
    refine va_get (D := (dC, dI)) (ci := 11) (v := .int grd.2.1) (C := RX13) (T := TX13) (N := 64) hx hb hts in_X13 hown hK hP 0 rfl rfl 19 (by decide) lk0 (fun _ h9 => h9) rfl dX13_steps_234 ?_
    refine lv_iconst (v := (1 : Int32)) hx hb dX13_steps_237 (by decide) ?_
    refine lv_iadd hx hb dX13_steps_238 ?_
    refine va_put (D := (dC, dI)) (ci := 11) (v := .int (grd.2.1 + (1 : Int32))) (ty := .int) (C := RX13) (T := TX13) (N := 64) hx hb hts in_X13 tyX13 tyX13_ok nmX13 hown hK hP hD hS 0 rfl rfl 19 (by decide) lk0 (fun _ h9 => h9) rfl (by decide +kernel) rfl rfl (Nat.le_of_ble_eq_true rfl) dX13_steps_239 (fun H locs hP hD hS => ?_)
    have hP : va_P (dC, dI) vwCl (w_X13_steps cy a0 gth gvm gtt gtd gfl ((grd.1, (grd.2.1 + (1 : Int32)), grd.2.2)) gnv gac grc gim) H := hP
    have hD : va_D A (w_X13_steps cy a0 gth gvm gtt gtd gfl ((grd.1, (grd.2.1 + (1 : Int32)), grd.2.2)) gnv gac grc gim) := hD
    refine lv_goto (tgt := 182) hx hb dX13_steps_242 (by decide) ?_
    exact hk182 (grd.1, (grd.2.1 + (1 : Int32)), grd.2.2) H locs ls h hP hD hS (lv_sub hl [0] rfl)
  have c182 : ∀ (n : Nat), ∀ (grd : Int32 × Int32 × Int32 × Int32 × Int32 × Int32 × Int64 × (Nat → Int32)) (H : Heap) (locs : List Loc) (ls : Array Slot), p_X13_steps_182 gtt n grd = some R0 → va_P (dC, dI) vwCl (w_X13_steps cy a0 gth gvm gtt gtd gfl grd gnv gac grc gim) H → va_D A (w_X13_steps cy a0 gth gvm gtt gtd gfl grd gnv gac grc gim) → va_S A s.heap H locs → lv_has ls 3 [(0, .ref (a0 0))] → W p l e rm_X13_steps s m aa below meth c H locs 0 0 (MQ below qq aa s 0 0 A) (F0 m 182 ls []) := by
    intro  n
    induction n with
    | zero => intro grd H locs ls h; exact no_some h
    | succ n ih =>
      intro grd H locs ls h hP hD hS hl
      rw [p_X13_steps_182.eq_2] at h
      refine lv_aload_n hx hb dX13_steps_182 rfl (lv_at hl 0 rfl) ?_
      refine lv_aload_n hx hb dX13_steps_183 rfl (lv_at hl 0 rfl) ?_
      refine va_get (D := (dC, dI)) (ci := 11) (v := .int grd.2.1) (C := RX13) (T := TX13) (N := 64) hx hb hts in_X13 hown hK hP 0 rfl rfl 19 (by decide) lk0 (fun _ h9 => h9) rfl dX13_steps_184 ?_
      obtain ⟨v1, hv2, h⟩ := ok_bind h
      refine cl_vi (w2 := fun (_ : Unit) => w_X13_steps cy a0 gth gvm gtt gtd gfl grd gnv gac grc gim) (As := [.int grd.2.1]) (rest := []) ⟨hx, hb, hml, hown, hts⟩ (c_X13_byteAt l dC dI cy a0 gth gvm gtt gtd gfl grd gnv gac grc gim grd.2.1 H.size v1 hv2) (cwV 1 hts gX13_steps_X13_byteAt rfl rfl rfl (by decide +kernel) ⟨Nat.le_of_ble_eq_true rfl, Nat.le_of_ble_eq_true rfl⟩) (va_recv hK hP (ci := 11) (q0 := 0) rfl rfl) cl_blind (cl_pre hK hP hD [0, 1, 2] (by decide) rfl) hP hD hS hA [0, 1, 2] rfl rfl hl.1 rfl (lv_room (Nat.le_of_ble_eq_true rfl)) dX13_steps_187 ⟨Nat.le_of_ble_eq_true rfl, Nat.le_of_ble_eq_true rfl⟩ ⟨rfl, rfl⟩ (fun _ => updR [0, 1, 2] rfl) (fun r u H locs hw hP hD hS => ?_)
      have hw := hw.symm
      subst hw
      have hP : va_P (dC, dI) vwCl (w_X13_steps cy a0 gth gvm gtt gtd gfl grd gnv gac grc gim) H := hP
      have hD : va_D A (w_X13_steps cy a0 gth gvm gtt gtd gfl grd gnv gac grc gim) := hD
      obtain ⟨v3, hv4, h⟩ := ok_bind h
      refine cl_si (w2 := fun (_ : Unit) => w_X13_steps cy a0 gth gvm gtt gtd gfl grd gnv gac grc gim) (As := [.int v1]) (rest := []) ⟨hx, hb, hml, hown, hts⟩ (c_X13_isDigit l dC dI cy  v1 H.size v3 hv4) (va_cwS 1 hts gX13_steps_X13_isDigit rfl rfl rfl (by decide +kernel) ⟨Nat.le_of_ble_eq_true rfl, Nat.le_of_ble_eq_true rfl⟩) cl_blind (cl_pre hK hP hD [] (by decide) rfl) hP hD hS hA [] rfl rfl hl.1 rfl (lv_room (Nat.le_of_ble_eq_true rfl)) dX13_steps_190 ⟨Nat.le_of_ble_eq_true rfl, Nat.le_of_ble_eq_true rfl⟩ ⟨rfl, rfl⟩ (fun _ => updR [] rfl) (fun r u H locs hw hP hD hS => ?_)
      have hw := hw.symm
      subst hw
      have hP : va_P (dC, dI) vwCl (w_X13_steps cy a0 gth gvm gtt gtd gfl grd gnv gac grc gim) H := hP
      have hD : va_D A (w_X13_steps cy a0 gth gvm gtt gtd gfl grd gnv gac grc gim) := hD
      refine lv_if_eq (tgt := 245) hx hb dX13_steps_193 (by decide) (fun c5 => ?_) (fun c5 => ?_)
      · rw [if_pos c5] at h
        refine lv_aload_n hx hb dX13_steps_245 rfl (lv_at hl 0 rfl) ?_
        refine lv_iconst (v := (2 : Int32)) hx hb dX13_steps_246 (by decide) ?_
        refine va_put (D := (dC, dI)) (ci := 11) (v := .int (2 : Int32)) (ty := .int) (C := RX13) (T := TX13) (N := 64) hx hb hts in_X13 tyX13 tyX13_ok nmX13 hown hK hP hD hS 0 rfl rfl 20 (by decide) lk3 (fun _ h9 => h9) rfl (by decide +kernel) rfl rfl (Nat.le_of_ble_eq_true rfl) dX13_steps_247 (fun H locs hP hD hS => ?_)
        have hP : va_P (dC, dI) vwCl (w_X13_steps cy a0 gth gvm gtt gtd gfl ((grd.1, grd.2.1, (2 : Int32), grd.2.2.2)) gnv gac grc gim) H := hP
        have hD : va_D A (w_X13_steps cy a0 gth gvm gtt gtd gfl ((grd.1, grd.2.1, (2 : Int32), grd.2.2.2)) gnv gac grc gim) := hD
        refine lv_goto (tgt := 430) hx hb dX13_steps_250 (by decide) ?_
        exact c430 () (grd.1, grd.2.1, (2 : Int32), grd.2.2.2) H locs ls h hP hD hS (lv_sub hl [0] rfl)
      · rw [if_neg c5] at h
        refine lv_aload_n hx hb dX13_steps_196 rfl (lv_at hl 0 rfl) ?_
        refine va_get (D := (dC, dI)) (ci := 11) (v := .int grd.2.1) (C := RX13) (T := TX13) (N := 64) hx hb hts in_X13 hown hK hP 0 rfl rfl 19 (by decide) lk0 (fun _ h9 => h9) rfl dX13_steps_197 ?_
        refine lv_aload_n hx hb dX13_steps_200 rfl (lv_at hl 0 rfl) ?_
        refine va_get (D := (dC, dI)) (ci := 11) (v := .int grd.2.2.2.1) (C := RX13) (T := TX13) (N := 64) hx hb hts in_X13 hown hK hP 0 rfl rfl 21 (by decide) lk1 (fun _ h9 => h9) rfl dX13_steps_201 ?_
        refine lv_isub hx hb dX13_steps_204 ?_
        refine lv_iconst (v := (3 : Int32)) hx hb dX13_steps_205 (by decide) ?_
        refine lv_icmp_ge (tgt := 232) hx hb dX13_steps_206 (by decide) (fun c6 => ?_) (fun c6 => ?_)
        · rw [if_pos c6] at h
          exact c232 (p_X13_steps_182 gtt n) ih grd H locs ls h hP hD hS (lv_sub hl [0] rfl)
        · rw [if_neg c6] at h
          refine lv_aload_n hx hb dX13_steps_209 rfl (lv_at hl 0 rfl) ?_
          refine lv_bipush (v := (10 : Int32)) hx hb dX13_steps_210 (by decide) ?_
          refine lv_aload_n hx hb dX13_steps_212 rfl (lv_at hl 0 rfl) ?_
          refine va_get (D := (dC, dI)) (ci := 11) (v := .int grd.2.2.2.2.2.1) (C := RX13) (T := TX13) (N := 64) hx hb hts in_X13 hown hK hP 0 rfl rfl 23 (by decide) lk5 (fun _ h9 => h9) rfl dX13_steps_213 ?_
          refine lv_imul hx hb dX13_steps_216 ?_
          refine lv_aload_n hx hb dX13_steps_217 rfl (lv_at hl 0 rfl) ?_
          refine lv_aload_n hx hb dX13_steps_218 rfl (lv_at hl 0 rfl) ?_
          refine va_get (D := (dC, dI)) (ci := 11) (v := .int grd.2.1) (C := RX13) (T := TX13) (N := 64) hx hb hts in_X13 hown hK hP 0 rfl rfl 19 (by decide) lk0 (fun _ h9 => h9) rfl dX13_steps_219 ?_
          obtain ⟨v7, hv8, h⟩ := ok_bind h
          refine cl_vi (w2 := fun (_ : Unit) => w_X13_steps cy a0 gth gvm gtt gtd gfl grd gnv gac grc gim) (As := [.int grd.2.1]) (rest := [.int ((10 : Int32) * grd.2.2.2.2.2.1), .ref (a0 0)]) ⟨hx, hb, hml, hown, hts⟩ (c_X13_byteAt l dC dI cy a0 gth gvm gtt gtd gfl grd gnv gac grc gim grd.2.1 H.size v7 hv8) (cwV 1 hts gX13_steps_X13_byteAt rfl rfl rfl (by decide +kernel) ⟨Nat.le_of_ble_eq_true rfl, Nat.le_of_ble_eq_true rfl⟩) (va_recv hK hP (ci := 11) (q0 := 0) rfl rfl) cl_blind (cl_pre hK hP hD [0, 1, 2] (by decide) rfl) hP hD hS hA [0, 1, 2] rfl rfl hl.1 rfl (lv_room (Nat.le_of_ble_eq_true rfl)) dX13_steps_222 ⟨Nat.le_of_ble_eq_true rfl, Nat.le_of_ble_eq_true rfl⟩ ⟨rfl, rfl⟩ (fun _ => updR [0, 1, 2] rfl) (fun r u H locs hw hP hD hS => ?_)
          have hw := hw.symm
          subst hw
          have hP : va_P (dC, dI) vwCl (w_X13_steps cy a0 gth gvm gtt gtd gfl grd gnv gac grc gim) H := hP
          have hD : va_D A (w_X13_steps cy a0 gth gvm gtt gtd gfl grd gnv gac grc gim) := hD
          refine lv_iadd hx hb dX13_steps_225 ?_
          refine lv_bipush (v := (48 : Int32)) hx hb dX13_steps_226 (by decide) ?_
          refine lv_isub hx hb dX13_steps_228 ?_
          refine va_put (D := (dC, dI)) (ci := 11) (v := .int ((((10 : Int32) * grd.2.2.2.2.2.1) + v7) - (48 : Int32))) (ty := .int) (C := RX13) (T := TX13) (N := 64) hx hb hts in_X13 tyX13 tyX13_ok nmX13 hown hK hP hD hS 0 rfl rfl 23 (by decide) lk5 (fun _ h9 => h9) rfl (by decide +kernel) rfl rfl (Nat.le_of_ble_eq_true rfl) dX13_steps_229 (fun H locs hP hD hS => ?_)
          have hP : va_P (dC, dI) vwCl (w_X13_steps cy a0 gth gvm gtt gtd gfl ((grd.1, grd.2.1, grd.2.2.1, grd.2.2.2.1, grd.2.2.2.2.1, ((((10 : Int32) * grd.2.2.2.2.2.1) + v7) - (48 : Int32)), grd.2.2.2.2.2.2)) gnv gac grc gim) H := hP
          have hD : va_D A (w_X13_steps cy a0 gth gvm gtt gtd gfl ((grd.1, grd.2.1, grd.2.2.1, grd.2.2.2.1, grd.2.2.2.2.1, ((((10 : Int32) * grd.2.2.2.2.2.1) + v7) - (48 : Int32)), grd.2.2.2.2.2.2)) gnv gac grc gim) := hD
          exact c232 (p_X13_steps_182 gtt n) ih (grd.1, grd.2.1, grd.2.2.1, grd.2.2.2.1, grd.2.2.2.2.1, ((((10 : Int32) * grd.2.2.2.2.2.1) + v7) - (48 : Int32)), grd.2.2.2.2.2.2) H locs ls h hP hD hS (lv_sub hl [0] rfl)
  have c154 : ∀ (k103 : (Int32 × Int32 × Int32 × Int32 × Int32 × Int32 × Int64 × (Nat → Int32)) → Option ((Int32 × Int32 × Int32 × Int32 × Int32 × Int32 × Int64 × (Nat → Int32)))) (hk103 : ∀ (grd : Int32 × Int32 × Int32 × Int32 × Int32 × Int32 × Int64 × (Nat → Int32)) (H : Heap) (locs : List Loc) (ls : Array Slot), k103 grd = some R0 → va_P (dC, dI) vwCl (w_X13_steps cy a0 gth gvm gtt gtd gfl grd gnv gac grc gim) H → va_D A (w_X13_steps cy a0 gth gvm gtt gtd gfl grd gnv gac grc gim) → va_S A s.heap H locs → lv_has ls 3 [(0, .ref (a0 0))] → W p l e rm_X13_steps s m aa below meth c H locs 0 0 (MQ below qq aa s 0 0 A) (F0 m 103 ls [])), ∀ (grd : Int32 × Int32 × Int32 × Int32 × Int32 × Int32 × Int64 × (Nat → Int32)) (H : Heap) (locs : List Loc) (ls : Array Slot), p_X13_steps_154 k103 gtt grd = some R0 → va_P (dC, dI) vwCl (w_X13_steps cy a0 gth gvm gtt gtd gfl grd gnv gac grc gim) H → va_D A (w_X13_steps cy a0 gth gvm gtt gtd gfl grd gnv gac grc gim) → va_S A s.heap H locs → lv_has ls 3 [(0, .ref (a0 0))] → W p l e rm_X13_steps s m aa below meth c H locs 0 0 (MQ below qq aa s 0 0 A) (F0 m 154 ls []) := by
    intro k103 hk103 grd H locs ls h hP hD hS hl
    unfold p_X13_steps_154 at h
    refine lv_aload_n hx hb dX13_steps_154 rfl (lv_at hl 0 rfl) ?_
    refine lv_dup hx hb dX13_steps_155 rfl ?_
    refine va_get (D := (dC, dI)) (ci := 11) (v := .int grd.2.1) (C := RX13) (T := TX13) (N := 64) hx hb hts in_X13 hown hK hP 0 rfl rfl 19 (by decide) lk0 (fun _ h9 => h9) rfl dX13_steps_156 ?_
    refine lv_iconst (v := (1 : Int32)) hx hb dX13_steps_159 (by decide) ?_
    refine lv_iadd hx hb dX13_steps_160 ?_
    refine va_put (D := (dC, dI)) (ci := 11) (v := .int (grd.2.1 + (1 : Int32))) (ty := .int) (C := RX13) (T := TX13) (N := 64) hx hb hts in_X13 tyX13 tyX13_ok nmX13 hown hK hP hD hS 0 rfl rfl 19 (by decide) lk0 (fun _ h9 => h9) rfl (by decide +kernel) rfl rfl (Nat.le_of_ble_eq_true rfl) dX13_steps_161 (fun H locs hP hD hS => ?_)
    have hP : va_P (dC, dI) vwCl (w_X13_steps cy a0 gth gvm gtt gtd gfl ((grd.1, (grd.2.1 + (1 : Int32)), grd.2.2)) gnv gac grc gim) H := hP
    have hD : va_D A (w_X13_steps cy a0 gth gvm gtt gtd gfl ((grd.1, (grd.2.1 + (1 : Int32)), grd.2.2)) gnv gac grc gim) := hD
    refine lv_goto (tgt := 103) hx hb dX13_steps_164 (by decide) ?_
    exact hk103 (grd.1, (grd.2.1 + (1 : Int32)), grd.2.2) H locs ls h hP hD hS (lv_sub hl [0] rfl)
  have c103 : ∀ (n : Nat), ∀ (grd : Int32 × Int32 × Int32 × Int32 × Int32 × Int32 × Int64 × (Nat → Int32)) (H : Heap) (locs : List Loc) (ls : Array Slot), p_X13_steps_103 gtt n grd = some R0 → va_P (dC, dI) vwCl (w_X13_steps cy a0 gth gvm gtt gtd gfl grd gnv gac grc gim) H → va_D A (w_X13_steps cy a0 gth gvm gtt gtd gfl grd gnv gac grc gim) → va_S A s.heap H locs → lv_has ls 3 [(0, .ref (a0 0))] → W p l e rm_X13_steps s m aa below meth c H locs 0 0 (MQ below qq aa s 0 0 A) (F0 m 103 ls []) := by
    intro  n
    induction n with
    | zero => intro grd H locs ls h; exact no_some h
    | succ n ih =>
      intro grd H locs ls h hP hD hS hl
      rw [p_X13_steps_103.eq_2] at h
      refine lv_aload_n hx hb dX13_steps_103 rfl (lv_at hl 0 rfl) ?_
      refine lv_aload_n hx hb dX13_steps_104 rfl (lv_at hl 0 rfl) ?_
      refine va_get (D := (dC, dI)) (ci := 11) (v := .int grd.2.1) (C := RX13) (T := TX13) (N := 64) hx hb hts in_X13 hown hK hP 0 rfl rfl 19 (by decide) lk0 (fun _ h9 => h9) rfl dX13_steps_105 ?_
      obtain ⟨v1, hv2, h⟩ := ok_bind h
      refine cl_vi (w2 := fun (_ : Unit) => w_X13_steps cy a0 gth gvm gtt gtd gfl grd gnv gac grc gim) (As := [.int grd.2.1]) (rest := []) ⟨hx, hb, hml, hown, hts⟩ (c_X13_byteAt l dC dI cy a0 gth gvm gtt gtd gfl grd gnv gac grc gim grd.2.1 H.size v1 hv2) (cwV 1 hts gX13_steps_X13_byteAt rfl rfl rfl (by decide +kernel) ⟨Nat.le_of_ble_eq_true rfl, Nat.le_of_ble_eq_true rfl⟩) (va_recv hK hP (ci := 11) (q0 := 0) rfl rfl) cl_blind (cl_pre hK hP hD [0, 1, 2] (by decide) rfl) hP hD hS hA [0, 1, 2] rfl rfl hl.1 rfl (lv_room (Nat.le_of_ble_eq_true rfl)) dX13_steps_108 ⟨Nat.le_of_ble_eq_true rfl, Nat.le_of_ble_eq_true rfl⟩ ⟨rfl, rfl⟩ (fun _ => updR [0, 1, 2] rfl) (fun r u H locs hw hP hD hS => ?_)
      have hw := hw.symm
      subst hw
      have hP : va_P (dC, dI) vwCl (w_X13_steps cy a0 gth gvm gtt gtd gfl grd gnv gac grc gim) H := hP
      have hD : va_D A (w_X13_steps cy a0 gth gvm gtt gtd gfl grd gnv gac grc gim) := hD
      obtain ⟨v3, hv4, h⟩ := ok_bind h
      refine cl_si (w2 := fun (_ : Unit) => w_X13_steps cy a0 gth gvm gtt gtd gfl grd gnv gac grc gim) (As := [.int v1]) (rest := []) ⟨hx, hb, hml, hown, hts⟩ (c_X13_isLetter l dC dI cy  v1 H.size v3 hv4) (va_cwS 1 hts gX13_steps_X13_isLetter rfl rfl rfl (by decide +kernel) ⟨Nat.le_of_ble_eq_true rfl, Nat.le_of_ble_eq_true rfl⟩) cl_blind (cl_pre hK hP hD [] (by decide) rfl) hP hD hS hA [] rfl rfl hl.1 rfl (lv_room (Nat.le_of_ble_eq_true rfl)) dX13_steps_111 ⟨Nat.le_of_ble_eq_true rfl, Nat.le_of_ble_eq_true rfl⟩ ⟨rfl, rfl⟩ (fun _ => updR [] rfl) (fun r u H locs hw hP hD hS => ?_)
      have hw := hw.symm
      subst hw
      have hP : va_P (dC, dI) vwCl (w_X13_steps cy a0 gth gvm gtt gtd gfl grd gnv gac grc gim) H := hP
      have hD : va_D A (w_X13_steps cy a0 gth gvm gtt gtd gfl grd gnv gac grc gim) := hD
      refine lv_if_eq (tgt := 167) hx hb dX13_steps_114 (by decide) (fun c5 => ?_) (fun c5 => ?_)
      · rw [if_pos c5] at h
        refine lv_aload_n hx hb dX13_steps_167 rfl (lv_at hl 0 rfl) ?_
        refine lv_iconst (v := (1 : Int32)) hx hb dX13_steps_168 (by decide) ?_
        refine va_put (D := (dC, dI)) (ci := 11) (v := .int (1 : Int32)) (ty := .int) (C := RX13) (T := TX13) (N := 64) hx hb hts in_X13 tyX13 tyX13_ok nmX13 hown hK hP hD hS 0 rfl rfl 20 (by decide) lk3 (fun _ h9 => h9) rfl (by decide +kernel) rfl rfl (Nat.le_of_ble_eq_true rfl) dX13_steps_169 (fun H locs hP hD hS => ?_)
        have hP : va_P (dC, dI) vwCl (w_X13_steps cy a0 gth gvm gtt gtd gfl ((grd.1, grd.2.1, (1 : Int32), grd.2.2.2)) gnv gac grc gim) H := hP
        have hD : va_D A (w_X13_steps cy a0 gth gvm gtt gtd gfl ((grd.1, grd.2.1, (1 : Int32), grd.2.2.2)) gnv gac grc gim) := hD
        refine lv_goto (tgt := 430) hx hb dX13_steps_172 (by decide) ?_
        exact c430 () (grd.1, grd.2.1, (1 : Int32), grd.2.2.2) H locs ls h hP hD hS (lv_sub hl [0] rfl)
      · rw [if_neg c5] at h
        refine lv_aload_n hx hb dX13_steps_117 rfl (lv_at hl 0 rfl) ?_
        refine va_get (D := (dC, dI)) (ci := 11) (v := .int grd.2.1) (C := RX13) (T := TX13) (N := 64) hx hb hts in_X13 hown hK hP 0 rfl rfl 19 (by decide) lk0 (fun _ h9 => h9) rfl dX13_steps_118 ?_
        refine lv_aload_n hx hb dX13_steps_121 rfl (lv_at hl 0 rfl) ?_
        refine va_get (D := (dC, dI)) (ci := 11) (v := .int grd.2.2.2.1) (C := RX13) (T := TX13) (N := 64) hx hb hts in_X13 hown hK hP 0 rfl rfl 21 (by decide) lk1 (fun _ h9 => h9) rfl dX13_steps_122 ?_
        refine lv_isub hx hb dX13_steps_125 ?_
        refine lv_bipush (v := (8 : Int32)) hx hb dX13_steps_126 (by decide) ?_
        refine lv_icmp_ge (tgt := 154) hx hb dX13_steps_128 (by decide) (fun c6 => ?_) (fun c6 => ?_)
        · rw [if_pos c6] at h
          exact c154 (p_X13_steps_103 gtt n) ih grd H locs ls h hP hD hS (lv_sub hl [0] rfl)
        · rw [if_neg c6] at h
          refine lv_aload_n hx hb dX13_steps_131 rfl (lv_at hl 0 rfl) ?_
          refine lv_aload_n hx hb dX13_steps_132 rfl (lv_at hl 0 rfl) ?_
          refine va_get (D := (dC, dI)) (ci := 11) (v := .long grd.2.2.2.2.2.2.1) (C := RX13) (T := TX13) (N := 64) hx hb hts in_X13 hown hK hP 0 rfl rfl 24 (by decide) lk6 (fun _ h9 => h9) rfl dX13_steps_133 ?_
          refine lv_iconst (v := (5 : Int32)) hx hb dX13_steps_136 (by decide) ?_
          refine lv_lshl hx hb dX13_steps_137 rfl ?_
          refine lv_aload_n hx hb dX13_steps_138 rfl (lv_at hl 0 rfl) ?_
          refine lv_aload_n hx hb dX13_steps_139 rfl (lv_at hl 0 rfl) ?_
          refine va_get (D := (dC, dI)) (ci := 11) (v := .int grd.2.1) (C := RX13) (T := TX13) (N := 64) hx hb hts in_X13 hown hK hP 0 rfl rfl 19 (by decide) lk0 (fun _ h9 => h9) rfl dX13_steps_140 ?_
          obtain ⟨v7, hv8, h⟩ := ok_bind h
          refine cl_vi (w2 := fun (_ : Unit) => w_X13_steps cy a0 gth gvm gtt gtd gfl grd gnv gac grc gim) (As := [.int grd.2.1]) (rest := [.long (grd.2.2.2.2.2.2.1 <<< ((5 : Int32).toInt64 &&& 63)), .ref (a0 0)]) ⟨hx, hb, hml, hown, hts⟩ (c_X13_byteAt l dC dI cy a0 gth gvm gtt gtd gfl grd gnv gac grc gim grd.2.1 H.size v7 hv8) (cwV 1 hts gX13_steps_X13_byteAt rfl rfl rfl (by decide +kernel) ⟨Nat.le_of_ble_eq_true rfl, Nat.le_of_ble_eq_true rfl⟩) (va_recv hK hP (ci := 11) (q0 := 0) rfl rfl) cl_blind (cl_pre hK hP hD [0, 1, 2] (by decide) rfl) hP hD hS hA [0, 1, 2] rfl rfl hl.1 rfl (lv_room (Nat.le_of_ble_eq_true rfl)) dX13_steps_143 ⟨Nat.le_of_ble_eq_true rfl, Nat.le_of_ble_eq_true rfl⟩ ⟨rfl, rfl⟩ (fun _ => updR [0, 1, 2] rfl) (fun r u H locs hw hP hD hS => ?_)
          have hw := hw.symm
          subst hw
          have hP : va_P (dC, dI) vwCl (w_X13_steps cy a0 gth gvm gtt gtd gfl grd gnv gac grc gim) H := hP
          have hD : va_D A (w_X13_steps cy a0 gth gvm gtt gtd gfl grd gnv gac grc gim) := hD
          refine lv_bipush (v := (96 : Int32)) hx hb dX13_steps_146 (by decide) ?_
          refine lv_isub hx hb dX13_steps_148 ?_
          refine lv_i2l hx hb dX13_steps_149 rfl ?_
          refine lv_lor hx hb dX13_steps_150 ?_
          refine va_put (D := (dC, dI)) (ci := 11) (v := .long ((grd.2.2.2.2.2.2.1 <<< ((5 : Int32).toInt64 &&& 63)) ||| (v7 - (96 : Int32)).toInt64)) (ty := .long) (C := RX13) (T := TX13) (N := 64) hx hb hts in_X13 tyX13 tyX13_ok nmX13 hown hK hP hD hS 0 rfl rfl 24 (by decide) lk6 (fun _ h9 => h9) rfl (by decide +kernel) rfl rfl (Nat.le_of_ble_eq_true rfl) dX13_steps_151 (fun H locs hP hD hS => ?_)
          have hP : va_P (dC, dI) vwCl (w_X13_steps cy a0 gth gvm gtt gtd gfl ((grd.1, grd.2.1, grd.2.2.1, grd.2.2.2.1, grd.2.2.2.2.1, grd.2.2.2.2.2.1, ((grd.2.2.2.2.2.2.1 <<< ((5 : Int32).toInt64 &&& 63)) ||| (v7 - (96 : Int32)).toInt64), grd.2.2.2.2.2.2.2)) gnv gac grc gim) H := hP
          have hD : va_D A (w_X13_steps cy a0 gth gvm gtt gtd gfl ((grd.1, grd.2.1, grd.2.2.1, grd.2.2.2.1, grd.2.2.2.2.1, grd.2.2.2.2.2.1, ((grd.2.2.2.2.2.2.1 <<< ((5 : Int32).toInt64 &&& 63)) ||| (v7 - (96 : Int32)).toInt64), grd.2.2.2.2.2.2.2)) gnv gac grc gim) := hD
          exact c154 (p_X13_steps_103 gtt n) ih (grd.1, grd.2.1, grd.2.2.1, grd.2.2.2.1, grd.2.2.2.2.1, grd.2.2.2.2.2.1, ((grd.2.2.2.2.2.2.1 <<< ((5 : Int32).toInt64 &&& 63)) ||| (v7 - (96 : Int32)).toInt64), grd.2.2.2.2.2.2.2) H locs ls h hP hD hS (lv_sub hl [0] rfl)
  have c50 : ∀ (_u : Unit), ∀ (grd : Int32 × Int32 × Int32 × Int32 × Int32 × Int32 × Int64 × (Nat → Int32)) (H : Heap) (locs : List Loc) (ls : Array Slot), p_X13_steps_50 gtt grd = some R0 → va_P (dC, dI) vwCl (w_X13_steps cy a0 gth gvm gtt gtd gfl grd gnv gac grc gim) H → va_D A (w_X13_steps cy a0 gth gvm gtt gtd gfl grd gnv gac grc gim) → va_S A s.heap H locs → lv_has ls 3 [(0, .ref (a0 0))] → W p l e rm_X13_steps s m aa below meth c H locs 0 0 (MQ below qq aa s 0 0 A) (F0 m 50 ls []) := by
    intro _ grd H locs ls h hP hD hS hl
    unfold p_X13_steps_50 at h
    refine lv_aload_n hx hb dX13_steps_50 rfl (lv_at hl 0 rfl) ?_
    refine lv_aload_n hx hb dX13_steps_51 rfl (lv_at hl 0 rfl) ?_
    refine va_get (D := (dC, dI)) (ci := 11) (v := .int grd.2.1) (C := RX13) (T := TX13) (N := 64) hx hb hts in_X13 hown hK hP 0 rfl rfl 19 (by decide) lk0 (fun _ h9 => h9) rfl dX13_steps_52 ?_
    refine va_put (D := (dC, dI)) (ci := 11) (v := .int grd.2.1) (ty := .int) (C := RX13) (T := TX13) (N := 64) hx hb hts in_X13 tyX13 tyX13_ok nmX13 hown hK hP hD hS 0 rfl rfl 21 (by decide) lk1 (fun _ h9 => h9) rfl (by decide +kernel) rfl rfl (Nat.le_of_ble_eq_true rfl) dX13_steps_55 (fun H locs hP hD hS => ?_)
    have hP : va_P (dC, dI) vwCl (w_X13_steps cy a0 gth gvm gtt gtd gfl ((grd.1, grd.2.1, grd.2.2.1, grd.2.1, grd.2.2.2.2)) gnv gac grc gim) H := hP
    have hD : va_D A (w_X13_steps cy a0 gth gvm gtt gtd gfl ((grd.1, grd.2.1, grd.2.2.1, grd.2.1, grd.2.2.2.2)) gnv gac grc gim) := hD
    refine lv_aload_n hx hb dX13_steps_58 rfl (lv_at hl 0 rfl) ?_
    refine lv_lconst (v := (0 : Int64)) hx hb dX13_steps_59 (by decide) ?_
    refine va_put (D := (dC, dI)) (ci := 11) (v := .long (0 : Int64)) (ty := .long) (C := RX13) (T := TX13) (N := 64) hx hb hts in_X13 tyX13 tyX13_ok nmX13 hown hK hP hD hS 0 rfl rfl 24 (by decide) lk6 (fun _ h9 => h9) rfl (by decide +kernel) rfl rfl (Nat.le_of_ble_eq_true rfl) dX13_steps_60 (fun H locs hP hD hS => ?_)
    have hP : va_P (dC, dI) vwCl (w_X13_steps cy a0 gth gvm gtt gtd gfl ((grd.1, grd.2.1, grd.2.2.1, grd.2.1, grd.2.2.2.2.1, grd.2.2.2.2.2.1, (0 : Int64), grd.2.2.2.2.2.2.2)) gnv gac grc gim) H := hP
    have hD : va_D A (w_X13_steps cy a0 gth gvm gtt gtd gfl ((grd.1, grd.2.1, grd.2.2.1, grd.2.1, grd.2.2.2.2.1, grd.2.2.2.2.2.1, (0 : Int64), grd.2.2.2.2.2.2.2)) gnv gac grc gim) := hD
    refine lv_aload_n hx hb dX13_steps_63 rfl (lv_at hl 0 rfl) ?_
    refine lv_iconst (v := (0 : Int32)) hx hb dX13_steps_64 (by decide) ?_
    refine va_put (D := (dC, dI)) (ci := 11) (v := .int (0 : Int32)) (ty := .int) (C := RX13) (T := TX13) (N := 64) hx hb hts in_X13 tyX13 tyX13_ok nmX13 hown hK hP hD hS 0 rfl rfl 23 (by decide) lk5 (fun _ h9 => h9) rfl (by decide +kernel) rfl rfl (Nat.le_of_ble_eq_true rfl) dX13_steps_65 (fun H locs hP hD hS => ?_)
    have hP : va_P (dC, dI) vwCl (w_X13_steps cy a0 gth gvm gtt gtd gfl ((grd.1, grd.2.1, grd.2.2.1, grd.2.1, grd.2.2.2.2.1, (0 : Int32), (0 : Int64), grd.2.2.2.2.2.2.2)) gnv gac grc gim) H := hP
    have hD : va_D A (w_X13_steps cy a0 gth gvm gtt gtd gfl ((grd.1, grd.2.1, grd.2.2.1, grd.2.1, grd.2.2.2.2.1, (0 : Int32), (0 : Int64), grd.2.2.2.2.2.2.2)) gnv gac grc gim) := hD
    refine lv_aload_n hx hb dX13_steps_68 rfl (lv_at hl 0 rfl) ?_
    refine lv_aload_n hx hb dX13_steps_69 rfl (lv_at hl 0 rfl) ?_
    refine va_get (D := (dC, dI)) (ci := 11) (v := .int grd.2.1) (C := RX13) (T := TX13) (N := 64) hx hb hts in_X13 hown hK hP 0 rfl rfl 19 (by decide) lk0 (fun _ h9 => h9) rfl dX13_steps_70 ?_
    obtain ⟨v1, hv2, h⟩ := ok_bind h
    refine cl_vi (w2 := fun (_ : Unit) => w_X13_steps cy a0 gth gvm gtt gtd gfl ((grd.1, grd.2.1, grd.2.2.1, grd.2.1, grd.2.2.2.2.1, (0 : Int32), (0 : Int64), grd.2.2.2.2.2.2.2)) gnv gac grc gim) (As := [.int grd.2.1]) (rest := []) ⟨hx, hb, hml, hown, hts⟩ (c_X13_byteAt l dC dI cy a0 gth gvm gtt gtd gfl (grd.1, grd.2.1, grd.2.2.1, grd.2.1, grd.2.2.2.2.1, (0 : Int32), (0 : Int64), grd.2.2.2.2.2.2.2) gnv gac grc gim grd.2.1 H.size v1 hv2) (cwV 1 hts gX13_steps_X13_byteAt rfl rfl rfl (by decide +kernel) ⟨Nat.le_of_ble_eq_true rfl, Nat.le_of_ble_eq_true rfl⟩) (va_recv hK hP (ci := 11) (q0 := 0) rfl rfl) cl_blind (cl_pre hK hP hD [0, 1, 2] (by decide) rfl) hP hD hS hA [0, 1, 2] rfl rfl hl.1 rfl (lv_room (Nat.le_of_ble_eq_true rfl)) dX13_steps_73 ⟨Nat.le_of_ble_eq_true rfl, Nat.le_of_ble_eq_true rfl⟩ ⟨rfl, rfl⟩ (fun _ => updR [0, 1, 2] rfl) (fun r u H locs hw hP hD hS => ?_)
    have hw := hw.symm
    subst hw
    have hP : va_P (dC, dI) vwCl (w_X13_steps cy a0 gth gvm gtt gtd gfl ((grd.1, grd.2.1, grd.2.2.1, grd.2.1, grd.2.2.2.2.1, (0 : Int32), (0 : Int64), grd.2.2.2.2.2.2.2)) gnv gac grc gim) H := hP
    have hD : va_D A (w_X13_steps cy a0 gth gvm gtt gtd gfl ((grd.1, grd.2.1, grd.2.2.1, grd.2.1, grd.2.2.2.2.1, (0 : Int32), (0 : Int64), grd.2.2.2.2.2.2.2)) gnv gac grc gim) := hD
    refine lv_istore_n (lv' := [(1, .int v1), (0, .ref (a0 0))]) hx hb dX13_steps_76 rfl hl (by decide) rfl (fun ls hl => ?_)
    refine lv_aload_n hx hb dX13_steps_77 rfl (lv_at hl 1 rfl) ?_
    refine va_get (D := (dC, dI)) (ci := 11) (v := .int grd.2.1) (C := RX13) (T := TX13) (N := 64) hx hb hts in_X13 hown hK hP 0 rfl rfl 19 (by decide) lk0 (fun _ h9 => h9) rfl dX13_steps_78 ?_
    refine lv_aload_n hx hb dX13_steps_81 rfl (lv_at hl 1 rfl) ?_
    refine va_get (D := (dC, dI)) (ci := 11) (v := .int grd.1) (C := RX13) (T := TX13) (N := 64) hx hb hts in_X13 hown hK hP 0 rfl rfl 18 (by decide) lk7 (fun _ h9 => h9) rfl dX13_steps_82 ?_
    refine lv_icmp_lt (tgt := 96) hx hb dX13_steps_85 (by decide) (fun c3 => ?_) (fun c3 => ?_)
    · rw [if_pos c3] at h
      refine lv_iload_n hx hb dX13_steps_96 rfl (lv_at hl 0 rfl) ?_
      obtain ⟨v4, hv5, h⟩ := ok_bind h
      refine cl_si (w2 := fun (_ : Unit) => w_X13_steps cy a0 gth gvm gtt gtd gfl ((grd.1, grd.2.1, grd.2.2.1, grd.2.1, grd.2.2.2.2.1, (0 : Int32), (0 : Int64), grd.2.2.2.2.2.2.2)) gnv gac grc gim) (As := [.int v1]) (rest := []) ⟨hx, hb, hml, hown, hts⟩ (c_X13_isLetter l dC dI cy  v1 H.size v4 hv5) (va_cwS 1 hts gX13_steps_X13_isLetter rfl rfl rfl (by decide +kernel) ⟨Nat.le_of_ble_eq_true rfl, Nat.le_of_ble_eq_true rfl⟩) cl_blind (cl_pre hK hP hD [] (by decide) rfl) hP hD hS hA [] rfl rfl hl.1 rfl (lv_room (Nat.le_of_ble_eq_true rfl)) dX13_steps_97 ⟨Nat.le_of_ble_eq_true rfl, Nat.le_of_ble_eq_true rfl⟩ ⟨rfl, rfl⟩ (fun _ => updR [] rfl) (fun r u H locs hw hP hD hS => ?_)
      have hw := hw.symm
      subst hw
      have hP : va_P (dC, dI) vwCl (w_X13_steps cy a0 gth gvm gtt gtd gfl ((grd.1, grd.2.1, grd.2.2.1, grd.2.1, grd.2.2.2.2.1, (0 : Int32), (0 : Int64), grd.2.2.2.2.2.2.2)) gnv gac grc gim) H := hP
      have hD : va_D A (w_X13_steps cy a0 gth gvm gtt gtd gfl ((grd.1, grd.2.1, grd.2.2.1, grd.2.1, grd.2.2.2.2.1, (0 : Int32), (0 : Int64), grd.2.2.2.2.2.2.2)) gnv gac grc gim) := hD
      refine lv_if_eq (tgt := 175) hx hb dX13_steps_100 (by decide) (fun c6 => ?_) (fun c6 => ?_)
      · rw [if_pos c6] at h
        refine lv_iload_n hx hb dX13_steps_175 rfl (lv_at hl 0 rfl) ?_
        obtain ⟨v7, hv8, h⟩ := ok_bind h
        refine cl_si (w2 := fun (_ : Unit) => w_X13_steps cy a0 gth gvm gtt gtd gfl ((grd.1, grd.2.1, grd.2.2.1, grd.2.1, grd.2.2.2.2.1, (0 : Int32), (0 : Int64), grd.2.2.2.2.2.2.2)) gnv gac grc gim) (As := [.int v1]) (rest := []) ⟨hx, hb, hml, hown, hts⟩ (c_X13_isDigit l dC dI cy  v1 H.size v7 hv8) (va_cwS 1 hts gX13_steps_X13_isDigit rfl rfl rfl (by decide +kernel) ⟨Nat.le_of_ble_eq_true rfl, Nat.le_of_ble_eq_true rfl⟩) cl_blind (cl_pre hK hP hD [] (by decide) rfl) hP hD hS hA [] rfl rfl hl.1 rfl (lv_room (Nat.le_of_ble_eq_true rfl)) dX13_steps_176 ⟨Nat.le_of_ble_eq_true rfl, Nat.le_of_ble_eq_true rfl⟩ ⟨rfl, rfl⟩ (fun _ => updR [] rfl) (fun r u H locs hw hP hD hS => ?_)
        have hw := hw.symm
        subst hw
        have hP : va_P (dC, dI) vwCl (w_X13_steps cy a0 gth gvm gtt gtd gfl ((grd.1, grd.2.1, grd.2.2.1, grd.2.1, grd.2.2.2.2.1, (0 : Int32), (0 : Int64), grd.2.2.2.2.2.2.2)) gnv gac grc gim) H := hP
        have hD : va_D A (w_X13_steps cy a0 gth gvm gtt gtd gfl ((grd.1, grd.2.1, grd.2.2.1, grd.2.1, grd.2.2.2.2.1, (0 : Int32), (0 : Int64), grd.2.2.2.2.2.2.2)) gnv gac grc gim) := hD
        refine lv_if_eq (tgt := 253) hx hb dX13_steps_179 (by decide) (fun c9 => ?_) (fun c9 => ?_)
        · rw [if_pos c9] at h
          refine lv_iload_n hx hb dX13_steps_253 rfl (lv_at hl 0 rfl) ?_
          refine lv_bipush (v := (35 : Int32)) hx hb dX13_steps_254 (by decide) ?_
          refine lv_icmp_ne (tgt := 405) hx hb dX13_steps_256 (by decide) (fun c10 => ?_) (fun c10 => ?_)
          · rw [if_neg c10] at h
            refine lv_aload_n hx hb dX13_steps_405 rfl (lv_at hl 1 rfl) ?_
            refine lv_dup hx hb dX13_steps_406 rfl ?_
            refine va_get (D := (dC, dI)) (ci := 11) (v := .int grd.2.1) (C := RX13) (T := TX13) (N := 64) hx hb hts in_X13 hown hK hP 0 rfl rfl 19 (by decide) lk0 (fun _ h9 => h9) rfl dX13_steps_407 ?_
            refine lv_iconst (v := (1 : Int32)) hx hb dX13_steps_410 (by decide) ?_
            refine lv_iadd hx hb dX13_steps_411 ?_
            refine va_put (D := (dC, dI)) (ci := 11) (v := .int (grd.2.1 + (1 : Int32))) (ty := .int) (C := RX13) (T := TX13) (N := 64) hx hb hts in_X13 tyX13 tyX13_ok nmX13 hown hK hP hD hS 0 rfl rfl 19 (by decide) lk0 (fun _ h9 => h9) rfl (by decide +kernel) rfl rfl (Nat.le_of_ble_eq_true rfl) dX13_steps_412 (fun H locs hP hD hS => ?_)
            have hP : va_P (dC, dI) vwCl (w_X13_steps cy a0 gth gvm gtt gtd gfl ((grd.1, (grd.2.1 + (1 : Int32)), grd.2.2.1, grd.2.1, grd.2.2.2.2.1, (0 : Int32), (0 : Int64), grd.2.2.2.2.2.2.2)) gnv gac grc gim) H := hP
            have hD : va_D A (w_X13_steps cy a0 gth gvm gtt gtd gfl ((grd.1, (grd.2.1 + (1 : Int32)), grd.2.2.1, grd.2.1, grd.2.2.2.2.1, (0 : Int32), (0 : Int64), grd.2.2.2.2.2.2.2)) gnv gac grc gim) := hD
            refine lv_aload_n hx hb dX13_steps_415 rfl (lv_at hl 1 rfl) ?_
            refine lv_iload_n hx hb dX13_steps_416 rfl (lv_at hl 0 rfl) ?_
            refine lv_bipush (v := (59 : Int32)) hx hb dX13_steps_417 (by decide) ?_
            refine lv_icmp_ne (tgt := 426) hx hb dX13_steps_419 (by decide) (fun c11 => ?_) (fun c11 => ?_)
            · rw [if_neg c11] at h
              refine lv_iconst (v := (5 : Int32)) hx hb dX13_steps_426 (by decide) ?_
              exact c427 () (grd.1, (grd.2.1 + (1 : Int32)), grd.2.2.1, grd.2.1, grd.2.2.2.2.1, (0 : Int32), (0 : Int64), grd.2.2.2.2.2.2.2) (5 : Int32) H locs ls h hP hD hS (lv_sub hl [1] rfl)
            · rw [if_pos c11] at h
              refine lv_iconst (v := (4 : Int32)) hx hb dX13_steps_422 (by decide) ?_
              refine lv_goto (tgt := 427) hx hb dX13_steps_423 (by decide) ?_
              exact c427 () (grd.1, (grd.2.1 + (1 : Int32)), grd.2.2.1, grd.2.1, grd.2.2.2.2.1, (0 : Int32), (0 : Int64), grd.2.2.2.2.2.2.2) (4 : Int32) H locs ls h hP hD hS (lv_sub hl [1] rfl)
          · rw [if_pos c10] at h
            refine lv_aload_n hx hb dX13_steps_259 rfl (lv_at hl 1 rfl) ?_
            refine lv_dup hx hb dX13_steps_260 rfl ?_
            refine va_get (D := (dC, dI)) (ci := 11) (v := .int grd.2.1) (C := RX13) (T := TX13) (N := 64) hx hb hts in_X13 hown hK hP 0 rfl rfl 19 (by decide) lk0 (fun _ h9 => h9) rfl dX13_steps_261 ?_
            refine lv_iconst (v := (1 : Int32)) hx hb dX13_steps_264 (by decide) ?_
            refine lv_iadd hx hb dX13_steps_265 ?_
            refine va_put (D := (dC, dI)) (ci := 11) (v := .int (grd.2.1 + (1 : Int32))) (ty := .int) (C := RX13) (T := TX13) (N := 64) hx hb hts in_X13 tyX13 tyX13_ok nmX13 hown hK hP hD hS 0 rfl rfl 19 (by decide) lk0 (fun _ h9 => h9) rfl (by decide +kernel) rfl rfl (Nat.le_of_ble_eq_true rfl) dX13_steps_266 (fun H locs hP hD hS => ?_)
            have hP : va_P (dC, dI) vwCl (w_X13_steps cy a0 gth gvm gtt gtd gfl ((grd.1, (grd.2.1 + (1 : Int32)), grd.2.2.1, grd.2.1, grd.2.2.2.2.1, (0 : Int32), (0 : Int64), grd.2.2.2.2.2.2.2)) gnv gac grc gim) H := hP
            have hD : va_D A (w_X13_steps cy a0 gth gvm gtt gtd gfl ((grd.1, (grd.2.1 + (1 : Int32)), grd.2.2.1, grd.2.1, grd.2.2.2.2.1, (0 : Int32), (0 : Int64), grd.2.2.2.2.2.2.2)) gnv gac grc gim) := hD
            exact c269 fu (grd.1, (grd.2.1 + (1 : Int32)), grd.2.2.1, grd.2.1, grd.2.2.2.2.1, (0 : Int32), (0 : Int64), grd.2.2.2.2.2.2.2) H locs ls h hP hD hS (lv_sub hl [1] rfl)
        · rw [if_neg c9] at h
          exact c182 fu (grd.1, grd.2.1, grd.2.2.1, grd.2.1, grd.2.2.2.2.1, (0 : Int32), (0 : Int64), grd.2.2.2.2.2.2.2) H locs ls h hP hD hS (lv_sub hl [1] rfl)
      · rw [if_neg c6] at h
        exact c103 fu (grd.1, grd.2.1, grd.2.2.1, grd.2.1, grd.2.2.2.2.1, (0 : Int32), (0 : Int64), grd.2.2.2.2.2.2.2) H locs ls h hP hD hS (lv_sub hl [1] rfl)
    · rw [if_neg c3] at h
      refine lv_aload_n hx hb dX13_steps_88 rfl (lv_at hl 1 rfl) ?_
      refine lv_iconst (v := (0 : Int32)) hx hb dX13_steps_89 (by decide) ?_
      refine va_put (D := (dC, dI)) (ci := 11) (v := .int (0 : Int32)) (ty := .int) (C := RX13) (T := TX13) (N := 64) hx hb hts in_X13 tyX13 tyX13_ok nmX13 hown hK hP hD hS 0 rfl rfl 20 (by decide) lk3 (fun _ h9 => h9) rfl (by decide +kernel) rfl rfl (Nat.le_of_ble_eq_true rfl) dX13_steps_90 (fun H locs hP hD hS => ?_)
      have hP : va_P (dC, dI) vwCl (w_X13_steps cy a0 gth gvm gtt gtd gfl ((grd.1, grd.2.1, (0 : Int32), grd.2.1, grd.2.2.2.2.1, (0 : Int32), (0 : Int64), grd.2.2.2.2.2.2.2)) gnv gac grc gim) H := hP
      have hD : va_D A (w_X13_steps cy a0 gth gvm gtt gtd gfl ((grd.1, grd.2.1, (0 : Int32), grd.2.1, grd.2.2.2.2.1, (0 : Int32), (0 : Int64), grd.2.2.2.2.2.2.2)) gnv gac grc gim) := hD
      refine lv_goto (tgt := 430) hx hb dX13_steps_93 (by decide) ?_
      exact c430 () (grd.1, grd.2.1, (0 : Int32), grd.2.1, grd.2.2.2.2.1, (0 : Int32), (0 : Int64), grd.2.2.2.2.2.2.2) H locs ls h hP hD hS (lv_sub hl [1] rfl)
  have c37 : ∀ (k0 : (Int32 × Int32 × Int32 × Int32 × Int32 × Int32 × Int64 × (Nat → Int32)) → Option ((Int32 × Int32 × Int32 × Int32 × Int32 × Int32 × Int64 × (Nat → Int32)))) (hk0 : ∀ (grd : Int32 × Int32 × Int32 × Int32 × Int32 × Int32 × Int64 × (Nat → Int32)) (H : Heap) (locs : List Loc) (ls : Array Slot), k0 grd = some R0 → va_P (dC, dI) vwCl (w_X13_steps cy a0 gth gvm gtt gtd gfl grd gnv gac grc gim) H → va_D A (w_X13_steps cy a0 gth gvm gtt gtd gfl grd gnv gac grc gim) → va_S A s.heap H locs → lv_has ls 3 [(0, .ref (a0 0))] → W p l e rm_X13_steps s m aa below meth c H locs 0 0 (MQ below qq aa s 0 0 A) (F0 m 0 ls [])), ∀ (grd : Int32 × Int32 × Int32 × Int32 × Int32 × Int32 × Int64 × (Nat → Int32)) (H : Heap) (locs : List Loc) (ls : Array Slot), p_X13_steps_37 k0 gtt grd = some R0 → va_P (dC, dI) vwCl (w_X13_steps cy a0 gth gvm gtt gtd gfl grd gnv gac grc gim) H → va_D A (w_X13_steps cy a0 gth gvm gtt gtd gfl grd gnv gac grc gim) → va_S A s.heap H locs → lv_has ls 3 [(0, .ref (a0 0))] → W p l e rm_X13_steps s m aa below meth c H locs 0 0 (MQ below qq aa s 0 0 A) (F0 m 37 ls []) := by
    intro k0 hk0 grd H locs ls h hP hD hS hl
    unfold p_X13_steps_37 at h
    refine lv_aload_n hx hb dX13_steps_37 rfl (lv_at hl 0 rfl) ?_
    refine lv_dup hx hb dX13_steps_38 rfl ?_
    refine va_get (D := (dC, dI)) (ci := 11) (v := .int grd.2.1) (C := RX13) (T := TX13) (N := 64) hx hb hts in_X13 hown hK hP 0 rfl rfl 19 (by decide) lk0 (fun _ h9 => h9) rfl dX13_steps_39 ?_
    refine lv_iconst (v := (1 : Int32)) hx hb dX13_steps_42 (by decide) ?_
    refine lv_iadd hx hb dX13_steps_43 ?_
    refine va_put (D := (dC, dI)) (ci := 11) (v := .int (grd.2.1 + (1 : Int32))) (ty := .int) (C := RX13) (T := TX13) (N := 64) hx hb hts in_X13 tyX13 tyX13_ok nmX13 hown hK hP hD hS 0 rfl rfl 19 (by decide) lk0 (fun _ h9 => h9) rfl (by decide +kernel) rfl rfl (Nat.le_of_ble_eq_true rfl) dX13_steps_44 (fun H locs hP hD hS => ?_)
    have hP : va_P (dC, dI) vwCl (w_X13_steps cy a0 gth gvm gtt gtd gfl ((grd.1, (grd.2.1 + (1 : Int32)), grd.2.2)) gnv gac grc gim) H := hP
    have hD : va_D A (w_X13_steps cy a0 gth gvm gtt gtd gfl ((grd.1, (grd.2.1 + (1 : Int32)), grd.2.2)) gnv gac grc gim) := hD
    refine lv_goto (tgt := 0) hx hb dX13_steps_47 (by decide) ?_
    exact hk0 (grd.1, (grd.2.1 + (1 : Int32)), grd.2.2) H locs ls h hP hD hS (lv_sub hl [0] rfl)
  have c0 : ∀ (n : Nat), ∀ (grd : Int32 × Int32 × Int32 × Int32 × Int32 × Int32 × Int64 × (Nat → Int32)) (H : Heap) (locs : List Loc) (ls : Array Slot), p_X13_steps_0 gtt n grd = some R0 → va_P (dC, dI) vwCl (w_X13_steps cy a0 gth gvm gtt gtd gfl grd gnv gac grc gim) H → va_D A (w_X13_steps cy a0 gth gvm gtt gtd gfl grd gnv gac grc gim) → va_S A s.heap H locs → lv_has ls 3 [(0, .ref (a0 0))] → W p l e rm_X13_steps s m aa below meth c H locs 0 0 (MQ below qq aa s 0 0 A) (F0 m 0 ls []) := by
    intro  n
    induction n with
    | zero => intro grd H locs ls h; exact no_some h
    | succ n ih =>
      intro grd H locs ls h hP hD hS hl
      rw [p_X13_steps_0.eq_2] at h
      refine lv_aload_n hx hb dX13_steps_0 rfl (lv_at hl 0 rfl) ?_
      refine va_get (D := (dC, dI)) (ci := 11) (v := .int grd.2.1) (C := RX13) (T := TX13) (N := 64) hx hb hts in_X13 hown hK hP 0 rfl rfl 19 (by decide) lk0 (fun _ h9 => h9) rfl dX13_steps_1 ?_
      refine lv_aload_n hx hb dX13_steps_4 rfl (lv_at hl 0 rfl) ?_
      refine va_get (D := (dC, dI)) (ci := 11) (v := .int grd.1) (C := RX13) (T := TX13) (N := 64) hx hb hts in_X13 hown hK hP 0 rfl rfl 18 (by decide) lk7 (fun _ h9 => h9) rfl dX13_steps_5 ?_
      refine lv_icmp_ge (tgt := 50) hx hb dX13_steps_8 (by decide) (fun c1 => ?_) (fun c1 => ?_)
      · rw [if_pos c1] at h
        exact c50 () grd H locs ls h hP hD hS (lv_sub hl [0] rfl)
      · rw [if_neg c1] at h
        refine lv_aload_n hx hb dX13_steps_11 rfl (lv_at hl 0 rfl) ?_
        refine lv_aload_n hx hb dX13_steps_12 rfl (lv_at hl 0 rfl) ?_
        refine va_get (D := (dC, dI)) (ci := 11) (v := .int grd.2.1) (C := RX13) (T := TX13) (N := 64) hx hb hts in_X13 hown hK hP 0 rfl rfl 19 (by decide) lk0 (fun _ h9 => h9) rfl dX13_steps_13 ?_
        obtain ⟨v2, hv3, h⟩ := ok_bind h
        refine cl_vi (w2 := fun (_ : Unit) => w_X13_steps cy a0 gth gvm gtt gtd gfl grd gnv gac grc gim) (As := [.int grd.2.1]) (rest := []) ⟨hx, hb, hml, hown, hts⟩ (c_X13_byteAt l dC dI cy a0 gth gvm gtt gtd gfl grd gnv gac grc gim grd.2.1 H.size v2 hv3) (cwV 1 hts gX13_steps_X13_byteAt rfl rfl rfl (by decide +kernel) ⟨Nat.le_of_ble_eq_true rfl, Nat.le_of_ble_eq_true rfl⟩) (va_recv hK hP (ci := 11) (q0 := 0) rfl rfl) cl_blind (cl_pre hK hP hD [0, 1, 2] (by decide) rfl) hP hD hS hA [0, 1, 2] rfl rfl hl.1 rfl (lv_room (Nat.le_of_ble_eq_true rfl)) dX13_steps_16 ⟨Nat.le_of_ble_eq_true rfl, Nat.le_of_ble_eq_true rfl⟩ ⟨rfl, rfl⟩ (fun _ => updR [0, 1, 2] rfl) (fun r u H locs hw hP hD hS => ?_)
        have hw := hw.symm
        subst hw
        have hP : va_P (dC, dI) vwCl (w_X13_steps cy a0 gth gvm gtt gtd gfl grd gnv gac grc gim) H := hP
        have hD : va_D A (w_X13_steps cy a0 gth gvm gtt gtd gfl grd gnv gac grc gim) := hD
        refine lv_bipush (v := (32 : Int32)) hx hb dX13_steps_19 (by decide) ?_
        refine lv_icmp_eq (tgt := 37) hx hb dX13_steps_21 (by decide) (fun c4 => ?_) (fun c4 => ?_)
        · rw [if_pos c4] at h
          exact c37 (p_X13_steps_0 gtt n) ih grd H locs ls h hP hD hS (lv_sub hl [0] rfl)
        · rw [if_neg c4] at h
          refine lv_aload_n hx hb dX13_steps_24 rfl (lv_at hl 0 rfl) ?_
          refine lv_aload_n hx hb dX13_steps_25 rfl (lv_at hl 0 rfl) ?_
          refine va_get (D := (dC, dI)) (ci := 11) (v := .int grd.2.1) (C := RX13) (T := TX13) (N := 64) hx hb hts in_X13 hown hK hP 0 rfl rfl 19 (by decide) lk0 (fun _ h9 => h9) rfl dX13_steps_26 ?_
          obtain ⟨v5, hv6, h⟩ := ok_bind h
          refine cl_vi (w2 := fun (_ : Unit) => w_X13_steps cy a0 gth gvm gtt gtd gfl grd gnv gac grc gim) (As := [.int grd.2.1]) (rest := []) ⟨hx, hb, hml, hown, hts⟩ (c_X13_byteAt l dC dI cy a0 gth gvm gtt gtd gfl grd gnv gac grc gim grd.2.1 H.size v5 hv6) (cwV 1 hts gX13_steps_X13_byteAt rfl rfl rfl (by decide +kernel) ⟨Nat.le_of_ble_eq_true rfl, Nat.le_of_ble_eq_true rfl⟩) (va_recv hK hP (ci := 11) (q0 := 0) rfl rfl) cl_blind (cl_pre hK hP hD [0, 1, 2] (by decide) rfl) hP hD hS hA [0, 1, 2] rfl rfl hl.1 rfl (lv_room (Nat.le_of_ble_eq_true rfl)) dX13_steps_29 ⟨Nat.le_of_ble_eq_true rfl, Nat.le_of_ble_eq_true rfl⟩ ⟨rfl, rfl⟩ (fun _ => updR [0, 1, 2] rfl) (fun r u H locs hw hP hD hS => ?_)
          have hw := hw.symm
          subst hw
          have hP : va_P (dC, dI) vwCl (w_X13_steps cy a0 gth gvm gtt gtd gfl grd gnv gac grc gim) H := hP
          have hD : va_D A (w_X13_steps cy a0 gth gvm gtt gtd gfl grd gnv gac grc gim) := hD
          refine lv_bipush (v := (10 : Int32)) hx hb dX13_steps_32 (by decide) ?_
          refine lv_icmp_ne (tgt := 50) hx hb dX13_steps_34 (by decide) (fun c7 => ?_) (fun c7 => ?_)
          · rw [if_neg c7] at h
            exact c50 () grd H locs ls h hP hD hS (lv_sub hl [0] rfl)
          · rw [if_pos c7] at h
            exact c37 (p_X13_steps_0 gtt n) ih grd H locs ls h hP hD hS (lv_sub hl [0] rfl)
  obtain ⟨H, hH⟩ : ∃ H : Heap, H = s.heap := ⟨_, rfl⟩
  obtain ⟨locs, hlocs⟩ : ∃ locs : List Loc, locs = [] := ⟨_, rfl⟩
  have hS : va_S A s.heap H locs := by rw [hH, hlocs]; exact hS
  rw [← hH] at hP
  suffices hg : W p l e rm_X13_steps s m aa below meth c H locs 0 0 (MQ below qq aa s 0 0 A) (F0 m 0 ls []) by subst hH; subst hlocs; exact hg
  unfold p_X13_steps at h
  exact c0 fu grd H locs ls h hP hD hS (lv_sub hl [0] rfl)

abbrev w_X13_spelled (cy : Nat → ClassId)   : va_W := []
abbrev rm_X13_spelled : Room := { frames := 0, cells := 0, slots := 0, locals := 0 }
set_option maxHeartbeats 1000000 in
set_option maxRecDepth 100000 in
theorem c_X13_spelled (l : Launch) (dC : Nat → ClassId) (dI : Nat → Nat → Nat) (cy : Nat → ClassId)   (x0 : Int32) (x1 : Int32) (x2 : Int32) (x3 : Int32) (x4 : Int32) (x5 : Int32) (x6 : Int32) (x7 : Int32) (sz : Nat) (R0 : Int64) (h : p_X13_spelled x0 x1 x2 x3 x4 x5 x6 x7 = some R0) : Met l yX13_spelled wsX13_spelled rm_X13_spelled (va_Pc [.int x0, .int x1, .int x2, .int x3, .int x4, .int x5, .int x6, .int x7] (prC dC dI cy (w_X13_spelled cy  ) sz)) (va_Ql (fun (r : Int64) (_ : Unit) => r = R0) (fun (_ : Unit) t => poC dC dI cy (w_X13_spelled cy  ) t) (va_A (w_X13_spelled cy  ) sz)) 0 0 (va_A (w_X13_spelled cy  ) sz) := by
  refine Met.ofW (cc := cX13_spelled) (maxL := 10) (ret := (some .long)) (by decide) rfl ?_
  intro p e s m aa below meth c s₁ B hml hv
  obtain ⟨haa, hsz, hP, hK, hD0⟩ := hv
  have hx := B.exec
  have hb := B.bytes
  have hr := B.returns
  have hts := atoms_spec (ws := wsX13_spelled) B.pre
  have hown : s.vm.findClass RX13 = some m.cls := findClass_of_methodNamed B.named
  have hlocks := B.notSynchronized
  subst hsz
  have hD := hD0.self (sz := s.heap.size)
  obtain ⟨qq, hqq⟩ : ∃ qq, qq = (va_Ql (fun (r : Int64) (_ : Unit) => r = R0) (fun (_ : Unit) t => poC dC dI cy (w_X13_spelled cy  ) t) (va_A (w_X13_spelled cy  ) s.heap.size)) := ⟨_, rfl⟩
  rw [← hqq]
  generalize hAe : va_A (w_X13_spelled cy  ) s.heap.size = A at hD hqq ⊢
  have hA : ∀ q : Nat, s.heap.size ≤ q → A q := fun q h => by rw [← hAe]; exact Or.inr h
  have hS : va_S A s.heap s.heap [] := va_S.rf
  have hl := lv_entry ([.int x0, .int x1, .int x2, .int x3, .int x4, .int x5, .int x6, .int x7]) (n := 10) (Nat.le_of_ble_eq_true rfl)
  have hE : entryFrame m aa 10 = F0 m 0 ((lg_sl ([.int x0, .int x1, .int x2, .int x3, .int x4, .int x5, .int x6, .int x7]) ++ List.replicate (10 - (lg_sl ([.int x0, .int x1, .int x2, .int x3, .int x4, .int x5, .int x6, .int x7])).length) Slot.unset).toArray) [] := by rw [haa]; exact lg_entry_eq m _ 10
  refine W.eq hE ?_
  generalize (lg_sl ([.int x0, .int x1, .int x2, .int x3, .int x4, .int x5, .int x6, .int x7]) ++ List.replicate (10 - (lg_sl ([.int x0, .int x1, .int x2, .int x3, .int x4, .int x5, .int x6, .int x7])).length) Slot.unset).toArray = ls at hl ⊢
  have hl : lv_has ls 10 [(0, .int x0), (1, .int x1), (2, .int x2), (3, .int x3), (4, .int x4), (5, .int x5), (6, .int x6), (7, .int x7)] := hl
  change W p l e rm_X13_spelled s m aa below meth c s.heap [] 0 0 (MQ below qq aa s 0 0 A) (F0 m 0 ls [])
  have hS0 := hS
  have lk0 := hts (.constantLong RX13 178 (96 : Int64)) (by decide +kernel)
  have c96 : ∀ (_u : Unit), ∀ (x7 : Int32) (x8 : Int64) (H : Heap) (locs : List Loc) (ls : Array Slot), p_X13_spelled_96 x7 x8 = some R0 → va_P (dC, dI) vwCl (w_X13_spelled cy  ) H → va_D A (w_X13_spelled cy  ) → va_S A s.heap H locs → lv_has ls 10 [(7, .int x7), (8, .long x8)] → W p l e rm_X13_spelled s m aa below meth c H locs 0 0 (MQ below qq aa s 0 0 A) (F0 m 96 ls []) := by
    intro _ x7 x8 H locs ls h hP hD hS hl
    unfold p_X13_spelled_96 at h
    refine lv_iload hx hb dX13_spelled_96 (lv_at hl 0 rfl) ?_
    refine lv_if_eq (tgt := 114) hx hb dX13_spelled_98 (by decide) (fun c1 => ?_) (fun c1 => ?_)
    · rw [if_pos c1] at h
      refine lv_lload hx hb dX13_spelled_114 (lv_at hl 1 rfl) ?_
      exact W.lret (v := x8) hx hb hr (fun t ht hW => by rw [hqq]; have hh := Option.some.inj h; exact ⟨⟨x8, (()), rfl, Option.some.inj h, by rw [ht]; exact hP, va_K.moved hW.alike hK⟩, hS.F ht⟩) hS.2.2 dX13_spelled_116
    · rw [if_neg c1] at h
      refine lv_lload hx hb dX13_spelled_101 (lv_at hl 1 rfl) ?_
      refine lv_iconst (v := (5 : Int32)) hx hb dX13_spelled_103 (by decide) ?_
      refine lv_lshl hx hb dX13_spelled_104 rfl ?_
      refine lv_iload hx hb dX13_spelled_105 (lv_at hl 0 rfl) ?_
      refine lv_bipush (v := (96 : Int32)) hx hb dX13_spelled_107 (by decide) ?_
      refine lv_isub hx hb dX13_spelled_109 ?_
      refine lv_i2l hx hb dX13_spelled_110 rfl ?_
      refine lv_lor hx hb dX13_spelled_111 ?_
      refine lv_lstore (lv' := [(8, .long ((x8 <<< ((5 : Int32).toInt64 &&& 63)) ||| (x7 - (96 : Int32)).toInt64)), (7, .int x7)]) hx hb dX13_spelled_112 hl (by decide) rfl (fun ls hl => ?_)
      refine lv_lload hx hb dX13_spelled_114 (lv_at hl 0 rfl) ?_
      exact W.lret (v := ((x8 <<< ((5 : Int32).toInt64 &&& 63)) ||| (x7 - (96 : Int32)).toInt64)) hx hb hr (fun t ht hW => by rw [hqq]; have hh := Option.some.inj h; exact ⟨⟨((x8 <<< ((5 : Int32).toInt64 &&& 63)) ||| (x7 - (96 : Int32)).toInt64), (()), rfl, Option.some.inj h, by rw [ht]; exact hP, va_K.moved hW.alike hK⟩, hS.F ht⟩) hS.2.2 dX13_spelled_116
  have c78 : ∀ (_u : Unit), ∀ (x6 : Int32) (x7 : Int32) (x8 : Int64) (H : Heap) (locs : List Loc) (ls : Array Slot), p_X13_spelled_78 x6 x7 x8 = some R0 → va_P (dC, dI) vwCl (w_X13_spelled cy  ) H → va_D A (w_X13_spelled cy  ) → va_S A s.heap H locs → lv_has ls 10 [(6, .int x6), (7, .int x7), (8, .long x8)] → W p l e rm_X13_spelled s m aa below meth c H locs 0 0 (MQ below qq aa s 0 0 A) (F0 m 78 ls []) := by
    intro _ x6 x7 x8 H locs ls h hP hD hS hl
    unfold p_X13_spelled_78 at h
    refine lv_iload hx hb dX13_spelled_78 (lv_at hl 0 rfl) ?_
    refine lv_if_eq (tgt := 96) hx hb dX13_spelled_80 (by decide) (fun c1 => ?_) (fun c1 => ?_)
    · rw [if_pos c1] at h
      exact c96 () x7 x8 H locs ls h hP hD hS (lv_sub hl [1, 2] rfl)
    · rw [if_neg c1] at h
      refine lv_lload hx hb dX13_spelled_83 (lv_at hl 2 rfl) ?_
      refine lv_iconst (v := (5 : Int32)) hx hb dX13_spelled_85 (by decide) ?_
      refine lv_lshl hx hb dX13_spelled_86 rfl ?_
      refine lv_iload hx hb dX13_spelled_87 (lv_at hl 0 rfl) ?_
      refine lv_bipush (v := (96 : Int32)) hx hb dX13_spelled_89 (by decide) ?_
      refine lv_isub hx hb dX13_spelled_91 ?_
      refine lv_i2l hx hb dX13_spelled_92 rfl ?_
      refine lv_lor hx hb dX13_spelled_93 ?_
      refine lv_lstore (lv' := [(8, .long ((x8 <<< ((5 : Int32).toInt64 &&& 63)) ||| (x6 - (96 : Int32)).toInt64)), (6, .int x6), (7, .int x7)]) hx hb dX13_spelled_94 hl (by decide) rfl (fun ls hl => ?_)
      exact c96 () x7 ((x8 <<< ((5 : Int32).toInt64 &&& 63)) ||| (x6 - (96 : Int32)).toInt64) H locs ls h hP hD hS (lv_sub hl [2, 0] rfl)
  have c60 : ∀ (_u : Unit), ∀ (x5 : Int32) (x6 : Int32) (x7 : Int32) (x8 : Int64) (H : Heap) (locs : List Loc) (ls : Array Slot), p_X13_spelled_60 x5 x6 x7 x8 = some R0 → va_P (dC, dI) vwCl (w_X13_spelled cy  ) H → va_D A (w_X13_spelled cy  ) → va_S A s.heap H locs → lv_has ls 10 [(5, .int x5), (6, .int x6), (7, .int x7), (8, .long x8)] → W p l e rm_X13_spelled s m aa below meth c H locs 0 0 (MQ below qq aa s 0 0 A) (F0 m 60 ls []) := by
    intro _ x5 x6 x7 x8 H locs ls h hP hD hS hl
    unfold p_X13_spelled_60 at h
    refine lv_iload hx hb dX13_spelled_60 (lv_at hl 0 rfl) ?_
    refine lv_if_eq (tgt := 78) hx hb dX13_spelled_62 (by decide) (fun c1 => ?_) (fun c1 => ?_)
    · rw [if_pos c1] at h
      exact c78 () x6 x7 x8 H locs ls h hP hD hS (lv_sub hl [1, 2, 3] rfl)
    · rw [if_neg c1] at h
      refine lv_lload hx hb dX13_spelled_65 (lv_at hl 3 rfl) ?_
      refine lv_iconst (v := (5 : Int32)) hx hb dX13_spelled_67 (by decide) ?_
      refine lv_lshl hx hb dX13_spelled_68 rfl ?_
      refine lv_iload hx hb dX13_spelled_69 (lv_at hl 0 rfl) ?_
      refine lv_bipush (v := (96 : Int32)) hx hb dX13_spelled_71 (by decide) ?_
      refine lv_isub hx hb dX13_spelled_73 ?_
      refine lv_i2l hx hb dX13_spelled_74 rfl ?_
      refine lv_lor hx hb dX13_spelled_75 ?_
      refine lv_lstore (lv' := [(8, .long ((x8 <<< ((5 : Int32).toInt64 &&& 63)) ||| (x5 - (96 : Int32)).toInt64)), (5, .int x5), (6, .int x6), (7, .int x7)]) hx hb dX13_spelled_76 hl (by decide) rfl (fun ls hl => ?_)
      exact c78 () x6 x7 ((x8 <<< ((5 : Int32).toInt64 &&& 63)) ||| (x5 - (96 : Int32)).toInt64) H locs ls h hP hD hS (lv_sub hl [2, 3, 0] rfl)
  have c42 : ∀ (_u : Unit), ∀ (x4 : Int32) (x5 : Int32) (x6 : Int32) (x7 : Int32) (x8 : Int64) (H : Heap) (locs : List Loc) (ls : Array Slot), p_X13_spelled_42 x4 x5 x6 x7 x8 = some R0 → va_P (dC, dI) vwCl (w_X13_spelled cy  ) H → va_D A (w_X13_spelled cy  ) → va_S A s.heap H locs → lv_has ls 10 [(4, .int x4), (5, .int x5), (6, .int x6), (7, .int x7), (8, .long x8)] → W p l e rm_X13_spelled s m aa below meth c H locs 0 0 (MQ below qq aa s 0 0 A) (F0 m 42 ls []) := by
    intro _ x4 x5 x6 x7 x8 H locs ls h hP hD hS hl
    unfold p_X13_spelled_42 at h
    refine lv_iload hx hb dX13_spelled_42 (lv_at hl 0 rfl) ?_
    refine lv_if_eq (tgt := 60) hx hb dX13_spelled_44 (by decide) (fun c1 => ?_) (fun c1 => ?_)
    · rw [if_pos c1] at h
      exact c60 () x5 x6 x7 x8 H locs ls h hP hD hS (lv_sub hl [1, 2, 3, 4] rfl)
    · rw [if_neg c1] at h
      refine lv_lload hx hb dX13_spelled_47 (lv_at hl 4 rfl) ?_
      refine lv_iconst (v := (5 : Int32)) hx hb dX13_spelled_49 (by decide) ?_
      refine lv_lshl hx hb dX13_spelled_50 rfl ?_
      refine lv_iload hx hb dX13_spelled_51 (lv_at hl 0 rfl) ?_
      refine lv_bipush (v := (96 : Int32)) hx hb dX13_spelled_53 (by decide) ?_
      refine lv_isub hx hb dX13_spelled_55 ?_
      refine lv_i2l hx hb dX13_spelled_56 rfl ?_
      refine lv_lor hx hb dX13_spelled_57 ?_
      refine lv_lstore (lv' := [(8, .long ((x8 <<< ((5 : Int32).toInt64 &&& 63)) ||| (x4 - (96 : Int32)).toInt64)), (4, .int x4), (5, .int x5), (6, .int x6), (7, .int x7)]) hx hb dX13_spelled_58 hl (by decide) rfl (fun ls hl => ?_)
      exact c60 () x5 x6 x7 ((x8 <<< ((5 : Int32).toInt64 &&& 63)) ||| (x4 - (96 : Int32)).toInt64) H locs ls h hP hD hS (lv_sub hl [2, 3, 4, 0] rfl)
  obtain ⟨H, hH⟩ : ∃ H : Heap, H = s.heap := ⟨_, rfl⟩
  obtain ⟨locs, hlocs⟩ : ∃ locs : List Loc, locs = [] := ⟨_, rfl⟩
  have hS : va_S A s.heap H locs := by rw [hH, hlocs]; exact hS
  rw [← hH] at hP
  suffices hg : W p l e rm_X13_spelled s m aa below meth c H locs 0 0 (MQ below qq aa s 0 0 A) (F0 m 0 ls []) by subst hH; subst hlocs; exact hg
  unfold p_X13_spelled at h
  refine lv_iload_n hx hb dX13_spelled_0 rfl (lv_at hl 0 rfl) ?_
  refine lv_i2l hx hb dX13_spelled_1 rfl ?_
  refine lv_ldc2 hx hb hown lk0 dX13_spelled_2 ?_
  refine lv_lsub hx hb dX13_spelled_5 ?_
  refine lv_bipush (v := (10 : Int32)) hx hb dX13_spelled_6 (by decide) ?_
  refine lv_lshl hx hb dX13_spelled_8 rfl ?_
  refine lv_iload_n hx hb dX13_spelled_9 rfl (lv_at hl 1 rfl) ?_
  refine lv_i2l hx hb dX13_spelled_10 rfl ?_
  refine lv_ldc2 hx hb hown lk0 dX13_spelled_11 ?_
  refine lv_lsub hx hb dX13_spelled_14 ?_
  refine lv_iconst (v := (5 : Int32)) hx hb dX13_spelled_15 (by decide) ?_
  refine lv_lshl hx hb dX13_spelled_16 rfl ?_
  refine lv_lor hx hb dX13_spelled_17 ?_
  refine lv_iload_n hx hb dX13_spelled_18 rfl (lv_at hl 2 rfl) ?_
  refine lv_bipush (v := (96 : Int32)) hx hb dX13_spelled_19 (by decide) ?_
  refine lv_isub hx hb dX13_spelled_21 ?_
  refine lv_i2l hx hb dX13_spelled_22 rfl ?_
  refine lv_lor hx hb dX13_spelled_23 ?_
  obtain ⟨v1, hv2, h⟩ := ok_bind h
  refine lv_topl (fun y3 ey3 => ?_)
  have ey3 := (ey3.trans (Option.some.inj hv2)).symm
  subst ey3
  refine lv_lstore (lv' := [(8, .long v1), (0, .int x0), (1, .int x1), (2, .int x2), (3, .int x3), (4, .int x4), (5, .int x5), (6, .int x6), (7, .int x7)]) hx hb dX13_spelled_24 hl (by decide) rfl (fun ls hl => ?_)
  refine lv_iload_n hx hb dX13_spelled_26 rfl (lv_at hl 4 rfl) ?_
  refine lv_if_eq (tgt := 42) hx hb dX13_spelled_27 (by decide) (fun c4 => ?_) (fun c4 => ?_)
  · rw [if_pos c4] at h
    exact c42 () x4 x5 x6 x7 v1 H locs ls h hP hD hS (lv_sub hl [5, 6, 7, 8, 0] rfl)
  · rw [if_neg c4] at h
    refine lv_lload hx hb dX13_spelled_30 (lv_at hl 0 rfl) ?_
    refine lv_iconst (v := (5 : Int32)) hx hb dX13_spelled_32 (by decide) ?_
    refine lv_lshl hx hb dX13_spelled_33 rfl ?_
    refine lv_iload_n hx hb dX13_spelled_34 rfl (lv_at hl 4 rfl) ?_
    refine lv_bipush (v := (96 : Int32)) hx hb dX13_spelled_35 (by decide) ?_
    refine lv_isub hx hb dX13_spelled_37 ?_
    refine lv_i2l hx hb dX13_spelled_38 rfl ?_
    refine lv_lor hx hb dX13_spelled_39 ?_
    refine lv_lstore (lv' := [(8, .long ((v1 <<< ((5 : Int32).toInt64 &&& 63)) ||| (x3 - (96 : Int32)).toInt64)), (0, .int x0), (1, .int x1), (2, .int x2), (3, .int x3), (4, .int x4), (5, .int x5), (6, .int x6), (7, .int x7)]) hx hb dX13_spelled_40 hl (by decide) rfl (fun ls hl => ?_)
    exact c42 () x4 x5 x6 x7 ((v1 <<< ((5 : Int32).toInt64 &&& 63)) ||| (x3 - (96 : Int32)).toInt64) H locs ls h hP hD hS (lv_sub hl [5, 6, 7, 8, 0] rfl)

abbrev w_X13_letters (cy : Nat → ClassId)   : va_W := []
abbrev rm_X13_letters : Room := { frames := 1, cells := 0, slots := 0, locals := 29 }
set_option maxHeartbeats 1000000 in
set_option maxRecDepth 100000 in
theorem c_X13_letters (l : Launch) (dC : Nat → ClassId) (dI : Nat → Nat → Nat) (cy : Nat → ClassId)   (x0 : Int32) (sz : Nat) (R0 : Int64) (h : p_X13_letters x0 = some R0) : Met l yX13_letters wsX13_letters rm_X13_letters (va_Pc [.int x0] (prC dC dI cy (w_X13_letters cy  ) sz)) (va_Ql (fun (r : Int64) (_ : Unit) => r = R0) (fun (_ : Unit) t => poC dC dI cy (w_X13_letters cy  ) t) (va_A (w_X13_letters cy  ) sz)) 0 0 (va_A (w_X13_letters cy  ) sz) := by
  refine Met.ofW (cc := cX13_letters) (maxL := 1) (ret := (some .long)) (by decide) rfl ?_
  intro p e s m aa below meth c s₁ B hml hv
  obtain ⟨haa, hsz, hP, hK, hD0⟩ := hv
  have hx := B.exec
  have hb := B.bytes
  have hr := B.returns
  have hts := atoms_spec (ws := wsX13_letters) B.pre
  have hown : s.vm.findClass RX13 = some m.cls := findClass_of_methodNamed B.named
  have hlocks := B.notSynchronized
  subst hsz
  have hD := hD0.self (sz := s.heap.size)
  obtain ⟨qq, hqq⟩ : ∃ qq, qq = (va_Ql (fun (r : Int64) (_ : Unit) => r = R0) (fun (_ : Unit) t => poC dC dI cy (w_X13_letters cy  ) t) (va_A (w_X13_letters cy  ) s.heap.size)) := ⟨_, rfl⟩
  rw [← hqq]
  generalize hAe : va_A (w_X13_letters cy  ) s.heap.size = A at hD hqq ⊢
  have hA : ∀ q : Nat, s.heap.size ≤ q → A q := fun q h => by rw [← hAe]; exact Or.inr h
  have hS : va_S A s.heap s.heap [] := va_S.rf
  have hl := lv_entry ([.int x0]) (n := 1) (Nat.le_of_ble_eq_true rfl)
  have hE : entryFrame m aa 1 = F0 m 0 ((lg_sl ([.int x0]) ++ List.replicate (1 - (lg_sl ([.int x0])).length) Slot.unset).toArray) [] := by rw [haa]; exact lg_entry_eq m _ 1
  refine W.eq hE ?_
  generalize (lg_sl ([.int x0]) ++ List.replicate (1 - (lg_sl ([.int x0])).length) Slot.unset).toArray = ls at hl ⊢
  have hl : lv_has ls 1 [(0, .int x0)] := hl
  change W p l e rm_X13_letters s m aa below meth c s.heap [] 0 0 (MQ below qq aa s 0 0 A) (F0 m 0 ls [])
  have hS0 := hS
  obtain ⟨H, hH⟩ : ∃ H : Heap, H = s.heap := ⟨_, rfl⟩
  obtain ⟨locs, hlocs⟩ : ∃ locs : List Loc, locs = [] := ⟨_, rfl⟩
  have hS : va_S A s.heap H locs := by rw [hH, hlocs]; exact hS
  rw [← hH] at hP
  suffices hg : W p l e rm_X13_letters s m aa below meth c H locs 0 0 (MQ below qq aa s 0 0 A) (F0 m 0 ls []) by subst hH; subst hlocs; exact hg
  unfold p_X13_letters at h
  refine lv_iload_n hx hb dX13_letters_0 rfl (lv_at hl 0 rfl) ?_
  by_cases c1 : x0 = (0 : Int32)
  · rw [if_pos c1] at h
    refine lv_tableIn (off := 71) (tgt := 72) hx hb dX13_letters_1 (by rw [c1]; decide) (by rw [c1]; decide) (by rw [c1]; decide) (by decide) ?_
    refine lv_bipush (v := (98 : Int32)) hx hb dX13_letters_72 (by decide) ?_
    refine lv_bipush (v := (111 : Int32)) hx hb dX13_letters_74 (by decide) ?_
    refine lv_bipush (v := (114 : Int32)) hx hb dX13_letters_76 (by decide) ?_
    refine lv_bipush (v := (110 : Int32)) hx hb dX13_letters_78 (by decide) ?_
    refine lv_iconst (v := (0 : Int32)) hx hb dX13_letters_80 (by decide) ?_
    refine lv_iconst (v := (0 : Int32)) hx hb dX13_letters_81 (by decide) ?_
    refine lv_iconst (v := (0 : Int32)) hx hb dX13_letters_82 (by decide) ?_
    refine lv_iconst (v := (0 : Int32)) hx hb dX13_letters_83 (by decide) ?_
    obtain ⟨v2, hv3, h⟩ := ok_bind h
    refine cl_sl (w2 := fun (_ : Unit) => w_X13_letters cy  ) (As := [.int (98 : Int32), .int (111 : Int32), .int (114 : Int32), .int (110 : Int32), .int (0 : Int32), .int (0 : Int32), .int (0 : Int32), .int (0 : Int32)]) (rest := []) ⟨hx, hb, hml, hown, hts⟩ (c_X13_spelled l dC dI cy  (98 : Int32) (111 : Int32) (114 : Int32) (110 : Int32) (0 : Int32) (0 : Int32) (0 : Int32) (0 : Int32) H.size v2 hv3) (va_cwS 8 hts gX13_letters_X13_spelled rfl rfl rfl (by decide +kernel) ⟨Nat.le_of_ble_eq_true rfl, Nat.le_of_ble_eq_true rfl⟩) cl_blind (cl_pre hK hP hD [] (by decide) rfl) hP hD hS hA [] rfl rfl hl.1 rfl (lv_room (Nat.le_of_ble_eq_true rfl)) dX13_letters_84 ⟨Nat.le_of_ble_eq_true rfl, Nat.le_of_ble_eq_true rfl⟩ ⟨rfl, rfl⟩ (fun _ => updR [] rfl) (fun r u H locs hw hP hD hS => ?_)
    have hw := hw.symm
    subst hw
    have hP : va_P (dC, dI) vwCl (w_X13_letters cy  ) H := hP
    have hD : va_D A (w_X13_letters cy  ) := hD
    exact W.lret (v := v2) hx hb hr (fun t ht hW => by rw [hqq]; have hh := Option.some.inj h; exact ⟨⟨v2, (()), rfl, Option.some.inj h, by rw [ht]; exact hP, va_K.moved hW.alike hK⟩, hS.F ht⟩) hS.2.2 dX13_letters_87
  rw [if_neg c1] at h
  by_cases c4 : x0 = (1 : Int32)
  · rw [if_pos c4] at h
    refine lv_tableIn (off := 87) (tgt := 88) hx hb dX13_letters_1 (by rw [c4]; decide) (by rw [c4]; decide) (by rw [c4]; decide) (by decide) ?_
    refine lv_bipush (v := (101 : Int32)) hx hb dX13_letters_88 (by decide) ?_
    refine lv_bipush (v := (97 : Int32)) hx hb dX13_letters_90 (by decide) ?_
    refine lv_bipush (v := (116 : Int32)) hx hb dX13_letters_92 (by decide) ?_
    refine lv_bipush (v := (101 : Int32)) hx hb dX13_letters_94 (by decide) ?_
    refine lv_bipush (v := (110 : Int32)) hx hb dX13_letters_96 (by decide) ?_
    refine lv_iconst (v := (0 : Int32)) hx hb dX13_letters_98 (by decide) ?_
    refine lv_iconst (v := (0 : Int32)) hx hb dX13_letters_99 (by decide) ?_
    refine lv_iconst (v := (0 : Int32)) hx hb dX13_letters_100 (by decide) ?_
    obtain ⟨v5, hv6, h⟩ := ok_bind h
    refine cl_sl (w2 := fun (_ : Unit) => w_X13_letters cy  ) (As := [.int (101 : Int32), .int (97 : Int32), .int (116 : Int32), .int (101 : Int32), .int (110 : Int32), .int (0 : Int32), .int (0 : Int32), .int (0 : Int32)]) (rest := []) ⟨hx, hb, hml, hown, hts⟩ (c_X13_spelled l dC dI cy  (101 : Int32) (97 : Int32) (116 : Int32) (101 : Int32) (110 : Int32) (0 : Int32) (0 : Int32) (0 : Int32) H.size v5 hv6) (va_cwS 8 hts gX13_letters_X13_spelled rfl rfl rfl (by decide +kernel) ⟨Nat.le_of_ble_eq_true rfl, Nat.le_of_ble_eq_true rfl⟩) cl_blind (cl_pre hK hP hD [] (by decide) rfl) hP hD hS hA [] rfl rfl hl.1 rfl (lv_room (Nat.le_of_ble_eq_true rfl)) dX13_letters_101 ⟨Nat.le_of_ble_eq_true rfl, Nat.le_of_ble_eq_true rfl⟩ ⟨rfl, rfl⟩ (fun _ => updR [] rfl) (fun r u H locs hw hP hD hS => ?_)
    have hw := hw.symm
    subst hw
    have hP : va_P (dC, dI) vwCl (w_X13_letters cy  ) H := hP
    have hD : va_D A (w_X13_letters cy  ) := hD
    exact W.lret (v := v5) hx hb hr (fun t ht hW => by rw [hqq]; have hh := Option.some.inj h; exact ⟨⟨v5, (()), rfl, Option.some.inj h, by rw [ht]; exact hP, va_K.moved hW.alike hK⟩, hS.F ht⟩) hS.2.2 dX13_letters_104
  rw [if_neg c4] at h
  by_cases c7 : x0 = (2 : Int32)
  · rw [if_pos c7] at h
    refine lv_tableIn (off := 104) (tgt := 105) hx hb dX13_letters_1 (by rw [c7]; decide) (by rw [c7]; decide) (by rw [c7]; decide) (by decide) ?_
    refine lv_bipush (v := (108 : Int32)) hx hb dX13_letters_105 (by decide) ?_
    refine lv_bipush (v := (101 : Int32)) hx hb dX13_letters_107 (by decide) ?_
    refine lv_bipush (v := (110 : Int32)) hx hb dX13_letters_109 (by decide) ?_
    refine lv_bipush (v := (116 : Int32)) hx hb dX13_letters_111 (by decide) ?_
    refine lv_iconst (v := (0 : Int32)) hx hb dX13_letters_113 (by decide) ?_
    refine lv_iconst (v := (0 : Int32)) hx hb dX13_letters_114 (by decide) ?_
    refine lv_iconst (v := (0 : Int32)) hx hb dX13_letters_115 (by decide) ?_
    refine lv_iconst (v := (0 : Int32)) hx hb dX13_letters_116 (by decide) ?_
    obtain ⟨v8, hv9, h⟩ := ok_bind h
    refine cl_sl (w2 := fun (_ : Unit) => w_X13_letters cy  ) (As := [.int (108 : Int32), .int (101 : Int32), .int (110 : Int32), .int (116 : Int32), .int (0 : Int32), .int (0 : Int32), .int (0 : Int32), .int (0 : Int32)]) (rest := []) ⟨hx, hb, hml, hown, hts⟩ (c_X13_spelled l dC dI cy  (108 : Int32) (101 : Int32) (110 : Int32) (116 : Int32) (0 : Int32) (0 : Int32) (0 : Int32) (0 : Int32) H.size v8 hv9) (va_cwS 8 hts gX13_letters_X13_spelled rfl rfl rfl (by decide +kernel) ⟨Nat.le_of_ble_eq_true rfl, Nat.le_of_ble_eq_true rfl⟩) cl_blind (cl_pre hK hP hD [] (by decide) rfl) hP hD hS hA [] rfl rfl hl.1 rfl (lv_room (Nat.le_of_ble_eq_true rfl)) dX13_letters_117 ⟨Nat.le_of_ble_eq_true rfl, Nat.le_of_ble_eq_true rfl⟩ ⟨rfl, rfl⟩ (fun _ => updR [] rfl) (fun r u H locs hw hP hD hS => ?_)
    have hw := hw.symm
    subst hw
    have hP : va_P (dC, dI) vwCl (w_X13_letters cy  ) H := hP
    have hD : va_D A (w_X13_letters cy  ) := hD
    exact W.lret (v := v8) hx hb hr (fun t ht hW => by rw [hqq]; have hh := Option.some.inj h; exact ⟨⟨v8, (()), rfl, Option.some.inj h, by rw [ht]; exact hP, va_K.moved hW.alike hK⟩, hS.F ht⟩) hS.2.2 dX13_letters_120
  rw [if_neg c7] at h
  by_cases c10 : x0 = (3 : Int32)
  · rw [if_pos c10] at h
    refine lv_tableIn (off := 120) (tgt := 121) hx hb dX13_letters_1 (by rw [c10]; decide) (by rw [c10]; decide) (by rw [c10]; decide) (by decide) ?_
    refine lv_bipush (v := (104 : Int32)) hx hb dX13_letters_121 (by decide) ?_
    refine lv_bipush (v := (105 : Int32)) hx hb dX13_letters_123 (by decide) ?_
    refine lv_bipush (v := (100 : Int32)) hx hb dX13_letters_125 (by decide) ?_
    refine lv_bipush (v := (100 : Int32)) hx hb dX13_letters_127 (by decide) ?_
    refine lv_bipush (v := (101 : Int32)) hx hb dX13_letters_129 (by decide) ?_
    refine lv_bipush (v := (110 : Int32)) hx hb dX13_letters_131 (by decide) ?_
    refine lv_iconst (v := (0 : Int32)) hx hb dX13_letters_133 (by decide) ?_
    refine lv_iconst (v := (0 : Int32)) hx hb dX13_letters_134 (by decide) ?_
    obtain ⟨v11, hv12, h⟩ := ok_bind h
    refine cl_sl (w2 := fun (_ : Unit) => w_X13_letters cy  ) (As := [.int (104 : Int32), .int (105 : Int32), .int (100 : Int32), .int (100 : Int32), .int (101 : Int32), .int (110 : Int32), .int (0 : Int32), .int (0 : Int32)]) (rest := []) ⟨hx, hb, hml, hown, hts⟩ (c_X13_spelled l dC dI cy  (104 : Int32) (105 : Int32) (100 : Int32) (100 : Int32) (101 : Int32) (110 : Int32) (0 : Int32) (0 : Int32) H.size v11 hv12) (va_cwS 8 hts gX13_letters_X13_spelled rfl rfl rfl (by decide +kernel) ⟨Nat.le_of_ble_eq_true rfl, Nat.le_of_ble_eq_true rfl⟩) cl_blind (cl_pre hK hP hD [] (by decide) rfl) hP hD hS hA [] rfl rfl hl.1 rfl (lv_room (Nat.le_of_ble_eq_true rfl)) dX13_letters_135 ⟨Nat.le_of_ble_eq_true rfl, Nat.le_of_ble_eq_true rfl⟩ ⟨rfl, rfl⟩ (fun _ => updR [] rfl) (fun r u H locs hw hP hD hS => ?_)
    have hw := hw.symm
    subst hw
    have hP : va_P (dC, dI) vwCl (w_X13_letters cy  ) H := hP
    have hD : va_D A (w_X13_letters cy  ) := hD
    exact W.lret (v := v11) hx hb hr (fun t ht hW => by rw [hqq]; have hh := Option.some.inj h; exact ⟨⟨v11, (()), rfl, Option.some.inj h, by rw [ht]; exact hP, va_K.moved hW.alike hK⟩, hS.F ht⟩) hS.2.2 dX13_letters_138
  rw [if_neg c10] at h
  by_cases c13 : x0 = (4 : Int32)
  · rw [if_pos c13] at h
    refine lv_tableIn (off := 138) (tgt := 139) hx hb dX13_letters_1 (by rw [c13]; decide) (by rw [c13]; decide) (by rw [c13]; decide) (by decide) ?_
    refine lv_bipush (v := (99 : Int32)) hx hb dX13_letters_139 (by decide) ?_
    refine lv_bipush (v := (101 : Int32)) hx hb dX13_letters_141 (by decide) ?_
    refine lv_bipush (v := (110 : Int32)) hx hb dX13_letters_143 (by decide) ?_
    refine lv_bipush (v := (115 : Int32)) hx hb dX13_letters_145 (by decide) ?_
    refine lv_bipush (v := (117 : Int32)) hx hb dX13_letters_147 (by decide) ?_
    refine lv_bipush (v := (115 : Int32)) hx hb dX13_letters_149 (by decide) ?_
    refine lv_iconst (v := (0 : Int32)) hx hb dX13_letters_151 (by decide) ?_
    refine lv_iconst (v := (0 : Int32)) hx hb dX13_letters_152 (by decide) ?_
    obtain ⟨v14, hv15, h⟩ := ok_bind h
    refine cl_sl (w2 := fun (_ : Unit) => w_X13_letters cy  ) (As := [.int (99 : Int32), .int (101 : Int32), .int (110 : Int32), .int (115 : Int32), .int (117 : Int32), .int (115 : Int32), .int (0 : Int32), .int (0 : Int32)]) (rest := []) ⟨hx, hb, hml, hown, hts⟩ (c_X13_spelled l dC dI cy  (99 : Int32) (101 : Int32) (110 : Int32) (115 : Int32) (117 : Int32) (115 : Int32) (0 : Int32) (0 : Int32) H.size v14 hv15) (va_cwS 8 hts gX13_letters_X13_spelled rfl rfl rfl (by decide +kernel) ⟨Nat.le_of_ble_eq_true rfl, Nat.le_of_ble_eq_true rfl⟩) cl_blind (cl_pre hK hP hD [] (by decide) rfl) hP hD hS hA [] rfl rfl hl.1 rfl (lv_room (Nat.le_of_ble_eq_true rfl)) dX13_letters_153 ⟨Nat.le_of_ble_eq_true rfl, Nat.le_of_ble_eq_true rfl⟩ ⟨rfl, rfl⟩ (fun _ => updR [] rfl) (fun r u H locs hw hP hD hS => ?_)
    have hw := hw.symm
    subst hw
    have hP : va_P (dC, dI) vwCl (w_X13_letters cy  ) H := hP
    have hD : va_D A (w_X13_letters cy  ) := hD
    exact W.lret (v := v14) hx hb hr (fun t ht hW => by rw [hqq]; have hh := Option.some.inj h; exact ⟨⟨v14, (()), rfl, Option.some.inj h, by rw [ht]; exact hP, va_K.moved hW.alike hK⟩, hS.F ht⟩) hS.2.2 dX13_letters_156
  rw [if_neg c13] at h
  by_cases c16 : x0 = (5 : Int32)
  · rw [if_pos c16] at h
    refine lv_tableIn (off := 156) (tgt := 157) hx hb dX13_letters_1 (by rw [c16]; decide) (by rw [c16]; decide) (by rw [c16]; decide) (by decide) ?_
    refine lv_bipush (v := (114 : Int32)) hx hb dX13_letters_157 (by decide) ?_
    refine lv_bipush (v := (117 : Int32)) hx hb dX13_letters_159 (by decide) ?_
    refine lv_bipush (v := (98 : Int32)) hx hb dX13_letters_161 (by decide) ?_
    refine lv_iconst (v := (0 : Int32)) hx hb dX13_letters_163 (by decide) ?_
    refine lv_iconst (v := (0 : Int32)) hx hb dX13_letters_164 (by decide) ?_
    refine lv_iconst (v := (0 : Int32)) hx hb dX13_letters_165 (by decide) ?_
    refine lv_iconst (v := (0 : Int32)) hx hb dX13_letters_166 (by decide) ?_
    refine lv_iconst (v := (0 : Int32)) hx hb dX13_letters_167 (by decide) ?_
    obtain ⟨v17, hv18, h⟩ := ok_bind h
    refine cl_sl (w2 := fun (_ : Unit) => w_X13_letters cy  ) (As := [.int (114 : Int32), .int (117 : Int32), .int (98 : Int32), .int (0 : Int32), .int (0 : Int32), .int (0 : Int32), .int (0 : Int32), .int (0 : Int32)]) (rest := []) ⟨hx, hb, hml, hown, hts⟩ (c_X13_spelled l dC dI cy  (114 : Int32) (117 : Int32) (98 : Int32) (0 : Int32) (0 : Int32) (0 : Int32) (0 : Int32) (0 : Int32) H.size v17 hv18) (va_cwS 8 hts gX13_letters_X13_spelled rfl rfl rfl (by decide +kernel) ⟨Nat.le_of_ble_eq_true rfl, Nat.le_of_ble_eq_true rfl⟩) cl_blind (cl_pre hK hP hD [] (by decide) rfl) hP hD hS hA [] rfl rfl hl.1 rfl (lv_room (Nat.le_of_ble_eq_true rfl)) dX13_letters_168 ⟨Nat.le_of_ble_eq_true rfl, Nat.le_of_ble_eq_true rfl⟩ ⟨rfl, rfl⟩ (fun _ => updR [] rfl) (fun r u H locs hw hP hD hS => ?_)
    have hw := hw.symm
    subst hw
    have hP : va_P (dC, dI) vwCl (w_X13_letters cy  ) H := hP
    have hD : va_D A (w_X13_letters cy  ) := hD
    exact W.lret (v := v17) hx hb hr (fun t ht hW => by rw [hqq]; have hh := Option.some.inj h; exact ⟨⟨v17, (()), rfl, Option.some.inj h, by rw [ht]; exact hP, va_K.moved hW.alike hK⟩, hS.F ht⟩) hS.2.2 dX13_letters_171
  rw [if_neg c16] at h
  by_cases c19 : x0 = (6 : Int32)
  · rw [if_pos c19] at h
    refine lv_tableIn (off := 171) (tgt := 172) hx hb dX13_letters_1 (by rw [c19]; decide) (by rw [c19]; decide) (by rw [c19]; decide) (by decide) ?_
    refine lv_bipush (v := (119 : Int32)) hx hb dX13_letters_172 (by decide) ?_
    refine lv_bipush (v := (114 : Int32)) hx hb dX13_letters_174 (by decide) ?_
    refine lv_bipush (v := (105 : Int32)) hx hb dX13_letters_176 (by decide) ?_
    refine lv_bipush (v := (116 : Int32)) hx hb dX13_letters_178 (by decide) ?_
    refine lv_bipush (v := (101 : Int32)) hx hb dX13_letters_180 (by decide) ?_
    refine lv_iconst (v := (0 : Int32)) hx hb dX13_letters_182 (by decide) ?_
    refine lv_iconst (v := (0 : Int32)) hx hb dX13_letters_183 (by decide) ?_
    refine lv_iconst (v := (0 : Int32)) hx hb dX13_letters_184 (by decide) ?_
    obtain ⟨v20, hv21, h⟩ := ok_bind h
    refine cl_sl (w2 := fun (_ : Unit) => w_X13_letters cy  ) (As := [.int (119 : Int32), .int (114 : Int32), .int (105 : Int32), .int (116 : Int32), .int (101 : Int32), .int (0 : Int32), .int (0 : Int32), .int (0 : Int32)]) (rest := []) ⟨hx, hb, hml, hown, hts⟩ (c_X13_spelled l dC dI cy  (119 : Int32) (114 : Int32) (105 : Int32) (116 : Int32) (101 : Int32) (0 : Int32) (0 : Int32) (0 : Int32) H.size v20 hv21) (va_cwS 8 hts gX13_letters_X13_spelled rfl rfl rfl (by decide +kernel) ⟨Nat.le_of_ble_eq_true rfl, Nat.le_of_ble_eq_true rfl⟩) cl_blind (cl_pre hK hP hD [] (by decide) rfl) hP hD hS hA [] rfl rfl hl.1 rfl (lv_room (Nat.le_of_ble_eq_true rfl)) dX13_letters_185 ⟨Nat.le_of_ble_eq_true rfl, Nat.le_of_ble_eq_true rfl⟩ ⟨rfl, rfl⟩ (fun _ => updR [] rfl) (fun r u H locs hw hP hD hS => ?_)
    have hw := hw.symm
    subst hw
    have hP : va_P (dC, dI) vwCl (w_X13_letters cy  ) H := hP
    have hD : va_D A (w_X13_letters cy  ) := hD
    exact W.lret (v := v20) hx hb hr (fun t ht hW => by rw [hqq]; have hh := Option.some.inj h; exact ⟨⟨v20, (()), rfl, Option.some.inj h, by rw [ht]; exact hP, va_K.moved hW.alike hK⟩, hS.F ht⟩) hS.2.2 dX13_letters_188
  rw [if_neg c19] at h
  by_cases c22 : x0 = (7 : Int32)
  · rw [if_pos c22] at h
    refine lv_tableIn (off := 188) (tgt := 189) hx hb dX13_letters_1 (by rw [c22]; decide) (by rw [c22]; decide) (by rw [c22]; decide) (by decide) ?_
    refine lv_bipush (v := (115 : Int32)) hx hb dX13_letters_189 (by decide) ?_
    refine lv_bipush (v := (119 : Int32)) hx hb dX13_letters_191 (by decide) ?_
    refine lv_bipush (v := (97 : Int32)) hx hb dX13_letters_193 (by decide) ?_
    refine lv_bipush (v := (112 : Int32)) hx hb dX13_letters_195 (by decide) ?_
    refine lv_iconst (v := (0 : Int32)) hx hb dX13_letters_197 (by decide) ?_
    refine lv_iconst (v := (0 : Int32)) hx hb dX13_letters_198 (by decide) ?_
    refine lv_iconst (v := (0 : Int32)) hx hb dX13_letters_199 (by decide) ?_
    refine lv_iconst (v := (0 : Int32)) hx hb dX13_letters_200 (by decide) ?_
    obtain ⟨v23, hv24, h⟩ := ok_bind h
    refine cl_sl (w2 := fun (_ : Unit) => w_X13_letters cy  ) (As := [.int (115 : Int32), .int (119 : Int32), .int (97 : Int32), .int (112 : Int32), .int (0 : Int32), .int (0 : Int32), .int (0 : Int32), .int (0 : Int32)]) (rest := []) ⟨hx, hb, hml, hown, hts⟩ (c_X13_spelled l dC dI cy  (115 : Int32) (119 : Int32) (97 : Int32) (112 : Int32) (0 : Int32) (0 : Int32) (0 : Int32) (0 : Int32) H.size v23 hv24) (va_cwS 8 hts gX13_letters_X13_spelled rfl rfl rfl (by decide +kernel) ⟨Nat.le_of_ble_eq_true rfl, Nat.le_of_ble_eq_true rfl⟩) cl_blind (cl_pre hK hP hD [] (by decide) rfl) hP hD hS hA [] rfl rfl hl.1 rfl (lv_room (Nat.le_of_ble_eq_true rfl)) dX13_letters_201 ⟨Nat.le_of_ble_eq_true rfl, Nat.le_of_ble_eq_true rfl⟩ ⟨rfl, rfl⟩ (fun _ => updR [] rfl) (fun r u H locs hw hP hD hS => ?_)
    have hw := hw.symm
    subst hw
    have hP : va_P (dC, dI) vwCl (w_X13_letters cy  ) H := hP
    have hD : va_D A (w_X13_letters cy  ) := hD
    exact W.lret (v := v23) hx hb hr (fun t ht hW => by rw [hqq]; have hh := Option.some.inj h; exact ⟨⟨v23, (()), rfl, Option.some.inj h, by rw [ht]; exact hP, va_K.moved hW.alike hK⟩, hS.F ht⟩) hS.2.2 dX13_letters_204
  rw [if_neg c22] at h
  by_cases c25 : x0 = (8 : Int32)
  · rw [if_pos c25] at h
    refine lv_tableIn (off := 204) (tgt := 205) hx hb dX13_letters_1 (by rw [c25]; decide) (by rw [c25]; decide) (by rw [c25]; decide) (by decide) ?_
    refine lv_bipush (v := (111 : Int32)) hx hb dX13_letters_205 (by decide) ?_
    refine lv_bipush (v := (119 : Int32)) hx hb dX13_letters_207 (by decide) ?_
    refine lv_bipush (v := (110 : Int32)) hx hb dX13_letters_209 (by decide) ?_
    refine lv_bipush (v := (101 : Int32)) hx hb dX13_letters_211 (by decide) ?_
    refine lv_bipush (v := (114 : Int32)) hx hb dX13_letters_213 (by decide) ?_
    refine lv_iconst (v := (0 : Int32)) hx hb dX13_letters_215 (by decide) ?_
    refine lv_iconst (v := (0 : Int32)) hx hb dX13_letters_216 (by decide) ?_
    refine lv_iconst (v := (0 : Int32)) hx hb dX13_letters_217 (by decide) ?_
    obtain ⟨v26, hv27, h⟩ := ok_bind h
    refine cl_sl (w2 := fun (_ : Unit) => w_X13_letters cy  ) (As := [.int (111 : Int32), .int (119 : Int32), .int (110 : Int32), .int (101 : Int32), .int (114 : Int32), .int (0 : Int32), .int (0 : Int32), .int (0 : Int32)]) (rest := []) ⟨hx, hb, hml, hown, hts⟩ (c_X13_spelled l dC dI cy  (111 : Int32) (119 : Int32) (110 : Int32) (101 : Int32) (114 : Int32) (0 : Int32) (0 : Int32) (0 : Int32) H.size v26 hv27) (va_cwS 8 hts gX13_letters_X13_spelled rfl rfl rfl (by decide +kernel) ⟨Nat.le_of_ble_eq_true rfl, Nat.le_of_ble_eq_true rfl⟩) cl_blind (cl_pre hK hP hD [] (by decide) rfl) hP hD hS hA [] rfl rfl hl.1 rfl (lv_room (Nat.le_of_ble_eq_true rfl)) dX13_letters_218 ⟨Nat.le_of_ble_eq_true rfl, Nat.le_of_ble_eq_true rfl⟩ ⟨rfl, rfl⟩ (fun _ => updR [] rfl) (fun r u H locs hw hP hD hS => ?_)
    have hw := hw.symm
    subst hw
    have hP : va_P (dC, dI) vwCl (w_X13_letters cy  ) H := hP
    have hD : va_D A (w_X13_letters cy  ) := hD
    exact W.lret (v := v26) hx hb hr (fun t ht hW => by rw [hqq]; have hh := Option.some.inj h; exact ⟨⟨v26, (()), rfl, Option.some.inj h, by rw [ht]; exact hP, va_K.moved hW.alike hK⟩, hS.F ht⟩) hS.2.2 dX13_letters_221
  rw [if_neg c25] at h
  by_cases c28 : x0 = (9 : Int32)
  · rw [if_pos c28] at h
    refine lv_tableIn (off := 221) (tgt := 222) hx hb dX13_letters_1 (by rw [c28]; decide) (by rw [c28]; decide) (by rw [c28]; decide) (by decide) ?_
    refine lv_bipush (v := (104 : Int32)) hx hb dX13_letters_222 (by decide) ?_
    refine lv_bipush (v := (105 : Int32)) hx hb dX13_letters_224 (by decide) ?_
    refine lv_bipush (v := (100 : Int32)) hx hb dX13_letters_226 (by decide) ?_
    refine lv_bipush (v := (101 : Int32)) hx hb dX13_letters_228 (by decide) ?_
    refine lv_bipush (v := (115 : Int32)) hx hb dX13_letters_230 (by decide) ?_
    refine lv_iconst (v := (0 : Int32)) hx hb dX13_letters_232 (by decide) ?_
    refine lv_iconst (v := (0 : Int32)) hx hb dX13_letters_233 (by decide) ?_
    refine lv_iconst (v := (0 : Int32)) hx hb dX13_letters_234 (by decide) ?_
    obtain ⟨v29, hv30, h⟩ := ok_bind h
    refine cl_sl (w2 := fun (_ : Unit) => w_X13_letters cy  ) (As := [.int (104 : Int32), .int (105 : Int32), .int (100 : Int32), .int (101 : Int32), .int (115 : Int32), .int (0 : Int32), .int (0 : Int32), .int (0 : Int32)]) (rest := []) ⟨hx, hb, hml, hown, hts⟩ (c_X13_spelled l dC dI cy  (104 : Int32) (105 : Int32) (100 : Int32) (101 : Int32) (115 : Int32) (0 : Int32) (0 : Int32) (0 : Int32) H.size v29 hv30) (va_cwS 8 hts gX13_letters_X13_spelled rfl rfl rfl (by decide +kernel) ⟨Nat.le_of_ble_eq_true rfl, Nat.le_of_ble_eq_true rfl⟩) cl_blind (cl_pre hK hP hD [] (by decide) rfl) hP hD hS hA [] rfl rfl hl.1 rfl (lv_room (Nat.le_of_ble_eq_true rfl)) dX13_letters_235 ⟨Nat.le_of_ble_eq_true rfl, Nat.le_of_ble_eq_true rfl⟩ ⟨rfl, rfl⟩ (fun _ => updR [] rfl) (fun r u H locs hw hP hD hS => ?_)
    have hw := hw.symm
    subst hw
    have hP : va_P (dC, dI) vwCl (w_X13_letters cy  ) H := hP
    have hD : va_D A (w_X13_letters cy  ) := hD
    exact W.lret (v := v29) hx hb hr (fun t ht hW => by rw [hqq]; have hh := Option.some.inj h; exact ⟨⟨v29, (()), rfl, Option.some.inj h, by rw [ht]; exact hP, va_K.moved hW.alike hK⟩, hS.F ht⟩) hS.2.2 dX13_letters_238
  rw [if_neg c28] at h
  by_cases c31 : x0 = (10 : Int32)
  · rw [if_pos c31] at h
    refine lv_tableIn (off := 238) (tgt := 239) hx hb dX13_letters_1 (by rw [c31]; decide) (by rw [c31]; decide) (by rw [c31]; decide) (by decide) ?_
    refine lv_bipush (v := (100 : Int32)) hx hb dX13_letters_239 (by decide) ?_
    refine lv_bipush (v := (111 : Int32)) hx hb dX13_letters_241 (by decide) ?_
    refine lv_bipush (v := (111 : Int32)) hx hb dX13_letters_243 (by decide) ?_
    refine lv_bipush (v := (114 : Int32)) hx hb dX13_letters_245 (by decide) ?_
    refine lv_iconst (v := (0 : Int32)) hx hb dX13_letters_247 (by decide) ?_
    refine lv_iconst (v := (0 : Int32)) hx hb dX13_letters_248 (by decide) ?_
    refine lv_iconst (v := (0 : Int32)) hx hb dX13_letters_249 (by decide) ?_
    refine lv_iconst (v := (0 : Int32)) hx hb dX13_letters_250 (by decide) ?_
    obtain ⟨v32, hv33, h⟩ := ok_bind h
    refine cl_sl (w2 := fun (_ : Unit) => w_X13_letters cy  ) (As := [.int (100 : Int32), .int (111 : Int32), .int (111 : Int32), .int (114 : Int32), .int (0 : Int32), .int (0 : Int32), .int (0 : Int32), .int (0 : Int32)]) (rest := []) ⟨hx, hb, hml, hown, hts⟩ (c_X13_spelled l dC dI cy  (100 : Int32) (111 : Int32) (111 : Int32) (114 : Int32) (0 : Int32) (0 : Int32) (0 : Int32) (0 : Int32) H.size v32 hv33) (va_cwS 8 hts gX13_letters_X13_spelled rfl rfl rfl (by decide +kernel) ⟨Nat.le_of_ble_eq_true rfl, Nat.le_of_ble_eq_true rfl⟩) cl_blind (cl_pre hK hP hD [] (by decide) rfl) hP hD hS hA [] rfl rfl hl.1 rfl (lv_room (Nat.le_of_ble_eq_true rfl)) dX13_letters_251 ⟨Nat.le_of_ble_eq_true rfl, Nat.le_of_ble_eq_true rfl⟩ ⟨rfl, rfl⟩ (fun _ => updR [] rfl) (fun r u H locs hw hP hD hS => ?_)
    have hw := hw.symm
    subst hw
    have hP : va_P (dC, dI) vwCl (w_X13_letters cy  ) H := hP
    have hD : va_D A (w_X13_letters cy  ) := hD
    exact W.lret (v := v32) hx hb hr (fun t ht hW => by rw [hqq]; have hh := Option.some.inj h; exact ⟨⟨v32, (()), rfl, Option.some.inj h, by rw [ht]; exact hP, va_K.moved hW.alike hK⟩, hS.F ht⟩) hS.2.2 dX13_letters_254
  rw [if_neg c31] at h
  by_cases c34 : x0 = (11 : Int32)
  · rw [if_pos c34] at h
    refine lv_tableIn (off := 254) (tgt := 255) hx hb dX13_letters_1 (by rw [c34]; decide) (by rw [c34]; decide) (by rw [c34]; decide) (by decide) ?_
    refine lv_bipush (v := (108 : Int32)) hx hb dX13_letters_255 (by decide) ?_
    refine lv_bipush (v := (97 : Int32)) hx hb dX13_letters_257 (by decide) ?_
    refine lv_bipush (v := (119 : Int32)) hx hb dX13_letters_259 (by decide) ?_
    refine lv_iconst (v := (0 : Int32)) hx hb dX13_letters_261 (by decide) ?_
    refine lv_iconst (v := (0 : Int32)) hx hb dX13_letters_262 (by decide) ?_
    refine lv_iconst (v := (0 : Int32)) hx hb dX13_letters_263 (by decide) ?_
    refine lv_iconst (v := (0 : Int32)) hx hb dX13_letters_264 (by decide) ?_
    refine lv_iconst (v := (0 : Int32)) hx hb dX13_letters_265 (by decide) ?_
    obtain ⟨v35, hv36, h⟩ := ok_bind h
    refine cl_sl (w2 := fun (_ : Unit) => w_X13_letters cy  ) (As := [.int (108 : Int32), .int (97 : Int32), .int (119 : Int32), .int (0 : Int32), .int (0 : Int32), .int (0 : Int32), .int (0 : Int32), .int (0 : Int32)]) (rest := []) ⟨hx, hb, hml, hown, hts⟩ (c_X13_spelled l dC dI cy  (108 : Int32) (97 : Int32) (119 : Int32) (0 : Int32) (0 : Int32) (0 : Int32) (0 : Int32) (0 : Int32) H.size v35 hv36) (va_cwS 8 hts gX13_letters_X13_spelled rfl rfl rfl (by decide +kernel) ⟨Nat.le_of_ble_eq_true rfl, Nat.le_of_ble_eq_true rfl⟩) cl_blind (cl_pre hK hP hD [] (by decide) rfl) hP hD hS hA [] rfl rfl hl.1 rfl (lv_room (Nat.le_of_ble_eq_true rfl)) dX13_letters_266 ⟨Nat.le_of_ble_eq_true rfl, Nat.le_of_ble_eq_true rfl⟩ ⟨rfl, rfl⟩ (fun _ => updR [] rfl) (fun r u H locs hw hP hD hS => ?_)
    have hw := hw.symm
    subst hw
    have hP : va_P (dC, dI) vwCl (w_X13_letters cy  ) H := hP
    have hD : va_D A (w_X13_letters cy  ) := hD
    exact W.lret (v := v35) hx hb hr (fun t ht hW => by rw [hqq]; have hh := Option.some.inj h; exact ⟨⟨v35, (()), rfl, Option.some.inj h, by rw [ht]; exact hP, va_K.moved hW.alike hK⟩, hS.F ht⟩) hS.2.2 dX13_letters_269
  rw [if_neg c34] at h
  by_cases c37 : x0 = (12 : Int32)
  · rw [if_pos c37] at h
    refine lv_tableIn (off := 269) (tgt := 270) hx hb dX13_letters_1 (by rw [c37]; decide) (by rw [c37]; decide) (by rw [c37]; decide) (by decide) ?_
    refine lv_bipush (v := (118 : Int32)) hx hb dX13_letters_270 (by decide) ?_
    refine lv_bipush (v := (111 : Int32)) hx hb dX13_letters_272 (by decide) ?_
    refine lv_bipush (v := (105 : Int32)) hx hb dX13_letters_274 (by decide) ?_
    refine lv_bipush (v := (100 : Int32)) hx hb dX13_letters_276 (by decide) ?_
    refine lv_iconst (v := (0 : Int32)) hx hb dX13_letters_278 (by decide) ?_
    refine lv_iconst (v := (0 : Int32)) hx hb dX13_letters_279 (by decide) ?_
    refine lv_iconst (v := (0 : Int32)) hx hb dX13_letters_280 (by decide) ?_
    refine lv_iconst (v := (0 : Int32)) hx hb dX13_letters_281 (by decide) ?_
    obtain ⟨v38, hv39, h⟩ := ok_bind h
    refine cl_sl (w2 := fun (_ : Unit) => w_X13_letters cy  ) (As := [.int (118 : Int32), .int (111 : Int32), .int (105 : Int32), .int (100 : Int32), .int (0 : Int32), .int (0 : Int32), .int (0 : Int32), .int (0 : Int32)]) (rest := []) ⟨hx, hb, hml, hown, hts⟩ (c_X13_spelled l dC dI cy  (118 : Int32) (111 : Int32) (105 : Int32) (100 : Int32) (0 : Int32) (0 : Int32) (0 : Int32) (0 : Int32) H.size v38 hv39) (va_cwS 8 hts gX13_letters_X13_spelled rfl rfl rfl (by decide +kernel) ⟨Nat.le_of_ble_eq_true rfl, Nat.le_of_ble_eq_true rfl⟩) cl_blind (cl_pre hK hP hD [] (by decide) rfl) hP hD hS hA [] rfl rfl hl.1 rfl (lv_room (Nat.le_of_ble_eq_true rfl)) dX13_letters_282 ⟨Nat.le_of_ble_eq_true rfl, Nat.le_of_ble_eq_true rfl⟩ ⟨rfl, rfl⟩ (fun _ => updR [] rfl) (fun r u H locs hw hP hD hS => ?_)
    have hw := hw.symm
    subst hw
    have hP : va_P (dC, dI) vwCl (w_X13_letters cy  ) H := hP
    have hD : va_D A (w_X13_letters cy  ) := hD
    exact W.lret (v := v38) hx hb hr (fun t ht hW => by rw [hqq]; have hh := Option.some.inj h; exact ⟨⟨v38, (()), rfl, Option.some.inj h, by rw [ht]; exact hP, va_K.moved hW.alike hK⟩, hS.F ht⟩) hS.2.2 dX13_letters_285
  rw [if_neg c37] at h
  by_cases c40 : x0 = (13 : Int32)
  · rw [if_pos c40] at h
    refine lv_tableIn (off := 285) (tgt := 286) hx hb dX13_letters_1 (by rw [c40]; decide) (by rw [c40]; decide) (by rw [c40]; decide) (by decide) ?_
    refine lv_bipush (v := (100 : Int32)) hx hb dX13_letters_286 (by decide) ?_
    refine lv_bipush (v := (117 : Int32)) hx hb dX13_letters_288 (by decide) ?_
    refine lv_bipush (v := (101 : Int32)) hx hb dX13_letters_290 (by decide) ?_
    refine lv_iconst (v := (0 : Int32)) hx hb dX13_letters_292 (by decide) ?_
    refine lv_iconst (v := (0 : Int32)) hx hb dX13_letters_293 (by decide) ?_
    refine lv_iconst (v := (0 : Int32)) hx hb dX13_letters_294 (by decide) ?_
    refine lv_iconst (v := (0 : Int32)) hx hb dX13_letters_295 (by decide) ?_
    refine lv_iconst (v := (0 : Int32)) hx hb dX13_letters_296 (by decide) ?_
    obtain ⟨v41, hv42, h⟩ := ok_bind h
    refine cl_sl (w2 := fun (_ : Unit) => w_X13_letters cy  ) (As := [.int (100 : Int32), .int (117 : Int32), .int (101 : Int32), .int (0 : Int32), .int (0 : Int32), .int (0 : Int32), .int (0 : Int32), .int (0 : Int32)]) (rest := []) ⟨hx, hb, hml, hown, hts⟩ (c_X13_spelled l dC dI cy  (100 : Int32) (117 : Int32) (101 : Int32) (0 : Int32) (0 : Int32) (0 : Int32) (0 : Int32) (0 : Int32) H.size v41 hv42) (va_cwS 8 hts gX13_letters_X13_spelled rfl rfl rfl (by decide +kernel) ⟨Nat.le_of_ble_eq_true rfl, Nat.le_of_ble_eq_true rfl⟩) cl_blind (cl_pre hK hP hD [] (by decide) rfl) hP hD hS hA [] rfl rfl hl.1 rfl (lv_room (Nat.le_of_ble_eq_true rfl)) dX13_letters_297 ⟨Nat.le_of_ble_eq_true rfl, Nat.le_of_ble_eq_true rfl⟩ ⟨rfl, rfl⟩ (fun _ => updR [] rfl) (fun r u H locs hw hP hD hS => ?_)
    have hw := hw.symm
    subst hw
    have hP : va_P (dC, dI) vwCl (w_X13_letters cy  ) H := hP
    have hD : va_D A (w_X13_letters cy  ) := hD
    exact W.lret (v := v41) hx hb hr (fun t ht hW => by rw [hqq]; have hh := Option.some.inj h; exact ⟨⟨v41, (()), rfl, Option.some.inj h, by rw [ht]; exact hP, va_K.moved hW.alike hK⟩, hS.F ht⟩) hS.2.2 dX13_letters_300
  rw [if_neg c40] at h
  refine lv_tableOut (tgt := 301) hx hb dX13_letters_1 (tab_out (fun k h1 h2 e => by rcases (show k = 0 ∨ k = 1 ∨ k = 2 ∨ k = 3 ∨ k = 4 ∨ k = 5 ∨ k = 6 ∨ k = 7 ∨ k = 8 ∨ k = 9 ∨ k = 10 ∨ k = 11 ∨ k = 12 ∨ k = 13 by omega) with rfl | rfl | rfl | rfl | rfl | rfl | rfl | rfl | rfl | rfl | rfl | rfl | rfl | rfl <;> first | exact c1 (Int32.toInt_inj.mp (e.trans (by decide))) | exact c4 (Int32.toInt_inj.mp (e.trans (by decide))) | exact c7 (Int32.toInt_inj.mp (e.trans (by decide))) | exact c10 (Int32.toInt_inj.mp (e.trans (by decide))) | exact c13 (Int32.toInt_inj.mp (e.trans (by decide))) | exact c16 (Int32.toInt_inj.mp (e.trans (by decide))) | exact c19 (Int32.toInt_inj.mp (e.trans (by decide))) | exact c22 (Int32.toInt_inj.mp (e.trans (by decide))) | exact c25 (Int32.toInt_inj.mp (e.trans (by decide))) | exact c28 (Int32.toInt_inj.mp (e.trans (by decide))) | exact c31 (Int32.toInt_inj.mp (e.trans (by decide))) | exact c34 (Int32.toInt_inj.mp (e.trans (by decide))) | exact c37 (Int32.toInt_inj.mp (e.trans (by decide))) | exact c40 (Int32.toInt_inj.mp (e.trans (by decide))))) (by decide) ?_
  refine lv_bipush (v := (103 : Int32)) hx hb dX13_letters_301 (by decide) ?_
  refine lv_bipush (v := (114 : Int32)) hx hb dX13_letters_303 (by decide) ?_
  refine lv_bipush (v := (101 : Int32)) hx hb dX13_letters_305 (by decide) ?_
  refine lv_bipush (v := (97 : Int32)) hx hb dX13_letters_307 (by decide) ?_
  refine lv_bipush (v := (116 : Int32)) hx hb dX13_letters_309 (by decide) ?_
  refine lv_bipush (v := (101 : Int32)) hx hb dX13_letters_311 (by decide) ?_
  refine lv_bipush (v := (115 : Int32)) hx hb dX13_letters_313 (by decide) ?_
  refine lv_bipush (v := (116 : Int32)) hx hb dX13_letters_315 (by decide) ?_
  obtain ⟨v43, hv44, h⟩ := ok_bind h
  refine cl_sl (w2 := fun (_ : Unit) => w_X13_letters cy  ) (As := [.int (103 : Int32), .int (114 : Int32), .int (101 : Int32), .int (97 : Int32), .int (116 : Int32), .int (101 : Int32), .int (115 : Int32), .int (116 : Int32)]) (rest := []) ⟨hx, hb, hml, hown, hts⟩ (c_X13_spelled l dC dI cy  (103 : Int32) (114 : Int32) (101 : Int32) (97 : Int32) (116 : Int32) (101 : Int32) (115 : Int32) (116 : Int32) H.size v43 hv44) (va_cwS 8 hts gX13_letters_X13_spelled rfl rfl rfl (by decide +kernel) ⟨Nat.le_of_ble_eq_true rfl, Nat.le_of_ble_eq_true rfl⟩) cl_blind (cl_pre hK hP hD [] (by decide) rfl) hP hD hS hA [] rfl rfl hl.1 rfl (lv_room (Nat.le_of_ble_eq_true rfl)) dX13_letters_317 ⟨Nat.le_of_ble_eq_true rfl, Nat.le_of_ble_eq_true rfl⟩ ⟨rfl, rfl⟩ (fun _ => updR [] rfl) (fun r u H locs hw hP hD hS => ?_)
  have hw := hw.symm
  subst hw
  have hP : va_P (dC, dI) vwCl (w_X13_letters cy  ) H := hP
  have hD : va_D A (w_X13_letters cy  ) := hD
  exact W.lret (v := v43) hx hb hr (fun t ht hW => by rw [hqq]; have hh := Option.some.inj h; exact ⟨⟨v43, (()), rfl, Option.some.inj h, by rw [ht]; exact hP, va_K.moved hW.alike hK⟩, hS.F ht⟩) hS.2.2 dX13_letters_320
