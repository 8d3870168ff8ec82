abbrev w_X12_isSaferCouple (cy : Nat → ClassId) (a0 : Nat → Nat) (gg : Int32 × Int32 × Int32 × Int32 × Int32 × Int32) (gvn : Int32 × Int32 × (Nat → Int32) × (Nat → Int32) × (Nat → Int32) × (Nat → Int32) × (Nat → Int32)) (gdn : Int32 × Int32 × (Nat → Int32) × (Nat → Int32) × (Nat → Int32) × (Nat → Int32)) (gne : (Nat → Nat → Int32) × (Nat → Nat → Int64)) : va_W := [(a0 0, .inr (10, [.ref (a0 1), .int (gg.1), .int (gg.2.1), .int (gg.2.2.1), .int (gg.2.2.2.1), .int (gg.2.2.2.2.1), .ref (a0 2), .ref (a0 17), .ref (a0 32), .int (gg.2.2.2.2.2), .ref (a0 47), .ref (a0 48), .ref (a0 49), .ref (a0 50), .ref (a0 68), .ref (a0 78), .ref (a0 80)])), (a0 2, .inr (7, [.int (gvn.1), .int (gvn.2.1), .ref (a0 3), .ref (a0 8), .ref (a0 12), .ref (a0 13), .ref (a0 14), .ref (a0 15), .ref (a0 16)])), (a0 3, .inr (2, [.int (gdn.1), .int (gdn.2.1), .ref (a0 4), .ref (a0 5), .ref (a0 6), .ref (a0 7)])), (a0 4, .inl (cy 1, 10, .inl (gdn.2.2.1))), (a0 5, .inl (cy 1, 10, .inl (gdn.2.2.2.1))), (a0 6, .inl (cy 1, 10, .inl (gdn.2.2.2.2.1))), (a0 7, .inl (cy 1, 50, .inl (gdn.2.2.2.2.2))), (a0 50, .inr (4, [.ref (a0 51), .ref (a0 62)])), (a0 51, .inl (cy 3, 10, .inr (.inr (.inr (.inr (fun i => some ([a0 52, a0 53, a0 54, a0 55, a0 56, a0 57, a0 58, a0 59, a0 60, a0 61].getD i 0))))))), (a0 52, .inl (cy 1, 41, .inl (gne.1 0))), (a0 53, .inl (cy 1, 41, .inl (gne.1 1))), (a0 54, .inl (cy 1, 41, .inl (gne.1 2))), (a0 55, .inl (cy 1, 41, .inl (gne.1 3))), (a0 56, .inl (cy 1, 41, .inl (gne.1 4))), (a0 57, .inl (cy 1, 41, .inl (gne.1 5))), (a0 58, .inl (cy 1, 41, .inl (gne.1 6))), (a0 59, .inl (cy 1, 41, .inl (gne.1 7))), (a0 60, .inl (cy 1, 41, .inl (gne.1 8))), (a0 61, .inl (cy 1, 41, .inl (gne.1 9))), (a0 62, .inl (cy 4, 5, .inr (.inr (.inr (.inr (fun i => some ([a0 63, a0 64, a0 65, a0 66, a0 67].getD i 0))))))), (a0 63, .inl (cy 2, 41, .inr (.inl (gne.2 0)))), (a0 64, .inl (cy 2, 41, .inr (.inl (gne.2 1)))), (a0 65, .inl (cy 2, 41, .inr (.inl (gne.2 2)))), (a0 66, .inl (cy 2, 41, .inr (.inl (gne.2 3)))), (a0 67, .inl (cy 2, 41, .inr (.inl (gne.2 4))))]
abbrev rm_X12_isSaferCouple : Room := { frames := 5, cells := 0, slots := 0, locals := 126 }
set_option maxHeartbeats 1000000 in
set_option maxRecDepth 100000 in
theorem c_X12_isSaferCouple (l : Launch) (dC : Nat → ClassId) (dI : Nat → Nat → Nat) (cy : Nat → ClassId) (a0 : Nat → Nat) (gg : Int32 × Int32 × Int32 × Int32 × Int32 × Int32) (gvn : Int32 × Int32 × (Nat → Int32) × (Nat → Int32) × (Nat → Int32) × (Nat → Int32) × (Nat → Int32)) (gdn : Int32 × Int32 × (Nat → Int32) × (Nat → Int32) × (Nat → Int32) × (Nat → Int32)) (gne : (Nat → Nat → Int32) × (Nat → Nat → Int64)) (x1 : Int32) (x2 : Int32) (x3 : Int32) (x4 : Int32) (sz : Nat) (R0 : Int32) (h : p_X12_isSaferCouple gdn gne x1 x2 x3 x4 = some R0) : Met l yX12_isSaferCouple wsX12_isSaferCouple rm_X12_isSaferCouple (va_Pc [.ref (a0 0), .int x1, .int x2, .int x3, .int x4] (prC dC dI cy (w_X12_isSaferCouple cy a0 gg gvn gdn gne) sz)) (va_Qi (fun (r : Int32) (_ : Unit) => r = R0) (fun (_ : Unit) t => poC dC dI cy (w_X12_isSaferCouple cy a0 gg gvn gdn gne) t) (va_A (w_X12_isSaferCouple cy a0 gg gvn gdn gne) sz)) 0 0 (va_A (w_X12_isSaferCouple cy a0 gg gvn gdn gne) sz) := by
  refine Met.ofW (cc := cX12_isSaferCouple) (maxL := 5) (ret := (some .boolean)) (by decide) rfl ?_
  intro p e s m aa below meth c s₁ B hml hv
  obtain ⟨haa, hsz, hP, hK, hD0⟩ := hv
  have hx := B.exec
  have hb := B.bytes
  have hr := B.returns
  have hts := atoms_spec (ws := wsX12_isSaferCouple) B.pre
  have hown : s.vm.findClass RX12 = some m.cls := findClass_of_methodNamed B.named
  have hlocks := B.notSynchronized
  subst hsz
  have hD := hD0.self (sz := s.heap.size)
  obtain ⟨qq, hqq⟩ : ∃ qq, qq = (va_Qi (fun (r : Int32) (_ : Unit) => r = R0) (fun (_ : Unit) t => poC dC dI cy (w_X12_isSaferCouple cy a0 gg gvn gdn gne) t) (va_A (w_X12_isSaferCouple cy a0 gg gvn gdn gne) s.heap.size)) := ⟨_, rfl⟩
  rw [← hqq]
  generalize hAe : va_A (w_X12_isSaferCouple cy a0 gg gvn gdn gne) s.heap.size = A at hD hqq ⊢
  have hA : ∀ q : Nat, s.heap.size ≤ q → A q := fun q h => by rw [← hAe]; exact Or.inr h
  have hS : va_S A s.heap s.heap [] := va_S.rf
  have hl := lv_entry ([.ref (a0 0), .int x1, .int x2, .int x3, .int x4]) (n := 5) (Nat.le_of_ble_eq_true rfl)
  have hE : entryFrame m aa 5 = F0 m 0 ((lg_sl ([.ref (a0 0), .int x1, .int x2, .int x3, .int x4]) ++ List.replicate (5 - (lg_sl ([.ref (a0 0), .int x1, .int x2, .int x3, .int x4])).length) Slot.unset).toArray) [] := by rw [haa]; exact lg_entry_eq m _ 5
  refine W.eq hE ?_
  generalize (lg_sl ([.ref (a0 0), .int x1, .int x2, .int x3, .int x4]) ++ List.replicate (5 - (lg_sl ([.ref (a0 0), .int x1, .int x2, .int x3, .int x4])).length) Slot.unset).toArray = ls at hl ⊢
  have hl : lv_has ls 5 [(0, .ref (a0 0)), (1, .int x1), (2, .int x2), (3, .int x3), (4, .int x4)] := hl
  change W p l e rm_X12_isSaferCouple s m aa below meth c s.heap [] 0 0 (MQ below qq aa s 0 0 A) (F0 m 0 ls [])
  have hS0 := hS
  obtain ⟨H, hH⟩ : ∃ H : Heap, H = s.heap := ⟨_, rfl⟩
  obtain ⟨locs, hlocs⟩ : ∃ locs : List Loc, locs = [] := ⟨_, rfl⟩
  have hS : va_S A s.heap H locs := by rw [hH, hlocs]; exact hS
  rw [← hH] at hP
  suffices hg : W p l e rm_X12_isSaferCouple s m aa below meth c H locs 0 0 (MQ below qq aa s 0 0 A) (F0 m 0 ls []) by subst hH; subst hlocs; exact hg
  unfold p_X12_isSaferCouple at h
  refine lv_aload_n hx hb dX12_isSaferCouple_0 rfl (lv_at hl 0 rfl) ?_
  refine lv_iload_n hx hb dX12_isSaferCouple_1 rfl (lv_at hl 1 rfl) ?_
  refine lv_iload_n hx hb dX12_isSaferCouple_2 rfl (lv_at hl 2 rfl) ?_
  obtain ⟨v1, hv2, h⟩ := ok_bind h
  refine cl_vi (w2 := fun (_ : Unit) => w_X12_isSaferCouple cy a0 gg gvn gdn gne) (As := [.int x1, .int x2]) (rest := []) ⟨hx, hb, hml, hown, hts⟩ (c_X12_areOwedApart l dC dI cy a0 gg gvn gdn x1 x2 H.size v1 hv2) (cwV 2 hts gX12_isSaferCouple_X12_areOwedApart rfl rfl rfl (by decide +kernel) ⟨Nat.le_of_ble_eq_true rfl, Nat.le_of_ble_eq_true rfl⟩) (va_recv hK hP (ci := 10) (q0 := 0) rfl rfl) cl_blind (cl_pre hK hP hD [0, 1, 2, 3, 4, 5, 6] (by decide) rfl) hP hD hS hA [0, 1, 2, 3, 4, 5, 6] rfl rfl hl.1 rfl (lv_room (Nat.le_of_ble_eq_true rfl)) dX12_isSaferCouple_3 ⟨Nat.le_of_ble_eq_true rfl, Nat.le_of_ble_eq_true rfl⟩ ⟨rfl, rfl⟩ (fun _ => updR [0, 1, 2, 3, 4, 5, 6] rfl) (fun r u H locs hw hP hD hS => ?_)
  have hw := hw.symm
  subst hw
  have hP : va_P (dC, dI) vwCl (w_X12_isSaferCouple cy a0 gg gvn gdn gne) H := hP
  have hD : va_D A (w_X12_isSaferCouple cy a0 gg gvn gdn gne) := hD
  refine lv_if_eq (tgt := 37) hx hb dX12_isSaferCouple_6 (by decide) (fun c3 => ?_) (fun c3 => ?_)
  · rw [if_pos c3] at h
    refine lv_iconst (v := (0 : Int32)) hx hb dX12_isSaferCouple_37 (by decide) ?_
    exact W.zret (v := (0 : Int32)) (ty := .boolean) hx hb hr rfl (fun t ht hW => by rw [hqq]; have hh := Option.some.inj h; exact ⟨⟨(0 : Int32), (()), rfl, Option.some.inj h, by rw [ht]; exact hP, va_K.moved hW.alike hK⟩, hS.F ht⟩) hS.2.2 dX12_isSaferCouple_38
  · rw [if_neg c3] at h
    refine lv_aload_n hx hb dX12_isSaferCouple_9 rfl (lv_at hl 0 rfl) ?_
    refine lv_iload_n hx hb dX12_isSaferCouple_10 rfl (lv_at hl 2 rfl) ?_
    refine lv_iload_n hx hb dX12_isSaferCouple_11 rfl (lv_at hl 1 rfl) ?_
    refine lv_iload_n hx hb dX12_isSaferCouple_12 rfl (lv_at hl 3 rfl) ?_
    refine lv_iload hx hb dX12_isSaferCouple_13 (lv_at hl 4 rfl) ?_
    obtain ⟨v4, hv5, h⟩ := ok_bind h
    refine cl_vi (w2 := fun (_ : Unit) => w_X12_isSaferCouple cy a0 gg gvn gdn gne) (As := [.int x2, .int x1, .int x3, .int x4]) (rest := []) ⟨hx, hb, hml, hown, hts⟩ (c_X12_eases l dC dI cy a0 gg gvn gdn gne x2 x1 x3 x4 H.size v4 hv5) (cwV 4 hts gX12_isSaferCouple_X12_eases rfl rfl rfl (by decide +kernel) ⟨Nat.le_of_ble_eq_true rfl, Nat.le_of_ble_eq_true rfl⟩) (va_recv hK hP (ci := 10) (q0 := 0) rfl rfl) cl_blind (cl_pre hK hP hD [0, 1, 2, 3, 4, 5, 6, 7, 8, 9, 10, 11, 12, 13, 14, 15, 16, 17, 18, 19, 20, 21, 22, 23, 24] (by decide) rfl) hP hD hS hA [0, 1, 2, 3, 4, 5, 6, 7, 8, 9, 10, 11, 12, 13, 14, 15, 16, 17, 18, 19, 20, 21, 22, 23, 24] rfl rfl hl.1 rfl (lv_room (Nat.le_of_ble_eq_true rfl)) dX12_isSaferCouple_15 ⟨Nat.le_of_ble_eq_true rfl, Nat.le_of_ble_eq_true rfl⟩ ⟨rfl, rfl⟩ (fun _ => updR [0, 1, 2, 3, 4, 5, 6, 7, 8, 9, 10, 11, 12, 13, 14, 15, 16, 17, 18, 19, 20, 21, 22, 23, 24] rfl) (fun r u H locs hw hP hD hS => ?_)
    have hw := hw.symm
    subst hw
    have hP : va_P (dC, dI) vwCl (w_X12_isSaferCouple cy a0 gg gvn gdn gne) H := hP
    have hD : va_D A (w_X12_isSaferCouple cy a0 gg gvn gdn gne) := hD
    refine lv_if_eq (tgt := 37) hx hb dX12_isSaferCouple_18 (by decide) (fun c6 => ?_) (fun c6 => ?_)
    · rw [if_pos c6] at h
      refine lv_iconst (v := (0 : Int32)) hx hb dX12_isSaferCouple_37 (by decide) ?_
      exact W.zret (v := (0 : Int32)) (ty := .boolean) hx hb hr rfl (fun t ht hW => by rw [hqq]; have hh := Option.some.inj h; exact ⟨⟨(0 : Int32), (()), rfl, Option.some.inj h, by rw [ht]; exact hP, va_K.moved hW.alike hK⟩, hS.F ht⟩) hS.2.2 dX12_isSaferCouple_38
    · rw [if_neg c6] at h
      refine lv_aload_n hx hb dX12_isSaferCouple_21 rfl (lv_at hl 0 rfl) ?_
      refine lv_iload_n hx hb dX12_isSaferCouple_22 rfl (lv_at hl 1 rfl) ?_
      refine lv_iload_n hx hb dX12_isSaferCouple_23 rfl (lv_at hl 2 rfl) ?_
      refine lv_iload_n hx hb dX12_isSaferCouple_24 rfl (lv_at hl 3 rfl) ?_
      refine lv_iload hx hb dX12_isSaferCouple_25 (lv_at hl 4 rfl) ?_
      obtain ⟨v7, hv8, h⟩ := ok_bind h
      refine cl_vi (w2 := fun (_ : Unit) => w_X12_isSaferCouple cy a0 gg gvn gdn gne) (As := [.int x1, .int x2, .int x3, .int x4]) (rest := []) ⟨hx, hb, hml, hown, hts⟩ (c_X12_eases l dC dI cy a0 gg gvn gdn gne x1 x2 x3 x4 H.size v7 hv8) (cwV 4 hts gX12_isSaferCouple_X12_eases rfl rfl rfl (by decide +kernel) ⟨Nat.le_of_ble_eq_true rfl, Nat.le_of_ble_eq_true rfl⟩) (va_recv hK hP (ci := 10) (q0 := 0) rfl rfl) cl_blind (cl_pre hK hP hD [0, 1, 2, 3, 4, 5, 6, 7, 8, 9, 10, 11, 12, 13, 14, 15, 16, 17, 18, 19, 20, 21, 22, 23, 24] (by decide) rfl) hP hD hS hA [0, 1, 2, 3, 4, 5, 6, 7, 8, 9, 10, 11, 12, 13, 14, 15, 16, 17, 18, 19, 20, 21, 22, 23, 24] rfl rfl hl.1 rfl (lv_room (Nat.le_of_ble_eq_true rfl)) dX12_isSaferCouple_27 ⟨Nat.le_of_ble_eq_true rfl, Nat.le_of_ble_eq_true rfl⟩ ⟨rfl, rfl⟩ (fun _ => updR [0, 1, 2, 3, 4, 5, 6, 7, 8, 9, 10, 11, 12, 13, 14, 15, 16, 17, 18, 19, 20, 21, 22, 23, 24] rfl) (fun r u H locs hw hP hD hS => ?_)
      have hw := hw.symm
      subst hw
      have hP : va_P (dC, dI) vwCl (w_X12_isSaferCouple cy a0 gg gvn gdn gne) H := hP
      have hD : va_D A (w_X12_isSaferCouple cy a0 gg gvn gdn gne) := hD
      refine lv_if_eq (tgt := 37) hx hb dX12_isSaferCouple_30 (by decide) (fun c9 => ?_) (fun c9 => ?_)
      · rw [if_pos c9] at h
        refine lv_iconst (v := (0 : Int32)) hx hb dX12_isSaferCouple_37 (by decide) ?_
        exact W.zret (v := (0 : Int32)) (ty := .boolean) hx hb hr rfl (fun t ht hW => by rw [hqq]; have hh := Option.some.inj h; exact ⟨⟨(0 : Int32), (()), rfl, Option.some.inj h, by rw [ht]; exact hP, va_K.moved hW.alike hK⟩, hS.F ht⟩) hS.2.2 dX12_isSaferCouple_38
      · rw [if_neg c9] at h
        refine lv_iconst (v := (1 : Int32)) hx hb dX12_isSaferCouple_33 (by decide) ?_
        refine lv_goto (tgt := 38) hx hb dX12_isSaferCouple_34 (by decide) ?_
        exact W.zret (v := (1 : Int32)) (ty := .boolean) hx hb hr rfl (fun t ht hW => by rw [hqq]; have hh := Option.some.inj h; exact ⟨⟨(1 : Int32), (()), rfl, Option.some.inj h, by rw [ht]; exact hP, va_K.moved hW.alike hK⟩, hS.F ht⟩) hS.2.2 dX12_isSaferCouple_38

abbrev w_X12_saferCouples (cy : Nat → ClassId) (a0 : Nat → Nat) (gg : Int32 × Int32 × Int32 × Int32 × Int32 × Int32) (gvn : Int32 × Int32 × (Nat → Int32) × (Nat → Int32) × (Nat → Int32) × (Nat → Int32) × (Nat → Int32)) (gdn : Int32 × Int32 × (Nat → Int32) × (Nat → Int32) × (Nat → Int32) × (Nat → Int32)) (gne : (Nat → Nat → Int32) × (Nat → Nat → Int64)) : va_W := [(a0 0, .inr (10, [.ref (a0 1), .int (gg.1), .int (gg.2.1), .int (gg.2.2.1), .int (gg.2.2.2.1), .int (gg.2.2.2.2.1), .ref (a0 2), .ref (a0 17), .ref (a0 32), .int (gg.2.2.2.2.2), .ref (a0 47), .ref (a0 48), .ref (a0 49), .ref (a0 50), .ref (a0 68), .ref (a0 78), .ref (a0 80)])), (a0 2, .inr (7, [.int (gvn.1), .int (gvn.2.1), .ref (a0 3), .ref (a0 8), .ref (a0 12), .ref (a0 13), .ref (a0 14), .ref (a0 15), .ref (a0 16)])), (a0 3, .inr (2, [.int (gdn.1), .int (gdn.2.1), .ref (a0 4), .ref (a0 5), .ref (a0 6), .ref (a0 7)])), (a0 4, .inl (cy 1, 10, .inl (gdn.2.2.1))), (a0 5, .inl (cy 1, 10, .inl (gdn.2.2.2.1))), (a0 6, .inl (cy 1, 10, .inl (gdn.2.2.2.2.1))), (a0 7, .inl (cy 1, 50, .inl (gdn.2.2.2.2.2))), (a0 50, .inr (4, [.ref (a0 51), .ref (a0 62)])), (a0 51, .inl (cy 3, 10, .inr (.inr (.inr (.inr (fun i => some ([a0 52, a0 53, a0 54, a0 55, a0 56, a0 57, a0 58, a0 59, a0 60, a0 61].getD i 0))))))), (a0 52, .inl (cy 1, 41, .inl (gne.1 0))), (a0 53, .inl (cy 1, 41, .inl (gne.1 1))), (a0 54, .inl (cy 1, 41, .inl (gne.1 2))), (a0 55, .inl (cy 1, 41, .inl (gne.1 3))), (a0 56, .inl (cy 1, 41, .inl (gne.1 4))), (a0 57, .inl (cy 1, 41, .inl (gne.1 5))), (a0 58, .inl (cy 1, 41, .inl (gne.1 6))), (a0 59, .inl (cy 1, 41, .inl (gne.1 7))), (a0 60, .inl (cy 1, 41, .inl (gne.1 8))), (a0 61, .inl (cy 1, 41, .inl (gne.1 9))), (a0 62, .inl (cy 4, 5, .inr (.inr (.inr (.inr (fun i => some ([a0 63, a0 64, a0 65, a0 66, a0 67].getD i 0))))))), (a0 63, .inl (cy 2, 41, .inr (.inl (gne.2 0)))), (a0 64, .inl (cy 2, 41, .inr (.inl (gne.2 1)))), (a0 65, .inl (cy 2, 41, .inr (.inl (gne.2 2)))), (a0 66, .inl (cy 2, 41, .inr (.inl (gne.2 3)))), (a0 67, .inl (cy 2, 41, .inr (.inl (gne.2 4))))]
abbrev rm_X12_saferCouples : Room := { frames := 6, cells := 0, slots := 0, locals := 150 }
set_option maxHeartbeats 1000000 in
set_option maxRecDepth 100000 in
theorem c_X12_saferCouples (l : Launch) (dC : Nat → ClassId) (dI : Nat → Nat → Nat) (cy : Nat → ClassId) (a0 : Nat → Nat) (gg : Int32 × Int32 × Int32 × Int32 × Int32 × Int32) (gvn : Int32 × Int32 × (Nat → Int32) × (Nat → Int32) × (Nat → Int32) × (Nat → Int32) × (Nat → Int32)) (gdn : Int32 × Int32 × (Nat → Int32) × (Nat → Int32) × (Nat → Int32) × (Nat → Int32)) (gne : (Nat → Nat → Int32) × (Nat → Nat → Int64)) (x1 : Int32) (x2 : Int32) (x3 : Int32) (sz : Nat) (R0 : Int32) (h : p_X12_saferCouples gdn gne x1 x2 x3 = some R0) : Met l yX12_saferCouples wsX12_saferCouples rm_X12_saferCouples (va_Pc [.ref (a0 0), .int x1, .int x2, .int x3] (prC dC dI cy (w_X12_saferCouples cy a0 gg gvn gdn gne) sz)) (va_Qi (fun (r : Int32) (_ : Unit) => r = R0) (fun (_ : Unit) t => poC dC dI cy (w_X12_saferCouples cy a0 gg gvn gdn gne) t) (va_A (w_X12_saferCouples cy a0 gg gvn gdn gne) sz)) 0 0 (va_A (w_X12_saferCouples cy a0 gg gvn gdn gne) sz) := by
  refine Met.ofW (cc := cX12_saferCouples) (maxL := 7) (ret := (some .int)) (by decide) rfl ?_
  intro p e s m aa below meth c s₁ B hml hv
  obtain ⟨haa, hsz, hP, hK, hD0⟩ := hv
  have hx := B.exec
  have hb := B.bytes
  have hr := B.returns
  have hts := atoms_spec (ws := wsX12_saferCouples) B.pre
  have hown : s.vm.findClass RX12 = some m.cls := findClass_of_methodNamed B.named
  have hlocks := B.notSynchronized
  subst hsz
  have hD := hD0.self (sz := s.heap.size)
  obtain ⟨qq, hqq⟩ : ∃ qq, qq = (va_Qi (fun (r : Int32) (_ : Unit) => r = R0) (fun (_ : Unit) t => poC dC dI cy (w_X12_saferCouples cy a0 gg gvn gdn gne) t) (va_A (w_X12_saferCouples cy a0 gg gvn gdn gne) s.heap.size)) := ⟨_, rfl⟩
  rw [← hqq]
  generalize hAe : va_A (w_X12_saferCouples cy a0 gg gvn gdn gne) s.heap.size = A at hD hqq ⊢
  have hA : ∀ q : Nat, s.heap.size ≤ q → A q := fun q h => by rw [← hAe]; exact Or.inr h
  have hS : va_S A s.heap s.heap [] := va_S.rf
  have hl := lv_entry ([.ref (a0 0), .int x1, .int x2, .int x3]) (n := 7) (Nat.le_of_ble_eq_true rfl)
  have hE : entryFrame m aa 7 = F0 m 0 ((lg_sl ([.ref (a0 0), .int x1, .int x2, .int x3]) ++ List.replicate (7 - (lg_sl ([.ref (a0 0), .int x1, .int x2, .int x3])).length) Slot.unset).toArray) [] := by rw [haa]; exact lg_entry_eq m _ 7
  refine W.eq hE ?_
  generalize (lg_sl ([.ref (a0 0), .int x1, .int x2, .int x3]) ++ List.replicate (7 - (lg_sl ([.ref (a0 0), .int x1, .int x2, .int x3])).length) Slot.unset).toArray = ls at hl ⊢
  have hl : lv_has ls 7 [(0, .ref (a0 0)), (1, .int x1), (2, .int x2), (3, .int x3)] := hl
  change W p l e rm_X12_saferCouples s m aa below meth c s.heap [] 0 0 (MQ below qq aa s 0 0 A) (F0 m 0 ls [])
  have hS0 := hS
  have c55 : ∀ (k6 : Int32 → Int32 → Int32 → Int32 → Int32 → Option (Int32)) (hk6 : ∀ (x1 : Int32) (x2 : Int32) (x3 : Int32) (x4 : Int32) (x5 : Int32) (H : Heap) (locs : List Loc) (ls : Array Slot), k6 x1 x2 x3 x4 x5 = some R0 → va_P (dC, dI) vwCl (w_X12_saferCouples cy a0 gg gvn gdn gne) H → va_D A (w_X12_saferCouples cy a0 gg gvn gdn gne) → va_S A s.heap H locs → lv_has ls 7 [(0, .ref (a0 0)), (1, .int x1), (2, .int x2), (3, .int x3), (4, .int x4), (5, .int x5)] → W p l e rm_X12_saferCouples s m aa below meth c H locs 0 0 (MQ below qq aa s 0 0 A) (F0 m 6 ls [])) (k19 : Int32 → Int32 → Int32 → Int32 → Int32 → Int32 → Option (Int32)) (hk19 : ∀ (x1 : Int32) (x2 : Int32) (x3 : Int32) (x4 : Int32) (x5 : Int32) (x6 : Int32) (H : Heap) (locs : List Loc) (ls : Array Slot), k19 x1 x2 x3 x4 x5 x6 = some R0 → va_P (dC, dI) vwCl (w_X12_saferCouples cy a0 gg gvn gdn gne) H → va_D A (w_X12_saferCouples cy a0 gg gvn gdn gne) → va_S A s.heap H locs → lv_has ls 7 [(0, .ref (a0 0)), (1, .int x1), (2, .int x2), (3, .int x3), (4, .int x4), (5, .int x5), (6, .int x6)] → W p l e rm_X12_saferCouples s m aa below meth c H locs 0 0 (MQ below qq aa s 0 0 A) (F0 m 19 ls [])), ∀ (x1 : Int32) (x2 : Int32) (x3 : Int32) (x4 : Int32) (x5 : Int32) (x6 : Int32) (H : Heap) (locs : List Loc) (ls : Array Slot), p_X12_saferCouples_55 k6 k19 gdn gne x1 x2 x3 x4 x5 x6 = some R0 → va_P (dC, dI) vwCl (w_X12_saferCouples cy a0 gg gvn gdn gne) H → va_D A (w_X12_saferCouples cy a0 gg gvn gdn gne) → va_S A s.heap H locs → lv_has ls 7 [(0, .ref (a0 0)), (1, .int x1), (2, .int x2), (3, .int x3), (4, .int x4), (5, .int x5), (6, .int x6)] → W p l e rm_X12_saferCouples s m aa below meth c H locs 0 0 (MQ below qq aa s 0 0 A) (F0 m 55 ls []) := by
    intro k6 hk6 k19 hk19 x1 x2 x3 x4 x5 x6 H locs ls h hP hD hS hl
    unfold p_X12_saferCouples_55 at h
    refine lv_iinc (v := (x6 + (1 : Int32))) (lv' := [(6, .int (x6 + (1 : Int32))), (0, .ref (a0 0)), (1, .int x1), (2, .int x2), (3, .int x3), (4, .int x4), (5, .int x5)]) hx hb dX12_saferCouples_55 hl (k := 6) rfl rfl (by decide) rfl (fun ls hl => ?_)
    refine lv_goto (tgt := 19) hx hb dX12_saferCouples_58 (by decide) ?_
    exact hk19 x1 x2 x3 x4 x5 (x6 + (1 : Int32)) H locs ls h hP hD hS (lv_sub hl [1, 2, 3, 4, 5, 6, 0] rfl)
  have c19 : ∀ (k6 : Int32 → Int32 → Int32 → Int32 → Int32 → Option (Int32)) (hk6 : ∀ (x1 : Int32) (x2 : Int32) (x3 : Int32) (x4 : Int32) (x5 : Int32) (H : Heap) (locs : List Loc) (ls : Array Slot), k6 x1 x2 x3 x4 x5 = some R0 → va_P (dC, dI) vwCl (w_X12_saferCouples cy a0 gg gvn gdn gne) H → va_D A (w_X12_saferCouples cy a0 gg gvn gdn gne) → va_S A s.heap H locs → lv_has ls 7 [(0, .ref (a0 0)), (1, .int x1), (2, .int x2), (3, .int x3), (4, .int x4), (5, .int x5)] → W p l e rm_X12_saferCouples s m aa below meth c H locs 0 0 (MQ below qq aa s 0 0 A) (F0 m 6 ls [])) (n : Nat), ∀ (x1 : Int32) (x2 : Int32) (x3 : Int32) (x4 : Int32) (x5 : Int32) (x6 : Int32) (H : Heap) (locs : List Loc) (ls : Array Slot), p_X12_saferCouples_19 k6 gdn gne n x1 x2 x3 x4 x5 x6 = some R0 → va_P (dC, dI) vwCl (w_X12_saferCouples cy a0 gg gvn gdn gne) H → va_D A (w_X12_saferCouples cy a0 gg gvn gdn gne) → va_S A s.heap H locs → lv_has ls 7 [(0, .ref (a0 0)), (1, .int x1), (2, .int x2), (3, .int x3), (4, .int x4), (5, .int x5), (6, .int x6)] → W p l e rm_X12_saferCouples s m aa below meth c H locs 0 0 (MQ below qq aa s 0 0 A) (F0 m 19 ls []) := by
    intro k6 hk6 n
    induction n with
    | zero => intro x1 x2 x3 x4 x5 x6 H locs ls h; exact no_some h
    | succ n ih =>
      intro x1 x2 x3 x4 x5 x6 H locs ls h hP hD hS hl
      rw [p_X12_saferCouples_19.eq_2] at h
      refine lv_iload hx hb dX12_saferCouples_19 (lv_at hl 6 rfl) ?_
      refine lv_bipush (v := (10 : Int32)) hx hb dX12_saferCouples_21 (by decide) ?_
      refine lv_icmp_ge (tgt := 61) hx hb dX12_saferCouples_23 (by decide) (fun c1 => ?_) (fun c1 => ?_)
      · rw [if_pos c1] at h
        refine lv_iinc (v := (x5 + (1 : Int32))) (lv' := [(5, .int (x5 + (1 : Int32))), (0, .ref (a0 0)), (1, .int x1), (2, .int x2), (3, .int x3), (4, .int x4), (6, .int x6)]) hx hb dX12_saferCouples_61 hl (k := 5) rfl rfl (by decide) rfl (fun ls hl => ?_)
        refine lv_goto (tgt := 6) hx hb dX12_saferCouples_64 (by decide) ?_
        exact hk6 x1 x2 x3 x4 (x5 + (1 : Int32)) H locs ls h hP hD hS (lv_sub hl [1, 2, 3, 4, 5, 0] rfl)
      · rw [if_neg c1] at h
        refine lv_aload_n hx hb dX12_saferCouples_26 rfl (lv_at hl 0 rfl) ?_
        refine lv_iload hx hb dX12_saferCouples_27 (lv_at hl 5 rfl) ?_
        refine lv_iload hx hb dX12_saferCouples_29 (lv_at hl 6 rfl) ?_
        refine lv_iload_n hx hb dX12_saferCouples_31 rfl (lv_at hl 1 rfl) ?_
        refine lv_iload_n hx hb dX12_saferCouples_32 rfl (lv_at hl 2 rfl) ?_
        obtain ⟨v2, hv3, h⟩ := ok_bind h
        refine cl_vi (w2 := fun (_ : Unit) => w_X12_saferCouples cy a0 gg gvn gdn gne) (As := [.int x5, .int x6, .int x1, .int x2]) (rest := []) ⟨hx, hb, hml, hown, hts⟩ (c_X12_isSaferCouple l dC dI cy a0 gg gvn gdn gne x5 x6 x1 x2 H.size v2 hv3) (cwV 4 hts gX12_saferCouples_X12_isSaferCouple rfl rfl rfl (by decide +kernel) ⟨Nat.le_of_ble_eq_true rfl, Nat.le_of_ble_eq_true rfl⟩) (va_recv hK hP (ci := 10) (q0 := 0) rfl rfl) cl_blind (cl_pre hK hP hD [0, 1, 2, 3, 4, 5, 6, 7, 8, 9, 10, 11, 12, 13, 14, 15, 16, 17, 18, 19, 20, 21, 22, 23, 24] (by decide) rfl) hP hD hS hA [0, 1, 2, 3, 4, 5, 6, 7, 8, 9, 10, 11, 12, 13, 14, 15, 16, 17, 18, 19, 20, 21, 22, 23, 24] rfl rfl hl.1 rfl (lv_room (Nat.le_of_ble_eq_true rfl)) dX12_saferCouples_33 ⟨Nat.le_of_ble_eq_true rfl, Nat.le_of_ble_eq_true rfl⟩ ⟨rfl, rfl⟩ (fun _ => updR [0, 1, 2, 3, 4, 5, 6, 7, 8, 9, 10, 11, 12, 13, 14, 15, 16, 17, 18, 19, 20, 21, 22, 23, 24] rfl) (fun r u H locs hw hP hD hS => ?_)
        have hw := hw.symm
        subst hw
        have hP : va_P (dC, dI) vwCl (w_X12_saferCouples cy a0 gg gvn gdn gne) H := hP
        have hD : va_D A (w_X12_saferCouples cy a0 gg gvn gdn gne) := hD
        refine lv_if_eq (tgt := 55) hx hb dX12_saferCouples_36 (by decide) (fun c4 => ?_) (fun c4 => ?_)
        · rw [if_pos c4] at h
          exact c55 k6 hk6 (p_X12_saferCouples_19 k6 gdn gne n) ih x1 x2 x3 x4 x5 x6 H locs ls h hP hD hS (lv_sub hl [0, 1, 2, 3, 4, 5, 6] rfl)
        · rw [if_neg c4] at h
          refine lv_iload_n hx hb dX12_saferCouples_39 rfl (lv_at hl 3 rfl) ?_
          refine lv_if_ne (tgt := 52) hx hb dX12_saferCouples_40 (by decide) (fun c5 => ?_) (fun c5 => ?_)
          · rw [if_neg c5] at h
            refine lv_iinc (v := (x4 + (1 : Int32))) (lv' := [(4, .int (x4 + (1 : Int32))), (0, .ref (a0 0)), (1, .int x1), (2, .int x2), (3, .int x3), (5, .int x5), (6, .int x6)]) hx hb dX12_saferCouples_52 hl (k := 4) rfl rfl (by decide) rfl (fun ls hl => ?_)
            exact c55 k6 hk6 (p_X12_saferCouples_19 k6 gdn gne n) ih x1 x2 x3 (x4 + (1 : Int32)) x5 x6 H locs ls h hP hD hS (lv_sub hl [1, 2, 3, 4, 0, 5, 6] rfl)
          · rw [if_pos c5] at h
            refine lv_bipush (v := (16 : Int32)) hx hb dX12_saferCouples_43 (by decide) ?_
            refine lv_iload hx hb dX12_saferCouples_45 (lv_at hl 5 rfl) ?_
            refine lv_imul hx hb dX12_saferCouples_47 ?_
            refine lv_iload hx hb dX12_saferCouples_48 (lv_at hl 6 rfl) ?_
            refine lv_iadd hx hb dX12_saferCouples_50 ?_
            exact W.iret (v := (((16 : Int32) * x5) + x6)) hx hb hr (fun t ht hW => by rw [hqq]; have hh := Option.some.inj h; exact ⟨⟨(((16 : Int32) * x5) + x6), (()), rfl, Option.some.inj h, by rw [ht]; exact hP, va_K.moved hW.alike hK⟩, hS.F ht⟩) hS.2.2 dX12_saferCouples_51
  have c6 : ∀ (n : Nat), ∀ (x1 : Int32) (x2 : Int32) (x3 : Int32) (x4 : Int32) (x5 : Int32) (H : Heap) (locs : List Loc) (ls : Array Slot), p_X12_saferCouples_6 gdn gne n x1 x2 x3 x4 x5 = some R0 → va_P (dC, dI) vwCl (w_X12_saferCouples cy a0 gg gvn gdn gne) H → va_D A (w_X12_saferCouples cy a0 gg gvn gdn gne) → va_S A s.heap H locs → lv_has ls 7 [(0, .ref (a0 0)), (1, .int x1), (2, .int x2), (3, .int x3), (4, .int x4), (5, .int x5)] → W p l e rm_X12_saferCouples s m aa below meth c H locs 0 0 (MQ below qq aa s 0 0 A) (F0 m 6 ls []) := by
    intro  n
    induction n with
    | zero => intro x1 x2 x3 x4 x5 H locs ls h; exact no_some h
    | succ n ih =>
      intro x1 x2 x3 x4 x5 H locs ls h hP hD hS hl
      rw [p_X12_saferCouples_6.eq_2] at h
      refine lv_iload hx hb dX12_saferCouples_6 (lv_at hl 5 rfl) ?_
      refine lv_bipush (v := (10 : Int32)) hx hb dX12_saferCouples_8 (by decide) ?_
      refine lv_icmp_ge (tgt := 67) hx hb dX12_saferCouples_10 (by decide) (fun c1 => ?_) (fun c1 => ?_)
      · rw [if_pos c1] at h
        refine lv_iload_n hx hb dX12_saferCouples_67 rfl (lv_at hl 3 rfl) ?_
        refine lv_if_eq (tgt := 76) hx hb dX12_saferCouples_68 (by decide) (fun c2 => ?_) (fun c2 => ?_)
        · rw [if_pos c2] at h
          refine lv_iconst (v := (-1 : Int32)) hx hb dX12_saferCouples_76 (by decide) ?_
          exact W.iret (v := (-1 : Int32)) hx hb hr (fun t ht hW => by rw [hqq]; have hh := Option.some.inj h; exact ⟨⟨(-1 : Int32), (()), rfl, Option.some.inj h, by rw [ht]; exact hP, va_K.moved hW.alike hK⟩, hS.F ht⟩) hS.2.2 dX12_saferCouples_77
        · rw [if_neg c2] at h
          refine lv_iload hx hb dX12_saferCouples_71 (lv_at hl 4 rfl) ?_
          refine lv_goto (tgt := 77) hx hb dX12_saferCouples_73 (by decide) ?_
          exact W.iret (v := x4) hx hb hr (fun t ht hW => by rw [hqq]; have hh := Option.some.inj h; exact ⟨⟨x4, (()), rfl, Option.some.inj h, by rw [ht]; exact hP, va_K.moved hW.alike hK⟩, hS.F ht⟩) hS.2.2 dX12_saferCouples_77
      · rw [if_neg c1] at h
        refine lv_iload hx hb dX12_saferCouples_13 (lv_at hl 5 rfl) ?_
        refine lv_iconst (v := (1 : Int32)) hx hb dX12_saferCouples_15 (by decide) ?_
        refine lv_iadd hx hb dX12_saferCouples_16 ?_
        refine lv_istore (lv' := [(6, .int (x5 + (1 : Int32))), (0, .ref (a0 0)), (1, .int x1), (2, .int x2), (3, .int x3), (4, .int x4), (5, .int x5)]) hx hb dX12_saferCouples_17 hl (by decide) rfl (fun ls hl => ?_)
        exact c19 (p_X12_saferCouples_6 gdn gne n) ih fu x1 x2 x3 x4 x5 (x5 + (1 : Int32)) H locs ls h hP hD hS (lv_sub hl [1, 2, 3, 4, 5, 6, 0] rfl)
  obtain ⟨H, hH⟩ : ∃ H : Heap, H = s.heap := ⟨_, rfl⟩
  obtain ⟨locs, hlocs⟩ : ∃ locs : List Loc, locs = [] := ⟨_, rfl⟩
  have hS : va_S A s.heap H locs := by rw [hH, hlocs]; exact hS
  rw [← hH] at hP
  suffices hg : W p l e rm_X12_saferCouples s m aa below meth c H locs 0 0 (MQ below qq aa s 0 0 A) (F0 m 0 ls []) by subst hH; subst hlocs; exact hg
  unfold p_X12_saferCouples at h
  refine lv_iconst (v := (0 : Int32)) hx hb dX12_saferCouples_0 (by decide) ?_
  refine lv_istore (lv' := [(4, .int (0 : Int32)), (0, .ref (a0 0)), (1, .int x1), (2, .int x2), (3, .int x3)]) hx hb dX12_saferCouples_1 hl (by decide) rfl (fun ls hl => ?_)
  refine lv_iconst (v := (0 : Int32)) hx hb dX12_saferCouples_3 (by decide) ?_
  refine lv_istore (lv' := [(5, .int (0 : Int32)), (4, .int (0 : Int32)), (0, .ref (a0 0)), (1, .int x1), (2, .int x2), (3, .int x3)]) hx hb dX12_saferCouples_4 hl (by decide) rfl (fun ls hl => ?_)
  exact c6 fu x1 x2 x3 (0 : Int32) (0 : Int32) H locs ls h hP hD hS (lv_sub hl [2, 3, 4, 5, 1, 0] rfl)

abbrev w_X12_safer (cy : Nat → ClassId) (a0 : Nat → Nat) (gg : Int32 × Int32 × Int32 × Int32 × Int32 × Int32) (gvn : Int32 × Int32 × (Nat → Int32) × (Nat → Int32) × (Nat → Int32) × (Nat → Int32) × (Nat → Int32)) (gdn : Int32 × Int32 × (Nat → Int32) × (Nat → Int32) × (Nat → Int32) × (Nat → Int32)) (gne : (Nat → Nat → Int32) × (Nat → Nat → Int64)) : va_W := [(a0 0, .inr (10, [.ref (a0 1), .int (gg.1), .int (gg.2.1), .int (gg.2.2.1), .int (gg.2.2.2.1), .int (gg.2.2.2.2.1), .ref (a0 2), .ref (a0 17), .ref (a0 32), .int (gg.2.2.2.2.2), .ref (a0 47), .ref (a0 48), .ref (a0 49), .ref (a0 50), .ref (a0 68), .ref (a0 78), .ref (a0 80)])), (a0 2, .inr (7, [.int (gvn.1), .int (gvn.2.1), .ref (a0 3), .ref (a0 8), .ref (a0 12), .ref (a0 13), .ref (a0 14), .ref (a0 15), .ref (a0 16)])), (a0 3, .inr (2, [.int (gdn.1), .int (gdn.2.1), .ref (a0 4), .ref (a0 5), .ref (a0 6), .ref (a0 7)])), (a0 4, .inl (cy 1, 10, .inl (gdn.2.2.1))), (a0 5, .inl (cy 1, 10, .inl (gdn.2.2.2.1))), (a0 6, .inl (cy 1, 10, .inl (gdn.2.2.2.2.1))), (a0 7, .inl (cy 1, 50, .inl (gdn.2.2.2.2.2))), (a0 50, .inr (4, [.ref (a0 51), .ref (a0 62)])), (a0 51, .inl (cy 3, 10, .inr (.inr (.inr (.inr (fun i => some ([a0 52, a0 53, a0 54, a0 55, a0 56, a0 57, a0 58, a0 59, a0 60, a0 61].getD i 0))))))), (a0 52, .inl (cy 1, 41, .inl (gne.1 0))), (a0 53, .inl (cy 1, 41, .inl (gne.1 1))), (a0 54, .inl (cy 1, 41, .inl (gne.1 2))), (a0 55, .inl (cy 1, 41, .inl (gne.1 3))), (a0 56, .inl (cy 1, 41, .inl (gne.1 4))), (a0 57, .inl (cy 1, 41, .inl (gne.1 5))), (a0 58, .inl (cy 1, 41, .inl (gne.1 6))), (a0 59, .inl (cy 1, 41, .inl (gne.1 7))), (a0 60, .inl (cy 1, 41, .inl (gne.1 8))), (a0 61, .inl (cy 1, 41, .inl (gne.1 9))), (a0 62, .inl (cy 4, 5, .inr (.inr (.inr (.inr (fun i => some ([a0 63, a0 64, a0 65, a0 66, a0 67].getD i 0))))))), (a0 63, .inl (cy 2, 41, .inr (.inl (gne.2 0)))), (a0 64, .inl (cy 2, 41, .inr (.inl (gne.2 1)))), (a0 65, .inl (cy 2, 41, .inr (.inl (gne.2 2)))), (a0 66, .inl (cy 2, 41, .inr (.inl (gne.2 3)))), (a0 67, .inl (cy 2, 41, .inr (.inl (gne.2 4))))]
abbrev rm_X12_safer : Room := { frames := 7, cells := 2, slots := 12, locals := 178 }
set_option maxHeartbeats 1000000 in
set_option maxRecDepth 100000 in
theorem c_X12_safer (l : Launch) (dC : Nat → ClassId) (dI : Nat → Nat → Nat) (cy : Nat → ClassId) (z : Nat → Nat) (hl9 : l.stackTraces = false) (a0 : Nat → Nat) (gg : Int32 × Int32 × Int32 × Int32 × Int32 × Int32) (gvn : Int32 × Int32 × (Nat → Int32) × (Nat → Int32) × (Nat → Int32) × (Nat → Int32) × (Nat → Int32)) (gdn : Int32 × Int32 × (Nat → Int32) × (Nat → Int32) × (Nat → Int32) × (Nat → Int32)) (gne : (Nat → Nat → Int32) × (Nat → Nat → Int64)) (x1 : Int32) (x2 : Int32) (x3 : Int32) (sz : Nat) (R0 : (Int32 ⊕ Nat) × (((Nat → Nat → Int32) × (Nat → Nat → Int64)))) (h : p_X12_safer gdn gne x1 x2 x3 = some R0) : vx_Met l yX12_safer wsX12_safer rm_X12_safer (va_Pc [.ref (a0 0), .int x1, .int x2, .int x3] (prS dC dI cy z (w_X12_safer cy a0 gg gvn gdn gne) sz)) (va_Qi (fun (r : Int32) (u : ((Nat → Nat → Int32) × (Nat → Nat → Int64))) => Sum.inl r = R0.1 ∧ u = R0.2) (fun (u : ((Nat → Nat → Int32) × (Nat → Nat → Int64))) t => poC dC dI cy (w_X12_safer cy a0 gg gvn gdn u) t) (va_A (w_X12_safer cy a0 gg gvn gdn gne) sz)) (vx_X (fun (u : ((Nat → Nat → Int32) × (Nat → Nat → Int64))) => u = R0.2) (fun E (u : ((Nat → Nat → Int32) × (Nat → Nat → Int64))) t => exE E R0.1 ∧ poC dC dI cy (w_X12_safer cy a0 gg gvn gdn u) t) (va_A (w_X12_safer cy a0 gg gvn gdn gne) sz)) 2 12 (va_A (w_X12_safer cy a0 gg gvn gdn gne) sz) := by
  refine vx_ofW (cc := cX12_safer) (maxL := 4) (ret := (some .int)) (by decide) rfl ?_
  intro p e s m aa below meth c s₁ B hml htab hv
  obtain ⟨haa, ⟨hsz, hP, hK, hD0⟩, hX⟩ := hv
  have hx := B.exec
  have hb := B.bytes
  have hr := B.returns
  have hts := atoms_spec (ws := wsX12_safer) B.pre
  have hown : s.vm.findClass RX12 = some m.cls := findClass_of_methodNamed B.named
  have hlocks := B.notSynchronized
  subst hsz
  have hD := hD0.self (sz := s.heap.size)
  obtain ⟨qq, hqq⟩ : ∃ qq, qq = (va_Qi (fun (r : Int32) (u : ((Nat → Nat → Int32) × (Nat → Nat → Int64))) => Sum.inl r = R0.1 ∧ u = R0.2) (fun (u : ((Nat → Nat → Int32) × (Nat → Nat → Int64))) t => poC dC dI cy (w_X12_safer cy a0 gg gvn gdn u) t) (va_A (w_X12_safer cy a0 gg gvn gdn gne) s.heap.size)) := ⟨_, rfl⟩
  obtain ⟨xx, hxx⟩ : ∃ xx, xx = (vx_X (fun (u : ((Nat → Nat → Int32) × (Nat → Nat → Int64))) => u = R0.2) (fun E (u : ((Nat → Nat → Int32) × (Nat → Nat → Int64))) t => exE E R0.1 ∧ poC dC dI cy (w_X12_safer cy a0 gg gvn gdn u) t) (va_A (w_X12_safer cy a0 gg gvn gdn gne) s.heap.size)) := ⟨_, rfl⟩
  rw [← hqq, ← hxx]
  generalize hAe : va_A (w_X12_safer cy a0 gg gvn gdn gne) s.heap.size = A at hD hqq hxx hX ⊢
  have hA : ∀ q : Nat, s.heap.size ≤ q → A q := fun q h => by rw [← hAe]; exact Or.inr h
  have hS : va_S A s.heap s.heap [] := va_S.rf
  have hl := lv_entry ([.ref (a0 0), .int x1, .int x2, .int x3]) (n := 4) (Nat.le_of_ble_eq_true rfl)
  have hE : entryFrame m aa 4 = F0 m 0 ((lg_sl ([.ref (a0 0), .int x1, .int x2, .int x3]) ++ List.replicate (4 - (lg_sl ([.ref (a0 0), .int x1, .int x2, .int x3])).length) Slot.unset).toArray) [] := by rw [haa]; exact lg_entry_eq m _ 4
  refine W.eq hE ?_
  generalize (lg_sl ([.ref (a0 0), .int x1, .int x2, .int x3]) ++ List.replicate (4 - (lg_sl ([.ref (a0 0), .int x1, .int x2, .int x3])).length) Slot.unset).toArray = ls at hl ⊢
  have hl : lv_has ls 4 [(0, .ref (a0 0)), (1, .int x1), (2, .int x2), (3, .int x3)] := hl
  change W p l e rm_X12_safer s m aa below meth c s.heap [] 0 0 (vx_MQ below qq xx aa s 2 12 A) (F0 m 0 ls [])
  have hS0 := hS
  have lk0 := hts (.fieldLink RX12 58 "GoatDoors" "nets" "LGoatDoors$Nets;") (by decide +kernel)
  have lk1 := hts (.fieldLink RX12 20 "GoatDoors" "now" "LGoatDoors$Village;") (by decide +kernel)
  have in_X12 : ∀ w ∈ wsX120, w ∈ wsX12_safer := by decide +kernel
  have c57 : ∀ (_u : Unit), ∀ (gne : (Nat → Nat → Int32) × (Nat → Nat → Int64)) (t1 : Int32) (t2 : Int32) (t3 : Int32) (H : Heap) (locs : List Loc) (ls : Array Slot), p_X12_safer_57 gdn gne t1 t2 t3 = some R0 → va_P (dC, dI) vwCl (w_X12_safer cy a0 gg gvn gdn gne) H → va_D A (w_X12_safer cy a0 gg gvn gdn gne) → va_S A s.heap H locs → lv_has ls 4 [] → W p l e rm_X12_safer s m aa below meth c H locs 2 12 (vx_MQ below qq xx aa s 2 12 A) (F0 m 57 ls [.int t3, .int t2, .int t1, .ref (a0 0)]) := by
    intro _ gne t1 t2 t3 H locs ls h hP hD hS hl
    unfold p_X12_safer_57 at h
    obtain ⟨v1, hv2, h⟩ := ok_bind h
    refine cl_vi (w2 := fun (_ : Unit) => w_X12_safer cy a0 gg gvn gdn gne) (As := [.int t1, .int t2, .int t3]) (rest := []) ⟨hx, hb, hml, hown, hts⟩ (c_X12_saferRings l dC dI cy a0 gg gvn gdn gne t1 t2 t3 H.size v1 hv2) (cwV 3 hts gX12_safer_X12_saferRings rfl rfl rfl (by decide +kernel) ⟨Nat.le_of_ble_eq_true rfl, Nat.le_of_ble_eq_true rfl⟩) (va_recv hK hP (ci := 10) (q0 := 0) rfl rfl) cl_blind (cl_pre hK hP hD [0, 1, 2, 3, 4, 5, 6, 7, 8, 9, 10, 11, 12, 13, 14, 15, 16, 17, 18, 19, 20, 21, 22, 23, 24] (by decide) rfl) hP hD hS hA [0, 1, 2, 3, 4, 5, 6, 7, 8, 9, 10, 11, 12, 13, 14, 15, 16, 17, 18, 19, 20, 21, 22, 23, 24] rfl rfl hl.1 rfl (lv_room (Nat.le_of_ble_eq_true rfl)) dX12_safer_57 ⟨Nat.le_of_ble_eq_true rfl, Nat.le_of_ble_eq_true rfl⟩ ⟨rfl, rfl⟩ (fun _ => updR [0, 1, 2, 3, 4, 5, 6, 7, 8, 9, 10, 11, 12, 13, 14, 15, 16, 17, 18, 19, 20, 21, 22, 23, 24] rfl) (fun r u H locs hw hP hD hS => ?_)
    have hw := hw.symm
    subst hw
    have hP : va_P (dC, dI) vwCl (w_X12_safer cy a0 gg gvn gdn gne) H := hP
    have hD : va_D A (w_X12_safer cy a0 gg gvn gdn gne) := hD
    refine vx_ret ?_
    exact W.iret (v := v1) hx hb hr (fun t ht hW => by rw [hqq]; have hh := Option.some.inj h; exact ⟨⟨v1, (gne), rfl, ⟨fst_of hh, snd_of hh⟩, by rw [ht]; exact hP, va_K.moved hW.alike hK⟩, hS.F ht⟩) hS.2.2 dX12_safer_60
  have c38 : ∀ (_u : Unit), ∀ (gne : (Nat → Nat → Int32) × (Nat → Nat → Int64)) (t1 : Int32) (t2 : Int32) (t3 : Int32) (H : Heap) (locs : List Loc) (ls : Array Slot), p_X12_safer_38 gdn gne t1 t2 t3 = some R0 → va_P (dC, dI) vwCl (w_X12_safer cy a0 gg gvn gdn gne) H → va_D A (w_X12_safer cy a0 gg gvn gdn gne) → va_S A s.heap H locs → lv_has ls 4 [] → W p l e rm_X12_safer s m aa below meth c H locs 2 12 (vx_MQ below qq xx aa s 2 12 A) (F0 m 38 ls [.int t3, .int t2, .int t1, .ref (a0 0)]) := by
    intro _ gne t1 t2 t3 H locs ls h hP hD hS hl
    unfold p_X12_safer_38 at h
    obtain ⟨v1, hv2, h⟩ := ok_bind h
    refine cl_vi (w2 := fun (_ : Unit) => w_X12_safer cy a0 gg gvn gdn gne) (As := [.int t1, .int t2, .int t3]) (rest := []) ⟨hx, hb, hml, hown, hts⟩ (c_X12_saferCouples l dC dI cy a0 gg gvn gdn gne t1 t2 t3 H.size v1 hv2) (cwV 3 hts gX12_safer_X12_saferCouples rfl rfl rfl (by decide +kernel) ⟨Nat.le_of_ble_eq_true rfl, Nat.le_of_ble_eq_true rfl⟩) (va_recv hK hP (ci := 10) (q0 := 0) rfl rfl) cl_blind (cl_pre hK hP hD [0, 1, 2, 3, 4, 5, 6, 7, 8, 9, 10, 11, 12, 13, 14, 15, 16, 17, 18, 19, 20, 21, 22, 23, 24] (by decide) rfl) hP hD hS hA [0, 1, 2, 3, 4, 5, 6, 7, 8, 9, 10, 11, 12, 13, 14, 15, 16, 17, 18, 19, 20, 21, 22, 23, 24] rfl rfl hl.1 rfl (lv_room (Nat.le_of_ble_eq_true rfl)) dX12_safer_38 ⟨Nat.le_of_ble_eq_true rfl, Nat.le_of_ble_eq_true rfl⟩ ⟨rfl, rfl⟩ (fun _ => updR [0, 1, 2, 3, 4, 5, 6, 7, 8, 9, 10, 11, 12, 13, 14, 15, 16, 17, 18, 19, 20, 21, 22, 23, 24] rfl) (fun r u H locs hw hP hD hS => ?_)
    have hw := hw.symm
    subst hw
    have hP : va_P (dC, dI) vwCl (w_X12_safer cy a0 gg gvn gdn gne) H := hP
    have hD : va_D A (w_X12_safer cy a0 gg gvn gdn gne) := hD
    refine lv_goto (tgt := 60) hx hb dX12_safer_41 (by decide) ?_
    refine vx_ret ?_
    exact W.iret (v := v1) hx hb hr (fun t ht hW => by rw [hqq]; have hh := Option.some.inj h; exact ⟨⟨v1, (gne), rfl, ⟨fst_of hh, snd_of hh⟩, by rw [ht]; exact hP, va_K.moved hW.alike hK⟩, hS.F ht⟩) hS.2.2 dX12_safer_60
  obtain ⟨H, hH⟩ : ∃ H : Heap, H = s.heap := ⟨_, rfl⟩
  obtain ⟨locs, hlocs⟩ : ∃ locs : List Loc, locs = [] := ⟨_, rfl⟩
  have hS : va_S A s.heap H locs := by rw [hH, hlocs]; exact hS
  rw [← hH] at hP
  suffices hg : W p l e rm_X12_safer s m aa below meth c H locs 0 0 (vx_MQ below qq xx aa s 2 12 A) (F0 m 0 ls []) by subst hH; subst hlocs; exact hg
  unfold p_X12_safer at h
  refine lv_iload_n hx hb dX12_safer_0 rfl (lv_at hl 3 rfl) ?_
  refine lv_iconst (v := (3 : Int32)) hx hb dX12_safer_1 (by decide) ?_
  obtain ⟨v1, hv2, h⟩ := ok_bind h
  refine cx_sv (w2 := fun (_ : Unit) => w_X12_safer cy a0 gg gvn gdn gne) (w2x := fun (_ : Unit) => w_X12_safer cy a0 gg gvn gdn gne) (As := [.int x3, .int (3 : Int32)]) (rest := []) ⟨hx, hb, hml, hown, hts⟩ (c_X12_needWhat l dC dI cy z hl9  x3 (3 : Int32) H.size v1 hv2) (va_cwS 2 hts gX12_safer_X12_needWhat rfl rfl rfl (by decide +kernel) ⟨Nat.le_of_ble_eq_true rfl, Nat.le_of_ble_eq_true rfl⟩) cl_blindS (cl_preS hK hP hD hS hA hX [] (by decide) rfl) hP hD hS hA [] rfl rfl hl.1 rfl (lv_room (Nat.le_of_ble_eq_true rfl)) dX12_safer_2 ⟨Nat.le_of_ble_eq_true rfl, Nat.le_of_ble_eq_true rfl⟩ (cells' := 1) (slots' := 6) ⟨rfl, rfl⟩ (fun _ => updR [] rfl) (fun _ => updR [] rfl) (fun E ce q9 u H locs hw hE hP hD hS hc1 hc2 hc3 => ?_) (fun u H locs hw hP hD hS => ?_)
  · subst hw
    have hP : va_P (dC, dI) vwCl (w_X12_safer cy a0 gg gvn gdn gne) H := hP
    obtain ⟨hE1, hE2⟩ := exE_pass hE h
    exact vx_out (fun x9 hx9 => (htab x9 hx9).elim) hlocks hc1 hc2 hc3 (fun t h1 h2 => by rw [hxx]; exact ⟨_, hE2.symm, ⟨hE1, by rw [h1]; exact hP, va_K.moved h2 hK⟩, hS.F h1⟩) hS.2.2 (by decide) (by decide)
  obtain ⟨hw1, hw2⟩ := hw
  subst hw2
  rw [← hw1] at h
  dsimp only [xb] at h
  have hP : va_P (dC, dI) vwCl (w_X12_safer cy a0 gg gvn gdn gne) H := hP
  have hD : va_D A (w_X12_safer cy a0 gg gvn gdn gne) := hD
  refine lv_iload_n hx hb dX12_safer_5 rfl (lv_at hl 1 rfl) ?_
  refine lv_iload_n hx hb dX12_safer_6 rfl (lv_at hl 2 rfl) ?_
  obtain ⟨v3, hv4, h⟩ := ok_bind h
  refine cx_sv (w2 := fun (_ : Unit) => w_X12_safer cy a0 gg gvn gdn gne) (w2x := fun (_ : Unit) => w_X12_safer cy a0 gg gvn gdn gne) (As := [.int x1, .int x2]) (rest := []) ⟨hx, hb, hml, hown, hts⟩ (c_X12_needBases l dC dI cy z hl9  x1 x2 H.size v3 hv4) (va_cwS 2 hts gX12_safer_X12_needBases rfl rfl rfl (by decide +kernel) ⟨Nat.le_of_ble_eq_true rfl, Nat.le_of_ble_eq_true rfl⟩) cl_blindS (cl_preS hK hP hD hS hA hX [] (by decide) rfl) hP hD hS hA [] rfl rfl hl.1 rfl (lv_room (Nat.le_of_ble_eq_true rfl)) dX12_safer_7 ⟨Nat.le_of_ble_eq_true rfl, Nat.le_of_ble_eq_true rfl⟩ (cells' := 2) (slots' := 12) ⟨rfl, rfl⟩ (fun _ => updR [] rfl) (fun _ => updR [] rfl) (fun E ce q9 u H locs hw hE hP hD hS hc1 hc2 hc3 => ?_) (fun u H locs hw hP hD hS => ?_)
  · subst hw
    have hP : va_P (dC, dI) vwCl (w_X12_safer cy a0 gg gvn gdn gne) H := hP
    obtain ⟨hE1, hE2⟩ := exE_pass hE h
    exact vx_out (fun x9 hx9 => (htab x9 hx9).elim) hlocks hc1 hc2 hc3 (fun t h1 h2 => by rw [hxx]; exact ⟨_, hE2.symm, ⟨hE1, by rw [h1]; exact hP, va_K.moved h2 hK⟩, hS.F h1⟩) hS.2.2 (by decide) (by decide)
  obtain ⟨hw1, hw2⟩ := hw
  subst hw2
  rw [← hw1] at h
  dsimp only [xb] at h
  have hP : va_P (dC, dI) vwCl (w_X12_safer cy a0 gg gvn gdn gne) H := hP
  have hD : va_D A (w_X12_safer cy a0 gg gvn gdn gne) := hD
  refine lv_aload_n hx hb dX12_safer_10 rfl (lv_at hl 0 rfl) ?_
  refine va_get (D := (dC, dI)) (ci := 10) (v := .ref (a0 50)) (C := RX12) (T := TX12) (N := 17) hx hb hts in_X12 hown hK hP 0 rfl rfl 13 (by decide) lk0 (fun _ h9 => h9) rfl dX12_safer_11 ?_
  refine lv_aload_n hx hb dX12_safer_14 rfl (lv_at hl 0 rfl) ?_
  refine va_get (D := (dC, dI)) (ci := 10) (v := .ref (a0 2)) (C := RX12) (T := TX12) (N := 17) hx hb hts in_X12 hown hK hP 0 rfl rfl 6 (by decide) lk1 (fun _ h9 => h9) rfl dX12_safer_15 ?_
  obtain ⟨v5, hv6, h⟩ := ok_bind h
  refine cl_vv (w2 := fun (u : ((Nat → Nat → Int32) × (Nat → Nat → Int64))) => w_X12_safer cy a0 gg gvn gdn u) (As := [.ref (a0 2)]) (rest := []) ⟨hx, hb, hml, hown, hts⟩ (c_X6_fill l dC dI cy (fun k => a0 (k + 50)) (fun k => a0 (k + 2)) gne gvn gdn H.size v5 hv6) (cwV 1 hts gX12_safer_X6_fill rfl rfl rfl (by decide +kernel) ⟨Nat.le_of_ble_eq_true rfl, Nat.le_of_ble_eq_true rfl⟩) (va_recv hK hP (ci := 4) (q0 := 7) rfl rfl) cl_blind (cl_pre hK hP hD [7, 8, 9, 10, 11, 12, 13, 14, 15, 16, 17, 18, 19, 20, 21, 22, 23, 24, 1, 2, 3, 4, 5, 6] (by decide) rfl) hP hD hS hA [7, 8, 9, 10, 11, 12, 13, 14, 15, 16, 17, 18, 19, 20, 21, 22, 23, 24, 1, 2, 3, 4, 5, 6] rfl rfl hl.1 rfl (lv_room (Nat.le_of_ble_eq_true rfl)) dX12_safer_18 ⟨Nat.le_of_ble_eq_true rfl, Nat.le_of_ble_eq_true rfl⟩ ⟨rfl, rfl⟩ (fun _ => updM [7, 8, 9, 10, 11, 12, 13, 14, 15, 16, 17, 18, 19, 20, 21, 22, 23, 24, 1, 2, 3, 4, 5, 6] [0] [(a0 0, .inr (10, [.ref (a0 1), .int (gg.1), .int (gg.2.1), .int (gg.2.2.1), .int (gg.2.2.2.1), .int (gg.2.2.2.2.1), .ref (a0 2), .ref (a0 17), .ref (a0 32), .int (gg.2.2.2.2.2), .ref (a0 47), .ref (a0 48), .ref (a0 49), .ref (a0 50), .ref (a0 68), .ref (a0 78), .ref (a0 80)]))] 25 rfl rfl rfl rfl rfl (by decide +kernel) (by decide +kernel) rfl) (fun u H locs hw hP hD hS => ?_)
  have hw := hw.symm
  subst hw
  have hP : va_P (dC, dI) vwCl (w_X12_safer cy a0 gg gvn gdn v5) H := hP
  have hD : va_D A (w_X12_safer cy a0 gg gvn gdn v5) := hD
  refine lv_iload_n hx hb dX12_safer_21 rfl (lv_at hl 3 rfl) ?_
  refine lv_iconst (v := (2 : Int32)) hx hb dX12_safer_22 (by decide) ?_
  refine lv_icmp_ge (tgt := 44) hx hb dX12_safer_23 (by decide) (fun c7 => ?_) (fun c7 => ?_)
  · rw [if_pos c7] at h
    refine lv_aload_n hx hb dX12_safer_44 rfl (lv_at hl 0 rfl) ?_
    refine lv_iload_n hx hb dX12_safer_45 rfl (lv_at hl 1 rfl) ?_
    refine lv_iload_n hx hb dX12_safer_46 rfl (lv_at hl 2 rfl) ?_
    refine lv_iload_n hx hb dX12_safer_47 rfl (lv_at hl 3 rfl) ?_
    refine lv_iconst (v := (2 : Int32)) hx hb dX12_safer_48 (by decide) ?_
    refine lv_icmp_ne (tgt := 56) hx hb dX12_safer_49 (by decide) (fun c8 => ?_) (fun c8 => ?_)
    · rw [if_neg c8] at h
      refine lv_iconst (v := (0 : Int32)) hx hb dX12_safer_56 (by decide) ?_
      exact c57 () v5 x1 x2 (0 : Int32) H locs ls h hP hD hS (lv_sub hl [] rfl)
    · rw [if_pos c8] at h
      refine lv_iconst (v := (1 : Int32)) hx hb dX12_safer_52 (by decide) ?_
      refine lv_goto (tgt := 57) hx hb dX12_safer_53 (by decide) ?_
      exact c57 () v5 x1 x2 (1 : Int32) H locs ls h hP hD hS (lv_sub hl [] rfl)
  · rw [if_neg c7] at h
    refine lv_aload_n hx hb dX12_safer_26 rfl (lv_at hl 0 rfl) ?_
    refine lv_iload_n hx hb dX12_safer_27 rfl (lv_at hl 1 rfl) ?_
    refine lv_iload_n hx hb dX12_safer_28 rfl (lv_at hl 2 rfl) ?_
    refine lv_iload_n hx hb dX12_safer_29 rfl (lv_at hl 3 rfl) ?_
    refine lv_if_ne (tgt := 37) hx hb dX12_safer_30 (by decide) (fun c9 => ?_) (fun c9 => ?_)
    · rw [if_neg c9] at h
      refine lv_iconst (v := (0 : Int32)) hx hb dX12_safer_37 (by decide) ?_
      exact c38 () v5 x1 x2 (0 : Int32) H locs ls h hP hD hS (lv_sub hl [] rfl)
    · rw [if_pos c9] at h
      refine lv_iconst (v := (1 : Int32)) hx hb dX12_safer_33 (by decide) ?_
      refine lv_goto (tgt := 38) hx hb dX12_safer_34 (by decide) ?_
      exact c38 () v5 x1 x2 (1 : Int32) H locs ls h hP hD hS (lv_sub hl [] rfl)

abbrev w_X12_receipt (cy : Nat → ClassId) (a0 : Nat → Nat) (gg : Int32 × Int32 × Int32 × Int32 × Int32 × Int32) (gvn : Int32 × Int32 × (Nat → Int32) × (Nat → Int32) × (Nat → Int32) × (Nat → Int32) × (Nat → Int32)) (gcn : Int32 × (Nat → Int32) × (Nat → Int32) × (Nat → Int32)) : va_W := [(a0 0, .inr (10, [.ref (a0 1), .int (gg.1), .int (gg.2.1), .int (gg.2.2.1), .int (gg.2.2.2.1), .int (gg.2.2.2.2.1), .ref (a0 2), .ref (a0 17), .ref (a0 32), .int (gg.2.2.2.2.2), .ref (a0 47), .ref (a0 48), .ref (a0 49), .ref (a0 50), .ref (a0 68), .ref (a0 78), .ref (a0 80)])), (a0 2, .inr (7, [.int (gvn.1), .int (gvn.2.1), .ref (a0 3), .ref (a0 8), .ref (a0 12), .ref (a0 13), .ref (a0 14), .ref (a0 15), .ref (a0 16)])), (a0 8, .inr (6, [.int (gcn.1), .ref (a0 9), .ref (a0 10), .ref (a0 11)])), (a0 9, .inl (cy 1, 12, .inl (gcn.2.1))), (a0 10, .inl (cy 1, 12, .inl (gcn.2.2.1))), (a0 11, .inl (cy 1, 12, .inl (gcn.2.2.2)))]
abbrev rm_X12_receipt : Room := { frames := 1, cells := 0, slots := 0, locals := 23 }
set_option maxHeartbeats 1000000 in
set_option maxRecDepth 100000 in
theorem c_X12_receipt (l : Launch) (dC : Nat → ClassId) (dI : Nat → Nat → Nat) (cy : Nat → ClassId) (a0 : Nat → Nat) (gg : Int32 × Int32 × Int32 × Int32 × Int32 × Int32) (gvn : Int32 × Int32 × (Nat → Int32) × (Nat → Int32) × (Nat → Int32) × (Nat → Int32) × (Nat → Int32)) (gcn : Int32 × (Nat → Int32) × (Nat → Int32) × (Nat → Int32)) (x1 : Int32) (x2 : Int32) (x3 : Int32) (sz : Nat) (R0 : Int32 × (Int32 × Int32 × Int32 × Int32 × Int32 × Int32) × (Int32 × (Nat → Int32) × (Nat → Int32) × (Nat → Int32))) (h : p_X12_receipt gg gcn x1 x2 x3 = some R0) : Met l yX12_receipt wsX12_receipt rm_X12_receipt (va_Pc [.ref (a0 0), .int x1, .int x2, .int x3] (prC dC dI cy (w_X12_receipt cy a0 gg gvn gcn) sz)) (va_Qi (fun (r : Int32) (u : (Int32 × Int32 × Int32 × Int32 × Int32 × Int32) × (Int32 × (Nat → Int32) × (Nat → Int32) × (Nat → Int32))) => r = R0.1 ∧ u = R0.2) (fun (u : (Int32 × Int32 × Int32 × Int32 × Int32 × Int32) × (Int32 × (Nat → Int32) × (Nat → Int32) × (Nat → Int32))) t => poC dC dI cy (w_X12_receipt cy a0 u.1 gvn u.2) t) (va_A (w_X12_receipt cy a0 gg gvn gcn) sz)) 0 0 (va_A (w_X12_receipt cy a0 gg gvn gcn) sz) := by
  refine Met.ofW (cc := cX12_receipt) (maxL := 5) (ret := (some .int)) (by decide) rfl ?_
  intro p e s m aa below meth c s₁ B hml hv
  obtain ⟨haa, hsz, hP, hK, hD0⟩ := hv
  have hx := B.exec
  have hb := B.bytes
  have hr := B.returns
  have hts := atoms_spec (ws := wsX12_receipt) B.pre
  have hown : s.vm.findClass RX12 = some m.cls := findClass_of_methodNamed B.named
  have hlocks := B.notSynchronized
  subst hsz
  have hD := hD0.self (sz := s.heap.size)
  obtain ⟨qq, hqq⟩ : ∃ qq, qq = (va_Qi (fun (r : Int32) (u : (Int32 × Int32 × Int32 × Int32 × Int32 × Int32) × (Int32 × (Nat → Int32) × (Nat → Int32) × (Nat → Int32))) => r = R0.1 ∧ u = R0.2) (fun (u : (Int32 × Int32 × Int32 × Int32 × Int32 × Int32) × (Int32 × (Nat → Int32) × (Nat → Int32) × (Nat → Int32))) t => poC dC dI cy (w_X12_receipt cy a0 u.1 gvn u.2) t) (va_A (w_X12_receipt cy a0 gg gvn gcn) s.heap.size)) := ⟨_, rfl⟩
  rw [← hqq]
  generalize hAe : va_A (w_X12_receipt cy a0 gg gvn gcn) s.heap.size = A at hD hqq ⊢
  have hA : ∀ q : Nat, s.heap.size ≤ q → A q := fun q h => by rw [← hAe]; exact Or.inr h
  have hS : va_S A s.heap s.heap [] := va_S.rf
  have hl := lv_entry ([.ref (a0 0), .int x1, .int x2, .int x3]) (n := 5) (Nat.le_of_ble_eq_true rfl)
  have hE : entryFrame m aa 5 = F0 m 0 ((lg_sl ([.ref (a0 0), .int x1, .int x2, .int x3]) ++ List.replicate (5 - (lg_sl ([.ref (a0 0), .int x1, .int x2, .int x3])).length) Slot.unset).toArray) [] := by rw [haa]; exact lg_entry_eq m _ 5
  refine W.eq hE ?_
  generalize (lg_sl ([.ref (a0 0), .int x1, .int x2, .int x3]) ++ List.replicate (5 - (lg_sl ([.ref (a0 0), .int x1, .int x2, .int x3])).length) Slot.unset).toArray = ls at hl ⊢
  have hl : lv_has ls 5 [(0, .ref (a0 0)), (1, .int x1), (2, .int x2), (3, .int x3)] := hl
  change W p l e rm_X12_receipt s m aa below meth c s.heap [] 0 0 (MQ below qq aa s 0 0 A) (F0 m 0 ls [])
  have hS0 := hS
  have lk0 := hts (.fieldLink RX12 158 "GoatDoors" "refusedReceipts" "I") (by decide +kernel)
  have lk1 := hts (.fieldLink RX12 20 "GoatDoors" "now" "LGoatDoors$Village;") (by decide +kernel)
  have lk2 := hts (.fieldLink RX12 149 "GoatDoors$Village" "receipts" "LGoatDoors$Receipts;") (by decide +kernel)
  have lk3 := hts (.fieldLink RX12 153 "GoatDoors$Receipts" "size" "I") (by decide +kernel)
  have lk4 := hts (.constant RX12 309 (99999999 : Int32)) (by decide +kernel)
  have in_X12 : ∀ w ∈ wsX120, w ∈ wsX12_receipt := by decide +kernel
  have in_X9 : ∀ w ∈ wsX90, w ∈ wsX12_receipt := by decide +kernel
  have in_X8 : ∀ w ∈ wsX80, w ∈ wsX12_receipt := by decide +kernel
  have c62 : ∀ (_u : Unit), ∀ (gg : Int32 × Int32 × Int32 × Int32 × Int32 × Int32) (gcn : Int32 × (Nat → Int32) × (Nat → Int32) × (Nat → Int32)) (H : Heap) (locs : List Loc) (ls : Array Slot), p_X12_receipt_62 gg gcn = some R0 → va_P (dC, dI) vwCl (w_X12_receipt cy a0 gg gvn gcn) H → va_D A (w_X12_receipt cy a0 gg gvn gcn) → va_S A s.heap H locs → lv_has ls 5 [(0, .ref (a0 0))] → W p l e rm_X12_receipt s m aa below meth c H locs 0 0 (MQ below qq aa s 0 0 A) (F0 m 62 ls []) := by
    intro _ gg gcn H locs ls h hP hD hS hl
    unfold p_X12_receipt_62 at h
    refine lv_aload_n hx hb dX12_receipt_62 rfl (lv_at hl 0 rfl) ?_
    refine lv_dup hx hb dX12_receipt_63 rfl ?_
    refine va_get (D := (dC, dI)) (ci := 10) (v := .int gg.2.2.2.2.1) (C := RX12) (T := TX12) (N := 17) hx hb hts in_X12 hown hK hP 0 rfl rfl 5 (by decide) lk0 (fun _ h9 => h9) rfl dX12_receipt_64 ?_
    refine lv_iconst (v := (1 : Int32)) hx hb dX12_receipt_67 (by decide) ?_
    refine lv_iadd hx hb dX12_receipt_68 ?_
    refine va_put (D := (dC, dI)) (ci := 10) (v := .int (gg.2.2.2.2.1 + (1 : Int32))) (ty := .int) (C := RX12) (T := TX12) (N := 17) hx hb hts in_X12 tyX12 tyX12_ok nmX12 hown hK hP hD hS 0 rfl rfl 5 (by decide) lk0 (fun _ h9 => h9) rfl (by decide +kernel) rfl rfl (Nat.le_of_ble_eq_true rfl) dX12_receipt_69 (fun H locs hP hD hS => ?_)
    have hP : va_P (dC, dI) vwCl (w_X12_receipt cy a0 ((gg.1, gg.2.1, gg.2.2.1, gg.2.2.2.1, (gg.2.2.2.2.1 + (1 : Int32)), gg.2.2.2.2.2)) gvn gcn) H := hP
    have hD : va_D A (w_X12_receipt cy a0 ((gg.1, gg.2.1, gg.2.2.1, gg.2.2.2.1, (gg.2.2.2.2.1 + (1 : Int32)), gg.2.2.2.2.2)) gvn gcn) := hD
    refine lv_iconst (v := (-1 : Int32)) hx hb dX12_receipt_72 (by decide) ?_
    exact W.iret (v := (-1 : Int32)) hx hb hr (fun t ht hW => by rw [hqq]; have hh := Option.some.inj h; exact ⟨⟨(-1 : Int32), (((gg.1, gg.2.1, gg.2.2.1, gg.2.2.2.1, (gg.2.2.2.2.1 + (1 : Int32)), gg.2.2.2.2.2), gcn)), rfl, ⟨fst_of hh, snd_of hh⟩, by rw [ht]; exact hP, va_K.moved hW.alike hK⟩, hS.F ht⟩) hS.2.2 dX12_receipt_73
  have c39 : ∀ (_u : Unit), ∀ (gg : Int32 × Int32 × Int32 × Int32 × Int32 × Int32) (gcn : Int32 × (Nat → Int32) × (Nat → Int32) × (Nat → Int32)) (x1 : Int32) (x2 : Int32) (x3 : Int32) (t0 : Int32) (H : Heap) (locs : List Loc) (ls : Array Slot), p_X12_receipt_39 gg gcn x1 x2 x3 t0 = some R0 → va_P (dC, dI) vwCl (w_X12_receipt cy a0 gg gvn gcn) H → va_D A (w_X12_receipt cy a0 gg gvn gcn) → va_S A s.heap H locs → lv_has ls 5 [(0, .ref (a0 0)), (1, .int x1), (2, .int x2), (3, .int x3)] → W p l e rm_X12_receipt s m aa below meth c H locs 0 0 (MQ below qq aa s 0 0 A) (F0 m 39 ls [.int t0]) := by
    intro _ gg gcn x1 x2 x3 t0 H locs ls h hP hD hS hl
    unfold p_X12_receipt_39 at h
    refine lv_istore (lv' := [(4, .int t0), (0, .ref (a0 0)), (1, .int x1), (2, .int x2), (3, .int x3)]) hx hb dX12_receipt_39 hl (by decide) rfl (fun ls hl => ?_)
    refine lv_iload hx hb dX12_receipt_41 (lv_at hl 0 rfl) ?_
    refine lv_if_eq (tgt := 62) hx hb dX12_receipt_43 (by decide) (fun c1 => ?_) (fun c1 => ?_)
    · rw [if_pos c1] at h
      exact c62 () gg gcn H locs ls h hP hD hS (lv_sub hl [1] rfl)
    · rw [if_neg c1] at h
      refine lv_aload_n hx hb dX12_receipt_46 rfl (lv_at hl 1 rfl) ?_
      refine va_get (D := (dC, dI)) (ci := 10) (v := .ref (a0 2)) (C := RX12) (T := TX12) (N := 17) hx hb hts in_X12 hown hK hP 0 rfl rfl 6 (by decide) lk1 (fun _ h9 => h9) rfl dX12_receipt_47 ?_
      refine va_get (D := (dC, dI)) (ci := 7) (v := .ref (a0 8)) (C := RX9) (T := TX9) (N := 9) hx hb hts in_X9 hown hK hP 1 rfl rfl 3 (by decide) lk2 (fun _ h9 => h9) rfl dX12_receipt_50 ?_
      refine lv_iload_n hx hb dX12_receipt_53 rfl (lv_at hl 2 rfl) ?_
      refine lv_iload_n hx hb dX12_receipt_54 rfl (lv_at hl 3 rfl) ?_
      refine lv_iload_n hx hb dX12_receipt_55 rfl (lv_at hl 4 rfl) ?_
      obtain ⟨v2, hv3, h⟩ := ok_bind h
      refine cl_vi (w2 := fun (u : (Int32 × (Nat → Int32) × (Nat → Int32) × (Nat → Int32))) => w_X12_receipt cy a0 gg gvn u) (As := [.int x1, .int x2, .int x3]) (rest := []) ⟨hx, hb, hml, hown, hts⟩ (c_X8_add l dC dI cy (fun k => a0 (k + 8)) gcn x1 x2 x3 H.size v2 hv3) (cwV 3 hts gX12_receipt_X8_add rfl rfl rfl (by decide +kernel) ⟨Nat.le_of_ble_eq_true rfl, Nat.le_of_ble_eq_true rfl⟩) (va_recv hK hP (ci := 6) (q0 := 2) rfl rfl) cl_blind (cl_pre hK hP hD [2, 3, 4, 5] (by decide) rfl) hP hD hS hA [2, 3, 4, 5] rfl rfl hl.1 rfl (lv_room (Nat.le_of_ble_eq_true rfl)) dX12_receipt_56 ⟨Nat.le_of_ble_eq_true rfl, Nat.le_of_ble_eq_true rfl⟩ ⟨rfl, rfl⟩ (fun _ => updM [2, 3, 4, 5] [0, 1] [(a0 0, .inr (10, [.ref (a0 1), .int (gg.1), .int (gg.2.1), .int (gg.2.2.1), .int (gg.2.2.2.1), .int (gg.2.2.2.2.1), .ref (a0 2), .ref (a0 17), .ref (a0 32), .int (gg.2.2.2.2.2), .ref (a0 47), .ref (a0 48), .ref (a0 49), .ref (a0 50), .ref (a0 68), .ref (a0 78), .ref (a0 80)])), (a0 2, .inr (7, [.int (gvn.1), .int (gvn.2.1), .ref (a0 3), .ref (a0 8), .ref (a0 12), .ref (a0 13), .ref (a0 14), .ref (a0 15), .ref (a0 16)]))] 6 rfl rfl rfl rfl rfl (by decide +kernel) (by decide +kernel) rfl) (fun r u H locs hw hP hD hS => ?_)
      obtain ⟨rfl, rfl⟩ := hw
      have hP : va_P (dC, dI) vwCl (w_X12_receipt cy a0 gg gvn v2.2) H := hP
      have hD : va_D A (w_X12_receipt cy a0 gg gvn v2.2) := hD
      refine lv_if_ne (tgt := 74) hx hb dX12_receipt_59 (by decide) (fun c4 => ?_) (fun c4 => ?_)
      · rw [if_neg c4] at h
        refine lv_aload_n hx hb dX12_receipt_74 rfl (lv_at hl 1 rfl) ?_
        refine va_get (D := (dC, dI)) (ci := 10) (v := .ref (a0 2)) (C := RX12) (T := TX12) (N := 17) hx hb hts in_X12 hown hK hP 0 rfl rfl 6 (by decide) lk1 (fun _ h9 => h9) rfl dX12_receipt_75 ?_
        refine va_get (D := (dC, dI)) (ci := 7) (v := .ref (a0 8)) (C := RX9) (T := TX9) (N := 9) hx hb hts in_X9 hown hK hP 1 rfl rfl 3 (by decide) lk2 (fun _ h9 => h9) rfl dX12_receipt_78 ?_
        refine va_get (D := (dC, dI)) (ci := 6) (v := .int v2.2.1) (C := RX8) (T := TX8) (N := 4) hx hb hts in_X8 hown hK hP 2 rfl rfl 0 (by decide) lk3 (fun _ h9 => h9) rfl dX12_receipt_81 ?_
        exact W.iret (v := v2.2.1) hx hb hr (fun t ht hW => by rw [hqq]; have hh := Option.some.inj h; exact ⟨⟨v2.2.1, ((gg, v2.2)), rfl, ⟨fst_of hh, snd_of hh⟩, by rw [ht]; exact hP, va_K.moved hW.alike hK⟩, hS.F ht⟩) hS.2.2 dX12_receipt_84
      · rw [if_pos c4] at h
        exact c62 () gg v2.2 H locs ls h hP hD hS (lv_sub hl [1] rfl)
  have c38 : ∀ (_u : Unit), ∀ (gg : Int32 × Int32 × Int32 × Int32 × Int32 × Int32) (gcn : Int32 × (Nat → Int32) × (Nat → Int32) × (Nat → Int32)) (x1 : Int32) (x2 : Int32) (x3 : Int32) (H : Heap) (locs : List Loc) (ls : Array Slot), p_X12_receipt_38 gg gcn x1 x2 x3 = some R0 → va_P (dC, dI) vwCl (w_X12_receipt cy a0 gg gvn gcn) H → va_D A (w_X12_receipt cy a0 gg gvn gcn) → va_S A s.heap H locs → lv_has ls 5 [(0, .ref (a0 0)), (1, .int x1), (2, .int x2), (3, .int x3)] → W p l e rm_X12_receipt s m aa below meth c H locs 0 0 (MQ below qq aa s 0 0 A) (F0 m 38 ls []) := by
    intro _ gg gcn x1 x2 x3 H locs ls h hP hD hS hl
    unfold p_X12_receipt_38 at h
    refine lv_iconst (v := (0 : Int32)) hx hb dX12_receipt_38 (by decide) ?_
    exact c39 () gg gcn x1 x2 x3 (0 : Int32) H locs ls h hP hD hS (lv_sub hl [0, 1, 2, 3] rfl)
  obtain ⟨H, hH⟩ : ∃ H : Heap, H = s.heap := ⟨_, rfl⟩
  obtain ⟨locs, hlocs⟩ : ∃ locs : List Loc, locs = [] := ⟨_, rfl⟩
  have hS : va_S A s.heap H locs := by rw [hH, hlocs]; exact hS
  rw [← hH] at hP
  suffices hg : W p l e rm_X12_receipt s m aa below meth c H locs 0 0 (MQ below qq aa s 0 0 A) (F0 m 0 ls []) by subst hH; subst hlocs; exact hg
  unfold p_X12_receipt at h
  refine lv_iload_n hx hb dX12_receipt_0 rfl (lv_at hl 1 rfl) ?_
  refine lv_if_lt (tgt := 38) hx hb dX12_receipt_1 (by decide) (fun c1 => ?_) (fun c1 => ?_)
  · rw [if_pos c1] at h
    exact c38 () gg gcn x1 x2 x3 H locs ls h hP hD hS (lv_sub hl [0, 1, 2, 3] rfl)
  · rw [if_neg c1] at h
    refine lv_iload_n hx hb dX12_receipt_4 rfl (lv_at hl 1 rfl) ?_
    refine lv_sipush (v := (1024 : Int32)) hx hb dX12_receipt_5 (by decide) ?_
    refine lv_icmp_ge (tgt := 38) hx hb dX12_receipt_8 (by decide) (fun c2 => ?_) (fun c2 => ?_)
    · rw [if_pos c2] at h
      exact c38 () gg gcn x1 x2 x3 H locs ls h hP hD hS (lv_sub hl [0, 1, 2, 3] rfl)
    · rw [if_neg c2] at h
      refine lv_iload_n hx hb dX12_receipt_11 rfl (lv_at hl 2 rfl) ?_
      refine lv_if_lt (tgt := 38) hx hb dX12_receipt_12 (by decide) (fun c3 => ?_) (fun c3 => ?_)
      · rw [if_pos c3] at h
        exact c38 () gg gcn x1 x2 x3 H locs ls h hP hD hS (lv_sub hl [0, 1, 2, 3] rfl)
      · rw [if_neg c3] at h
        refine lv_iload_n hx hb dX12_receipt_15 rfl (lv_at hl 2 rfl) ?_
        refine lv_ldcw hx hb hown lk4 dX12_receipt_16 ?_
        refine lv_icmp_gt (tgt := 38) hx hb dX12_receipt_19 (by decide) (fun c4 => ?_) (fun c4 => ?_)
        · rw [if_pos c4] at h
          exact c38 () gg gcn x1 x2 x3 H locs ls h hP hD hS (lv_sub hl [0, 1, 2, 3] rfl)
        · rw [if_neg c4] at h
          refine lv_iload_n hx hb dX12_receipt_22 rfl (lv_at hl 3 rfl) ?_
          refine lv_bipush (v := (-20 : Int32)) hx hb dX12_receipt_23 (by decide) ?_
          refine lv_icmp_lt (tgt := 38) hx hb dX12_receipt_25 (by decide) (fun c5 => ?_) (fun c5 => ?_)
          · rw [if_pos c5] at h
            exact c38 () gg gcn x1 x2 x3 H locs ls h hP hD hS (lv_sub hl [0, 1, 2, 3] rfl)
          · rw [if_neg c5] at h
            refine lv_iload_n hx hb dX12_receipt_28 rfl (lv_at hl 3 rfl) ?_
            refine lv_bipush (v := (20 : Int32)) hx hb dX12_receipt_29 (by decide) ?_
            refine lv_icmp_gt (tgt := 38) hx hb dX12_receipt_31 (by decide) (fun c6 => ?_) (fun c6 => ?_)
            · rw [if_pos c6] at h
              exact c38 () gg gcn x1 x2 x3 H locs ls h hP hD hS (lv_sub hl [0, 1, 2, 3] rfl)
            · rw [if_neg c6] at h
              refine lv_iconst (v := (1 : Int32)) hx hb dX12_receipt_34 (by decide) ?_
              refine lv_goto (tgt := 39) hx hb dX12_receipt_35 (by decide) ?_
              exact c39 () gg gcn x1 x2 x3 (1 : Int32) H locs ls h hP hD hS (lv_sub hl [0, 1, 2, 3] rfl)

abbrev w_X12_lose (cy : Nat → ClassId) (a0 : Nat → Nat) (gg : Int32 × Int32 × Int32 × Int32 × Int32 × Int32) (gvn : Int32 × Int32 × (Nat → Int32) × (Nat → Int32) × (Nat → Int32) × (Nat → Int32) × (Nat → Int32)) (gcn : Int32 × (Nat → Int32) × (Nat → Int32) × (Nat → Int32)) : va_W := [(a0 0, .inr (10, [.ref (a0 1), .int (gg.1), .int (gg.2.1), .int (gg.2.2.1), .int (gg.2.2.2.1), .int (gg.2.2.2.2.1), .ref (a0 2), .ref (a0 17), .ref (a0 32), .int (gg.2.2.2.2.2), .ref (a0 47), .ref (a0 48), .ref (a0 49), .ref (a0 50), .ref (a0 68), .ref (a0 78), .ref (a0 80)])), (a0 2, .inr (7, [.int (gvn.1), .int (gvn.2.1), .ref (a0 3), .ref (a0 8), .ref (a0 12), .ref (a0 13), .ref (a0 14), .ref (a0 15), .ref (a0 16)])), (a0 8, .inr (6, [.int (gcn.1), .ref (a0 9), .ref (a0 10), .ref (a0 11)])), (a0 9, .inl (cy 1, 12, .inl (gcn.2.1))), (a0 10, .inl (cy 1, 12, .inl (gcn.2.2.1))), (a0 11, .inl (cy 1, 12, .inl (gcn.2.2.2)))]
abbrev rm_X12_lose : Room := { frames := 0, cells := 0, slots := 0, locals := 0 }
set_option maxHeartbeats 1000000 in
set_option maxRecDepth 100000 in
theorem c_X12_lose (l : Launch) (dC : Nat → ClassId) (dI : Nat → Nat → Nat) (cy : Nat → ClassId) (a0 : Nat → Nat) (gg : Int32 × Int32 × Int32 × Int32 × Int32 × Int32) (gvn : Int32 × Int32 × (Nat → Int32) × (Nat → Int32) × (Nat → Int32) × (Nat → Int32) × (Nat → Int32)) (gcn : Int32 × (Nat → Int32) × (Nat → Int32) × (Nat → Int32)) (sz : Nat) (R0 : Int32 × (Int32 × (Nat → Int32) × (Nat → Int32) × (Nat → Int32))) (h : p_X12_lose gcn = some R0) : Met l yX12_lose wsX12_lose rm_X12_lose (va_Pc [.ref (a0 0)] (prC dC dI cy (w_X12_lose cy a0 gg gvn gcn) sz)) (va_Qi (fun (r : Int32) (u : (Int32 × (Nat → Int32) × (Nat → Int32) × (Nat → Int32))) => r = R0.1 ∧ u = R0.2) (fun (u : (Int32 × (Nat → Int32) × (Nat → Int32) × (Nat → Int32))) t => poC dC dI cy (w_X12_lose cy a0 gg gvn u) t) (va_A (w_X12_lose cy a0 gg gvn gcn) sz)) 0 0 (va_A (w_X12_lose cy a0 gg gvn gcn) sz) := by
  refine Met.ofW (cc := cX12_lose) (maxL := 1) (ret := (some .int)) (by decide) rfl ?_
  intro p e s m aa below meth c s₁ B hml hv
  obtain ⟨haa, hsz, hP, hK, hD0⟩ := hv
  have hx := B.exec
  have hb := B.bytes
  have hr := B.returns
  have hts := atoms_spec (ws := wsX12_lose) B.pre
  have hown : s.vm.findClass RX12 = some m.cls := findClass_of_methodNamed B.named
  have hlocks := B.notSynchronized
  subst hsz
  have hD := hD0.self (sz := s.heap.size)
  obtain ⟨qq, hqq⟩ : ∃ qq, qq = (va_Qi (fun (r : Int32) (u : (Int32 × (Nat → Int32) × (Nat → Int32) × (Nat → Int32))) => r = R0.1 ∧ u = R0.2) (fun (u : (Int32 × (Nat → Int32) × (Nat → Int32) × (Nat → Int32))) t => poC dC dI cy (w_X12_lose cy a0 gg gvn u) t) (va_A (w_X12_lose cy a0 gg gvn gcn) s.heap.size)) := ⟨_, rfl⟩
  rw [← hqq]
  generalize hAe : va_A (w_X12_lose cy a0 gg gvn gcn) s.heap.size = A at hD hqq ⊢
  have hA : ∀ q : Nat, s.heap.size ≤ q → A q := fun q h => by rw [← hAe]; exact Or.inr h
  have hS : va_S A s.heap s.heap [] := va_S.rf
  have hl := lv_entry ([.ref (a0 0)]) (n := 1) (Nat.le_of_ble_eq_true rfl)
  have hE : entryFrame m aa 1 = F0 m 0 ((lg_sl ([.ref (a0 0)]) ++ List.replicate (1 - (lg_sl ([.ref (a0 0)])).length) Slot.unset).toArray) [] := by rw [haa]; exact lg_entry_eq m _ 1
  refine W.eq hE ?_
  generalize (lg_sl ([.ref (a0 0)]) ++ List.replicate (1 - (lg_sl ([.ref (a0 0)])).length) Slot.unset).toArray = ls at hl ⊢
  have hl : lv_has ls 1 [(0, .ref (a0 0))] := hl
  change W p l e rm_X12_lose s m aa below meth c s.heap [] 0 0 (MQ below qq aa s 0 0 A) (F0 m 0 ls [])
  have hS0 := hS
  have lk0 := hts (.fieldLink RX12 20 "GoatDoors" "now" "LGoatDoors$Village;") (by decide +kernel)
  have lk1 := hts (.fieldLink RX12 149 "GoatDoors$Village" "receipts" "LGoatDoors$Receipts;") (by decide +kernel)
  have lk2 := hts (.fieldLink RX12 153 "GoatDoors$Receipts" "size" "I") (by decide +kernel)
  have in_X12 : ∀ w ∈ wsX120, w ∈ wsX12_lose := by decide +kernel
  have in_X9 : ∀ w ∈ wsX90, w ∈ wsX12_lose := by decide +kernel
  have in_X8 : ∀ w ∈ wsX80, w ∈ wsX12_lose := by decide +kernel
  obtain ⟨H, hH⟩ : ∃ H : Heap, H = s.heap := ⟨_, rfl⟩
  obtain ⟨locs, hlocs⟩ : ∃ locs : List Loc, locs = [] := ⟨_, rfl⟩
  have hS : va_S A s.heap H locs := by rw [hH, hlocs]; exact hS
  rw [← hH] at hP
  suffices hg : W p l e rm_X12_lose s m aa below meth c H locs 0 0 (MQ below qq aa s 0 0 A) (F0 m 0 ls []) by subst hH; subst hlocs; exact hg
  unfold p_X12_lose at h
  refine lv_aload_n hx hb dX12_lose_0 rfl (lv_at hl 0 rfl) ?_
  refine va_get (D := (dC, dI)) (ci := 10) (v := .ref (a0 2)) (C := RX12) (T := TX12) (N := 17) hx hb hts in_X12 hown hK hP 0 rfl rfl 6 (by decide) lk0 (fun _ h9 => h9) rfl dX12_lose_1 ?_
  refine va_get (D := (dC, dI)) (ci := 7) (v := .ref (a0 8)) (C := RX9) (T := TX9) (N := 9) hx hb hts in_X9 hown hK hP 1 rfl rfl 3 (by decide) lk1 (fun _ h9 => h9) rfl dX12_lose_4 ?_
  refine va_get (D := (dC, dI)) (ci := 6) (v := .int gcn.1) (C := RX8) (T := TX8) (N := 4) hx hb hts in_X8 hown hK hP 2 rfl rfl 0 (by decide) lk2 (fun _ h9 => h9) rfl dX12_lose_7 ?_
  refine lv_if_ne (tgt := 15) hx hb dX12_lose_10 (by decide) (fun c1 => ?_) (fun c1 => ?_)
  · rw [if_neg c1] at h
    refine lv_aload_n hx hb dX12_lose_15 rfl (lv_at hl 0 rfl) ?_
    refine va_get (D := (dC, dI)) (ci := 10) (v := .ref (a0 2)) (C := RX12) (T := TX12) (N := 17) hx hb hts in_X12 hown hK hP 0 rfl rfl 6 (by decide) lk0 (fun _ h9 => h9) rfl dX12_lose_16 ?_
    refine va_get (D := (dC, dI)) (ci := 7) (v := .ref (a0 8)) (C := RX9) (T := TX9) (N := 9) hx hb hts in_X9 hown hK hP 1 rfl rfl 3 (by decide) lk1 (fun _ h9 => h9) rfl dX12_lose_19 ?_
    refine lv_dup hx hb dX12_lose_22 rfl ?_
    refine va_get (D := (dC, dI)) (ci := 6) (v := .int gcn.1) (C := RX8) (T := TX8) (N := 4) hx hb hts in_X8 hown hK hP 2 rfl rfl 0 (by decide) lk2 (fun _ h9 => h9) rfl dX12_lose_23 ?_
    refine lv_iconst (v := (1 : Int32)) hx hb dX12_lose_26 (by decide) ?_
    refine lv_isub hx hb dX12_lose_27 ?_
    refine va_put (D := (dC, dI)) (ci := 6) (v := .int (gcn.1 - (1 : Int32))) (ty := .int) (C := RX8) (T := TX8) (N := 4) hx hb hts in_X8 tyX8 tyX8_ok nmX8 hown hK hP hD hS 2 rfl rfl 0 (by decide) lk2 (fun _ h9 => h9) rfl (by decide +kernel) rfl rfl (Nat.le_of_ble_eq_true rfl) dX12_lose_28 (fun H locs hP hD hS => ?_)
    have hP : va_P (dC, dI) vwCl (w_X12_lose cy a0 gg gvn (((gcn.1 - (1 : Int32)), gcn.2))) H := hP
    have hD : va_D A (w_X12_lose cy a0 gg gvn (((gcn.1 - (1 : Int32)), gcn.2))) := hD
    refine lv_aload_n hx hb dX12_lose_31 rfl (lv_at hl 0 rfl) ?_
    refine va_get (D := (dC, dI)) (ci := 10) (v := .ref (a0 2)) (C := RX12) (T := TX12) (N := 17) hx hb hts in_X12 hown hK hP 0 rfl rfl 6 (by decide) lk0 (fun _ h9 => h9) rfl dX12_lose_32 ?_
    refine va_get (D := (dC, dI)) (ci := 7) (v := .ref (a0 8)) (C := RX9) (T := TX9) (N := 9) hx hb hts in_X9 hown hK hP 1 rfl rfl 3 (by decide) lk1 (fun _ h9 => h9) rfl dX12_lose_35 ?_
    refine va_get (D := (dC, dI)) (ci := 6) (v := .int (gcn.1 - (1 : Int32))) (C := RX8) (T := TX8) (N := 4) hx hb hts in_X8 hown hK hP 2 rfl rfl 0 (by decide) lk2 (fun _ h9 => h9) rfl dX12_lose_38 ?_
    exact W.iret (v := (gcn.1 - (1 : Int32))) hx hb hr (fun t ht hW => by rw [hqq]; have hh := Option.some.inj h; exact ⟨⟨(gcn.1 - (1 : Int32)), (((gcn.1 - (1 : Int32)), gcn.2)), rfl, ⟨fst_of hh, snd_of hh⟩, by rw [ht]; exact hP, va_K.moved hW.alike hK⟩, hS.F ht⟩) hS.2.2 dX12_lose_41
  · rw [if_pos c1] at h
    refine lv_iconst (v := (-1 : Int32)) hx hb dX12_lose_13 (by decide) ?_
    exact W.iret (v := (-1 : Int32)) hx hb hr (fun t ht hW => by rw [hqq]; have hh := Option.some.inj h; exact ⟨⟨(-1 : Int32), (gcn), rfl, ⟨fst_of hh, snd_of hh⟩, by rw [ht]; exact hP, va_K.moved hW.alike hK⟩, hS.F ht⟩) hS.2.2 dX12_lose_14

abbrev w_X12_chalked (cy : Nat → ClassId) (a0 : Nat → Nat) (gg : Int32 × Int32 × Int32 × Int32 × Int32 × Int32) (gvn : Int32 × Int32 × (Nat → Int32) × (Nat → Int32) × (Nat → Int32) × (Nat → Int32) × (Nat → Int32)) (gdn : Int32 × Int32 × (Nat → Int32) × (Nat → Int32) × (Nat → Int32) × (Nat → Int32)) (gcn : Int32 × (Nat → Int32) × (Nat → Int32) × (Nat → Int32)) : va_W := [(a0 0, .inr (10, [.ref (a0 1), .int (gg.1), .int (gg.2.1), .int (gg.2.2.1), .int (gg.2.2.2.1), .int (gg.2.2.2.2.1), .ref (a0 2), .ref (a0 17), .ref (a0 32), .int (gg.2.2.2.2.2), .ref (a0 47), .ref (a0 48), .ref (a0 49), .ref (a0 50), .ref (a0 68), .ref (a0 78), .ref (a0 80)])), (a0 2, .inr (7, [.int (gvn.1), .int (gvn.2.1), .ref (a0 3), .ref (a0 8), .ref (a0 12), .ref (a0 13), .ref (a0 14), .ref (a0 15), .ref (a0 16)])), (a0 3, .inr (2, [.int (gdn.1), .int (gdn.2.1), .ref (a0 4), .ref (a0 5), .ref (a0 6), .ref (a0 7)])), (a0 4, .inl (cy 1, 10, .inl (gdn.2.2.1))), (a0 5, .inl (cy 1, 10, .inl (gdn.2.2.2.1))), (a0 6, .inl (cy 1, 10, .inl (gdn.2.2.2.2.1))), (a0 7, .inl (cy 1, 50, .inl (gdn.2.2.2.2.2))), (a0 8, .inr (6, [.int (gcn.1), .ref (a0 9), .ref (a0 10), .ref (a0 11)])), (a0 9, .inl (cy 1, 12, .inl (gcn.2.1))), (a0 10, .inl (cy 1, 12, .inl (gcn.2.2.1))), (a0 11, .inl (cy 1, 12, .inl (gcn.2.2.2)))]
abbrev rm_X12_chalked : Room := { frames := 7, cells := 1, slots := 6, locals := 141 }
set_option maxHeartbeats 1000000 in
set_option maxRecDepth 100000 in
theorem c_X12_chalked (l : Launch) (dC : Nat → ClassId) (dI : Nat → Nat → Nat) (cy : Nat → ClassId) (z : Nat → Nat) (hl9 : l.stackTraces = false) (a0 : Nat → Nat) (gg : Int32 × Int32 × Int32 × Int32 × Int32 × Int32) (gvn : Int32 × Int32 × (Nat → Int32) × (Nat → Int32) × (Nat → Int32) × (Nat → Int32) × (Nat → Int32)) (gdn : Int32 × Int32 × (Nat → Int32) × (Nat → Int32) × (Nat → Int32) × (Nat → Int32)) (gcn : Int32 × (Nat → Int32) × (Nat → Int32) × (Nat → Int32)) (x1 : Int32) (sz : Nat) (R0 : (Int32 ⊕ Nat) × (Unit)) (h : p_X12_chalked gdn gcn x1 = some R0) : vx_Met l yX12_chalked wsX12_chalked rm_X12_chalked (va_Pc [.ref (a0 0), .int x1] (prS dC dI cy z (w_X12_chalked cy a0 gg gvn gdn gcn) sz)) (va_Qi (fun (r : Int32) (u : Unit) => Sum.inl r = R0.1 ∧ u = R0.2) (fun (_ : Unit) t => poC dC dI cy (w_X12_chalked cy a0 gg gvn gdn gcn) t) (va_A (w_X12_chalked cy a0 gg gvn gdn gcn) sz)) (vx_X (fun (u : Unit) => u = R0.2) (fun E (_ : Unit) t => exE E R0.1 ∧ poC dC dI cy (w_X12_chalked cy a0 gg gvn gdn gcn) t) (va_A (w_X12_chalked cy a0 gg gvn gdn gcn) sz)) 1 6 (va_A (w_X12_chalked cy a0 gg gvn gdn gcn) sz) := by
  refine vx_ofW (cc := cX12_chalked) (maxL := 5) (ret := (some .int)) (by decide) rfl ?_
  intro p e s m aa below meth c s₁ B hml htab hv
  obtain ⟨haa, ⟨hsz, hP, hK, hD0⟩, hX⟩ := hv
  have hx := B.exec
  have hb := B.bytes
  have hr := B.returns
  have hts := atoms_spec (ws := wsX12_chalked) B.pre
  have hown : s.vm.findClass RX12 = some m.cls := findClass_of_methodNamed B.named
  have hlocks := B.notSynchronized
  subst hsz
  have hD := hD0.self (sz := s.heap.size)
  obtain ⟨qq, hqq⟩ : ∃ qq, qq = (va_Qi (fun (r : Int32) (u : Unit) => Sum.inl r = R0.1 ∧ u = R0.2) (fun (_ : Unit) t => poC dC dI cy (w_X12_chalked cy a0 gg gvn gdn gcn) t) (va_A (w_X12_chalked cy a0 gg gvn gdn gcn) s.heap.size)) := ⟨_, rfl⟩
  obtain ⟨xx, hxx⟩ : ∃ xx, xx = (vx_X (fun (u : Unit) => u = R0.2) (fun E (_ : Unit) t => exE E R0.1 ∧ poC dC dI cy (w_X12_chalked cy a0 gg gvn gdn gcn) t) (va_A (w_X12_chalked cy a0 gg gvn gdn gcn) s.heap.size)) := ⟨_, rfl⟩
  rw [← hqq, ← hxx]
  generalize hAe : va_A (w_X12_chalked cy a0 gg gvn gdn gcn) s.heap.size = A at hD hqq hxx hX ⊢
  have hA : ∀ q : Nat, s.heap.size ≤ q → A q := fun q h => by rw [← hAe]; exact Or.inr h
  have hS : va_S A s.heap s.heap [] := va_S.rf
  have hl := lv_entry ([.ref (a0 0), .int x1]) (n := 5) (Nat.le_of_ble_eq_true rfl)
  have hE : entryFrame m aa 5 = F0 m 0 ((lg_sl ([.ref (a0 0), .int x1]) ++ List.replicate (5 - (lg_sl ([.ref (a0 0), .int x1])).length) Slot.unset).toArray) [] := by rw [haa]; exact lg_entry_eq m _ 5
  refine W.eq hE ?_
  generalize (lg_sl ([.ref (a0 0), .int x1]) ++ List.replicate (5 - (lg_sl ([.ref (a0 0), .int x1])).length) Slot.unset).toArray = ls at hl ⊢
  have hl : lv_has ls 5 [(0, .ref (a0 0)), (1, .int x1)] := hl
  change W p l e rm_X12_chalked s m aa below meth c s.heap [] 0 0 (vx_MQ below qq xx aa s 1 6 A) (F0 m 0 ls [])
  have hS0 := hS
  have lk0 := hts (.fieldLink RX12 20 "GoatDoors" "now" "LGoatDoors$Village;") (by decide +kernel)
  have lk1 := hts (.fieldLink RX12 149 "GoatDoors$Village" "receipts" "LGoatDoors$Receipts;") (by decide +kernel)
  have lk2 := hts (.fieldLink RX12 130 "GoatDoors$Village" "doors" "LGoatDoors$Doors;") (by decide +kernel)
  have in_X12 : ∀ w ∈ wsX120, w ∈ wsX12_chalked := by decide +kernel
  have in_X9 : ∀ w ∈ wsX90, w ∈ wsX12_chalked := by decide +kernel
  have c47 : ∀ (k13 : Int32 → Int32 → Int32 → Int32 → Option ((Int32 ⊕ Nat) × (Unit))) (hk13 : ∀ (x1 : Int32) (x2 : Int32) (x3 : Int32) (x4 : Int32) (H : Heap) (locs : List Loc) (ls : Array Slot), k13 x1 x2 x3 x4 = some R0 → va_P (dC, dI) vwCl (w_X12_chalked cy a0 gg gvn gdn gcn) H → va_D A (w_X12_chalked cy a0 gg gvn gdn gcn) → va_S A s.heap H locs → lv_has ls 5 [(0, .ref (a0 0)), (1, .int x1), (2, .int x2), (3, .int x3), (4, .int x4)] → W p l e rm_X12_chalked s m aa below meth c H locs 1 6 (vx_MQ below qq xx aa s 1 6 A) (F0 m 13 ls [])), ∀ (x1 : Int32) (x2 : Int32) (x3 : Int32) (x4 : Int32) (H : Heap) (locs : List Loc) (ls : Array Slot), p_X12_chalked_47 k13 gdn gcn x1 x2 x3 x4 = some R0 → va_P (dC, dI) vwCl (w_X12_chalked cy a0 gg gvn gdn gcn) H → va_D A (w_X12_chalked cy a0 gg gvn gdn gcn) → va_S A s.heap H locs → lv_has ls 5 [(0, .ref (a0 0)), (1, .int x1), (2, .int x2), (3, .int x3), (4, .int x4)] → W p l e rm_X12_chalked s m aa below meth c H locs 1 6 (vx_MQ below qq xx aa s 1 6 A) (F0 m 47 ls []) := by
    intro k13 hk13 x1 x2 x3 x4 H locs ls h hP hD hS hl
    unfold p_X12_chalked_47 at h
    refine lv_iinc (v := (x4 + (-1 : Int32))) (lv' := [(4, .int (x4 + (-1 : Int32))), (0, .ref (a0 0)), (1, .int x1), (2, .int x2), (3, .int x3)]) hx hb dX12_chalked_47 hl (k := 4) rfl rfl (by decide) rfl (fun ls hl => ?_)
    refine lv_goto (tgt := 13) hx hb dX12_chalked_50 (by decide) ?_
    exact hk13 x1 x2 x3 (x4 + (-1 : Int32)) H locs ls h hP hD hS (lv_sub hl [1, 2, 3, 4, 0] rfl)
  have c13 : ∀ (n : Nat), ∀ (x1 : Int32) (x2 : Int32) (x3 : Int32) (x4 : Int32) (H : Heap) (locs : List Loc) (ls : Array Slot), p_X12_chalked_13 gdn gcn n x1 x2 x3 x4 = some R0 → va_P (dC, dI) vwCl (w_X12_chalked cy a0 gg gvn gdn gcn) H → va_D A (w_X12_chalked cy a0 gg gvn gdn gcn) → va_S A s.heap H locs → lv_has ls 5 [(0, .ref (a0 0)), (1, .int x1), (2, .int x2), (3, .int x3), (4, .int x4)] → W p l e rm_X12_chalked s m aa below meth c H locs 1 6 (vx_MQ below qq xx aa s 1 6 A) (F0 m 13 ls []) := by
    intro  n
    induction n with
    | zero => intro x1 x2 x3 x4 H locs ls h; exact no_some h
    | succ n ih =>
      intro x1 x2 x3 x4 H locs ls h hP hD hS hl
      rw [p_X12_chalked_13.eq_2] at h
      refine lv_iload hx hb dX12_chalked_13 (lv_at hl 4 rfl) ?_
      refine lv_iconst (v := (2 : Int32)) hx hb dX12_chalked_15 (by decide) ?_
      refine lv_icmp_lt (tgt := 53) hx hb dX12_chalked_16 (by decide) (fun c1 => ?_) (fun c1 => ?_)
      · rw [if_pos c1] at h
        refine lv_iload_n hx hb dX12_chalked_53 rfl (lv_at hl 1 rfl) ?_
        refine lv_if_ne (tgt := 61) hx hb dX12_chalked_54 (by decide) (fun c2 => ?_) (fun c2 => ?_)
        · rw [if_neg c2] at h
          refine lv_iload_n hx hb dX12_chalked_61 rfl (lv_at hl 3 rfl) ?_
          refine vx_ret ?_
          exact W.iret (v := x3) hx hb hr (fun t ht hW => by rw [hqq]; have hh := Option.some.inj h; exact ⟨⟨x3, (()), rfl, ⟨fst_of hh, snd_of hh⟩, by rw [ht]; exact hP, va_K.moved hW.alike hK⟩, hS.F ht⟩) hS.2.2 dX12_chalked_62
        · rw [if_pos c2] at h
          refine lv_iload_n hx hb dX12_chalked_57 rfl (lv_at hl 2 rfl) ?_
          refine lv_goto (tgt := 62) hx hb dX12_chalked_58 (by decide) ?_
          refine vx_ret ?_
          exact W.iret (v := x2) hx hb hr (fun t ht hW => by rw [hqq]; have hh := Option.some.inj h; exact ⟨⟨x2, (()), rfl, ⟨fst_of hh, snd_of hh⟩, by rw [ht]; exact hP, va_K.moved hW.alike hK⟩, hS.F ht⟩) hS.2.2 dX12_chalked_62
      · rw [if_neg c1] at h
        refine lv_aload_n hx hb dX12_chalked_19 rfl (lv_at hl 0 rfl) ?_
        refine va_get (D := (dC, dI)) (ci := 10) (v := .ref (a0 2)) (C := RX12) (T := TX12) (N := 17) hx hb hts in_X12 hown hK hP 0 rfl rfl 6 (by decide) lk0 (fun _ h9 => h9) rfl dX12_chalked_20 ?_
        refine va_get (D := (dC, dI)) (ci := 7) (v := .ref (a0 8)) (C := RX9) (T := TX9) (N := 9) hx hb hts in_X9 hown hK hP 1 rfl rfl 3 (by decide) lk1 (fun _ h9 => h9) rfl dX12_chalked_23 ?_
        refine lv_aload_n hx hb dX12_chalked_26 rfl (lv_at hl 0 rfl) ?_
        refine va_get (D := (dC, dI)) (ci := 10) (v := .ref (a0 2)) (C := RX12) (T := TX12) (N := 17) hx hb hts in_X12 hown hK hP 0 rfl rfl 6 (by decide) lk0 (fun _ h9 => h9) rfl dX12_chalked_27 ?_
        refine va_get (D := (dC, dI)) (ci := 7) (v := .ref (a0 3)) (C := RX9) (T := TX9) (N := 9) hx hb hts in_X9 hown hK hP 1 rfl rfl 2 (by decide) lk2 (fun _ h9 => h9) rfl dX12_chalked_30 ?_
        refine lv_iload hx hb dX12_chalked_33 (lv_at hl 4 rfl) ?_
        obtain ⟨v3, hv4, h⟩ := ok_bind h
        refine cl_vi (w2 := fun (_ : Unit) => w_X12_chalked cy a0 gg gvn gdn gcn) (As := [.ref (a0 3), .int x4]) (rest := []) ⟨hx, hb, hml, hown, hts⟩ (c_X8_fit l dC dI cy (fun k => a0 (k + 8)) (fun k => a0 (k + 3)) gcn gdn x4 H.size v3 hv4) (cwV 2 hts gX12_chalked_X8_fit rfl rfl rfl (by decide +kernel) ⟨Nat.le_of_ble_eq_true rfl, Nat.le_of_ble_eq_true rfl⟩) (va_recv hK hP (ci := 6) (q0 := 7) rfl rfl) cl_blind (cl_pre hK hP hD [7, 8, 9, 10, 2, 3, 4, 5, 6] (by decide) rfl) hP hD hS hA [7, 8, 9, 10, 2, 3, 4, 5, 6] rfl rfl hl.1 rfl (lv_room (Nat.le_of_ble_eq_true rfl)) dX12_chalked_35 ⟨Nat.le_of_ble_eq_true rfl, Nat.le_of_ble_eq_true rfl⟩ ⟨rfl, rfl⟩ (fun _ => updR [7, 8, 9, 10, 2, 3, 4, 5, 6] rfl) (fun r u H locs hw hP hD hS => ?_)
        have hw := hw.symm
        subst hw
        have hP : va_P (dC, dI) vwCl (w_X12_chalked cy a0 gg gvn gdn gcn) H := hP
        have hD : va_D A (w_X12_chalked cy a0 gg gvn gdn gcn) := hD
        refine lv_if_eq (tgt := 47) hx hb dX12_chalked_38 (by decide) (fun c5 => ?_) (fun c5 => ?_)
        · rw [if_pos c5] at h
          exact c47 (p_X12_chalked_13 gdn gcn n) ih x1 x2 x3 x4 H locs ls h hP hD hS (lv_sub hl [0, 1, 2, 3, 4] rfl)
        · rw [if_neg c5] at h
          refine lv_iinc (v := (x2 + (1 : Int32))) (lv' := [(2, .int (x2 + (1 : Int32))), (0, .ref (a0 0)), (1, .int x1), (3, .int x3), (4, .int x4)]) hx hb dX12_chalked_41 hl (k := 2) rfl rfl (by decide) rfl (fun ls hl => ?_)
          refine lv_iload hx hb dX12_chalked_44 (lv_at hl 4 rfl) ?_
          refine lv_istore_n (lv' := [(3, .int x4), (2, .int (x2 + (1 : Int32))), (0, .ref (a0 0)), (1, .int x1), (4, .int x4)]) hx hb dX12_chalked_46 rfl hl (by decide) rfl (fun ls hl => ?_)
          exact c47 (p_X12_chalked_13 gdn gcn n) ih x1 (x2 + (1 : Int32)) x4 x4 H locs ls h hP hD hS (lv_sub hl [2, 3, 1, 0, 4] rfl)
  obtain ⟨H, hH⟩ : ∃ H : Heap, H = s.heap := ⟨_, rfl⟩
  obtain ⟨locs, hlocs⟩ : ∃ locs : List Loc, locs = [] := ⟨_, rfl⟩
  have hS : va_S A s.heap H locs := by rw [hH, hlocs]; exact hS
  rw [← hH] at hP
  suffices hg : W p l e rm_X12_chalked s m aa below meth c H locs 0 0 (vx_MQ below qq xx aa s 1 6 A) (F0 m 0 ls []) by subst hH; subst hlocs; exact hg
  unfold p_X12_chalked at h
  refine lv_iload_n hx hb dX12_chalked_0 rfl (lv_at hl 1 rfl) ?_
  refine lv_iconst (v := (1 : Int32)) hx hb dX12_chalked_1 (by decide) ?_
  obtain ⟨v1, hv2, h⟩ := ok_bind h
  refine cx_sv (w2 := fun (_ : Unit) => w_X12_chalked cy a0 gg gvn gdn gcn) (w2x := fun (_ : Unit) => w_X12_chalked cy a0 gg gvn gdn gcn) (As := [.int x1, .int (1 : Int32)]) (rest := []) ⟨hx, hb, hml, hown, hts⟩ (c_X12_needWhat l dC dI cy z hl9  x1 (1 : Int32) H.size v1 hv2) (va_cwS 2 hts gX12_chalked_X12_needWhat rfl rfl rfl (by decide +kernel) ⟨Nat.le_of_ble_eq_true rfl, Nat.le_of_ble_eq_true rfl⟩) cl_blindS (cl_preS hK hP hD hS hA hX [] (by decide) rfl) hP hD hS hA [] rfl rfl hl.1 rfl (lv_room (Nat.le_of_ble_eq_true rfl)) dX12_chalked_2 ⟨Nat.le_of_ble_eq_true rfl, Nat.le_of_ble_eq_true rfl⟩ (cells' := 1) (slots' := 6) ⟨rfl, rfl⟩ (fun _ => updR [] rfl) (fun _ => updR [] rfl) (fun E ce q9 u H locs hw hE hP hD hS hc1 hc2 hc3 => ?_) (fun u H locs hw hP hD hS => ?_)
  · subst hw
    have hP : va_P (dC, dI) vwCl (w_X12_chalked cy a0 gg gvn gdn gcn) H := hP
    obtain ⟨hE1, hE2⟩ := exE_pass hE h
    exact vx_out (fun x9 hx9 => (htab x9 hx9).elim) hlocks hc1 hc2 hc3 (fun t h1 h2 => by rw [hxx]; exact ⟨_, hE2.symm, ⟨hE1, by rw [h1]; exact hP, va_K.moved h2 hK⟩, hS.F h1⟩) hS.2.2 (by decide) (by decide)
  obtain ⟨hw1, hw2⟩ := hw
  subst hw2
  rw [← hw1] at h
  dsimp only [xb] at h
  have hP : va_P (dC, dI) vwCl (w_X12_chalked cy a0 gg gvn gdn gcn) H := hP
  have hD : va_D A (w_X12_chalked cy a0 gg gvn gdn gcn) := hD
  refine lv_iconst (v := (0 : Int32)) hx hb dX12_chalked_5 (by decide) ?_
  refine lv_istore_n (lv' := [(2, .int (0 : Int32)), (0, .ref (a0 0)), (1, .int x1)]) hx hb dX12_chalked_6 rfl hl (by decide) rfl (fun ls hl => ?_)
  refine lv_iconst (v := (-1 : Int32)) hx hb dX12_chalked_7 (by decide) ?_
  refine lv_istore_n (lv' := [(3, .int (-1 : Int32)), (2, .int (0 : Int32)), (0, .ref (a0 0)), (1, .int x1)]) hx hb dX12_chalked_8 rfl hl (by decide) rfl (fun ls hl => ?_)
  refine lv_bipush (v := (40 : Int32)) hx hb dX12_chalked_9 (by decide) ?_
  refine lv_istore (lv' := [(4, .int (40 : Int32)), (3, .int (-1 : Int32)), (2, .int (0 : Int32)), (0, .ref (a0 0)), (1, .int x1)]) hx hb dX12_chalked_11 hl (by decide) rfl (fun ls hl => ?_)
  exact c13 fu x1 (0 : Int32) (-1 : Int32) (40 : Int32) H locs ls h hP hD hS (lv_sub hl [3, 4, 2, 1, 0] rfl)

abbrev w_X12_fewestToVoid (cy : Nat → ClassId) (a0 : Nat → Nat) (gg : Int32 × Int32 × Int32 × Int32 × Int32 × Int32) (gvn : Int32 × Int32 × (Nat → Int32) × (Nat → Int32) × (Nat → Int32) × (Nat → Int32) × (Nat → Int32)) (gdn : Int32 × Int32 × (Nat → Int32) × (Nat → Int32) × (Nat → Int32) × (Nat → Int32)) : va_W := [(a0 0, .inr (10, [.ref (a0 1), .int (gg.1), .int (gg.2.1), .int (gg.2.2.1), .int (gg.2.2.2.1), .int (gg.2.2.2.2.1), .ref (a0 2), .ref (a0 17), .ref (a0 32), .int (gg.2.2.2.2.2), .ref (a0 47), .ref (a0 48), .ref (a0 49), .ref (a0 50), .ref (a0 68), .ref (a0 78), .ref (a0 80)])), (a0 2, .inr (7, [.int (gvn.1), .int (gvn.2.1), .ref (a0 3), .ref (a0 8), .ref (a0 12), .ref (a0 13), .ref (a0 14), .ref (a0 15), .ref (a0 16)])), (a0 3, .inr (2, [.int (gdn.1), .int (gdn.2.1), .ref (a0 4), .ref (a0 5), .ref (a0 6), .ref (a0 7)])), (a0 4, .inl (cy 1, 10, .inl (gdn.2.2.1))), (a0 5, .inl (cy 1, 10, .inl (gdn.2.2.2.1))), (a0 6, .inl (cy 1, 10, .inl (gdn.2.2.2.2.1))), (a0 7, .inl (cy 1, 50, .inl (gdn.2.2.2.2.2))), (a0 12, .inl (cy 1, 5, .inl (gvn.2.2.1))), (a0 13, .inl (cy 1, 5, .inl (gvn.2.2.2.1))), (a0 14, .inl (cy 1, 5, .inl (gvn.2.2.2.2.1))), (a0 15, .inl (cy 1, 5, .inl (gvn.2.2.2.2.2.1))), (a0 16, .inl (cy 1, 5, .inl (gvn.2.2.2.2.2.2)))]
abbrev rm_X12_fewestToVoid : Room := { frames := 4, cells := 0, slots := 0, locals := 93 }
set_option maxHeartbeats 1000000 in
set_option maxRecDepth 100000 in
theorem c_X12_fewestToVoid (l : Launch) (dC : Nat → ClassId) (dI : Nat → Nat → Nat) (cy : Nat → ClassId) (a0 : Nat → Nat) (gg : Int32 × Int32 × Int32 × Int32 × Int32 × Int32) (gvn : Int32 × Int32 × (Nat → Int32) × (Nat → Int32) × (Nat → Int32) × (Nat → Int32) × (Nat → Int32)) (gdn : Int32 × Int32 × (Nat → Int32) × (Nat → Int32) × (Nat → Int32) × (Nat → Int32)) (x1 : Int32) (sz : Nat) (R0 : Int32) (h : p_X12_fewestToVoid gvn gdn x1 = some R0) : Met l yX12_fewestToVoid wsX12_fewestToVoid rm_X12_fewestToVoid (va_Pc [.ref (a0 0), .int x1] (prC dC dI cy (w_X12_fewestToVoid cy a0 gg gvn gdn) sz)) (va_Qi (fun (r : Int32) (_ : Unit) => r = R0) (fun (_ : Unit) t => poC dC dI cy (w_X12_fewestToVoid cy a0 gg gvn gdn) t) (va_A (w_X12_fewestToVoid cy a0 gg gvn gdn) sz)) 0 0 (va_A (w_X12_fewestToVoid cy a0 gg gvn gdn) sz) := by
  refine Met.ofW (cc := cX12_fewestToVoid) (maxL := 3) (ret := (some .int)) (by decide) rfl ?_
  intro p e s m aa below meth c s₁ B hml hv
  obtain ⟨haa, hsz, hP, hK, hD0⟩ := hv
  have hx := B.exec
  have hb := B.bytes
  have hr := B.returns
  have hts := atoms_spec (ws := wsX12_fewestToVoid) B.pre
  have hown : s.vm.findClass RX12 = some m.cls := findClass_of_methodNamed B.named
  have hlocks := B.notSynchronized
  subst hsz
  have hD := hD0.self (sz := s.heap.size)
  obtain ⟨qq, hqq⟩ : ∃ qq, qq = (va_Qi (fun (r : Int32) (_ : Unit) => r = R0) (fun (_ : Unit) t => poC dC dI cy (w_X12_fewestToVoid cy a0 gg gvn gdn) t) (va_A (w_X12_fewestToVoid cy a0 gg gvn gdn) s.heap.size)) := ⟨_, rfl⟩
  rw [← hqq]
  generalize hAe : va_A (w_X12_fewestToVoid cy a0 gg gvn gdn) s.heap.size = A at hD hqq ⊢
  have hA : ∀ q : Nat, s.heap.size ≤ q → A q := fun q h => by rw [← hAe]; exact Or.inr h
  have hS : va_S A s.heap s.heap [] := va_S.rf
  have hl := lv_entry ([.ref (a0 0), .int x1]) (n := 3) (Nat.le_of_ble_eq_true rfl)
  have hE : entryFrame m aa 3 = F0 m 0 ((lg_sl ([.ref (a0 0), .int x1]) ++ List.replicate (3 - (lg_sl ([.ref (a0 0), .int x1])).length) Slot.unset).toArray) [] := by rw [haa]; exact lg_entry_eq m _ 3
  refine W.eq hE ?_
  generalize (lg_sl ([.ref (a0 0), .int x1]) ++ List.replicate (3 - (lg_sl ([.ref (a0 0), .int x1])).length) Slot.unset).toArray = ls at hl ⊢
  have hl : lv_has ls 3 [(0, .ref (a0 0)), (1, .int x1)] := hl
  change W p l e rm_X12_fewestToVoid s m aa below meth c s.heap [] 0 0 (MQ below qq aa s 0 0 A) (F0 m 0 ls [])
  have hS0 := hS
  have lk0 := hts (.fieldLink RX12 20 "GoatDoors" "now" "LGoatDoors$Village;") (by decide +kernel)
  have lk1 := hts (.fieldLink RX12 130 "GoatDoors$Village" "doors" "LGoatDoors$Doors;") (by decide +kernel)
  have lk2 := hts (.fieldLink RX12 142 "GoatDoors$Village" "base" "I") (by decide +kernel)
  have lk3 := hts (.fieldLink RX12 139 "GoatDoors$Doors" "law" "I") (by decide +kernel)
  have in_X12 : ∀ w ∈ wsX120, w ∈ wsX12_fewestToVoid := by decide +kernel
  have in_X9 : ∀ w ∈ wsX90, w ∈ wsX12_fewestToVoid := by decide +kernel
  have in_X4 : ∀ w ∈ wsX40, w ∈ wsX12_fewestToVoid := by decide +kernel
  have c25 : ∀ (n : Nat), ∀ (x1 : Int32) (x2 : Int32) (H : Heap) (locs : List Loc) (ls : Array Slot), p_X12_fewestToVoid_25 gvn gdn n x1 x2 = some R0 → va_P (dC, dI) vwCl (w_X12_fewestToVoid cy a0 gg gvn gdn) H → va_D A (w_X12_fewestToVoid cy a0 gg gvn gdn) → va_S A s.heap H locs → lv_has ls 3 [(0, .ref (a0 0)), (1, .int x1), (2, .int x2)] → W p l e rm_X12_fewestToVoid s m aa below meth c H locs 0 0 (MQ below qq aa s 0 0 A) (F0 m 25 ls []) := by
    intro  n
    induction n with
    | zero => intro x1 x2 H locs ls h; exact no_some h
    | succ n ih =>
      intro x1 x2 H locs ls h hP hD hS hl
      rw [p_X12_fewestToVoid_25.eq_2] at h
      refine lv_iload_n hx hb dX12_fewestToVoid_25 rfl (lv_at hl 2 rfl) ?_
      refine lv_iconst (v := (2 : Int32)) hx hb dX12_fewestToVoid_26 (by decide) ?_
      refine lv_icmp_lt (tgt := 61) hx hb dX12_fewestToVoid_27 (by decide) (fun c1 => ?_) (fun c1 => ?_)
      · rw [if_pos c1] at h
        refine lv_iconst (v := (-1 : Int32)) hx hb dX12_fewestToVoid_61 (by decide) ?_
        exact W.iret (v := (-1 : Int32)) hx hb hr (fun t ht hW => by rw [hqq]; have hh := Option.some.inj h; exact ⟨⟨(-1 : Int32), (()), rfl, Option.some.inj h, by rw [ht]; exact hP, va_K.moved hW.alike hK⟩, hS.F ht⟩) hS.2.2 dX12_fewestToVoid_62
      · rw [if_neg c1] at h
        refine lv_aload_n hx hb dX12_fewestToVoid_30 rfl (lv_at hl 0 rfl) ?_
        refine va_get (D := (dC, dI)) (ci := 10) (v := .ref (a0 2)) (C := RX12) (T := TX12) (N := 17) hx hb hts in_X12 hown hK hP 0 rfl rfl 6 (by decide) lk0 (fun _ h9 => h9) rfl dX12_fewestToVoid_31 ?_
        refine va_get (D := (dC, dI)) (ci := 7) (v := .ref (a0 3)) (C := RX9) (T := TX9) (N := 9) hx hb hts in_X9 hown hK hP 1 rfl rfl 2 (by decide) lk1 (fun _ h9 => h9) rfl dX12_fewestToVoid_34 ?_
        refine lv_iload_n hx hb dX12_fewestToVoid_37 rfl (lv_at hl 1 rfl) ?_
        refine lv_iload_n hx hb dX12_fewestToVoid_38 rfl (lv_at hl 2 rfl) ?_
        obtain ⟨v2, hv3, h⟩ := ok_bind h
        refine cl_vi (w2 := fun (_ : Unit) => w_X12_fewestToVoid cy a0 gg gvn gdn) (As := [.int x1, .int x2]) (rest := []) ⟨hx, hb, hml, hown, hts⟩ (c_X4_worthIn l dC dI cy (fun k => a0 (k + 3)) gdn x1 x2 H.size v2 hv3) (cwV 2 hts gX12_fewestToVoid_X4_worthIn rfl rfl rfl (by decide +kernel) ⟨Nat.le_of_ble_eq_true rfl, Nat.le_of_ble_eq_true rfl⟩) (va_recv hK hP (ci := 2) (q0 := 2) rfl rfl) cl_blind (cl_pre hK hP hD [2, 3, 4, 5, 6] (by decide) rfl) hP hD hS hA [2, 3, 4, 5, 6] rfl rfl hl.1 rfl (lv_room (Nat.le_of_ble_eq_true rfl)) dX12_fewestToVoid_39 ⟨Nat.le_of_ble_eq_true rfl, Nat.le_of_ble_eq_true rfl⟩ ⟨rfl, rfl⟩ (fun _ => updR [2, 3, 4, 5, 6] rfl) (fun r u H locs hw hP hD hS => ?_)
        have hw := hw.symm
        subst hw
        have hP : va_P (dC, dI) vwCl (w_X12_fewestToVoid cy a0 gg gvn gdn) H := hP
        have hD : va_D A (w_X12_fewestToVoid cy a0 gg gvn gdn) := hD
        refine lv_if_ne (tgt := 55) hx hb dX12_fewestToVoid_42 (by decide) (fun c4 => ?_) (fun c4 => ?_)
        · rw [if_neg c4] at h
          refine lv_iinc (v := (x2 + (-1 : Int32))) (lv' := [(2, .int (x2 + (-1 : Int32))), (0, .ref (a0 0)), (1, .int x1)]) hx hb dX12_fewestToVoid_55 hl (k := 2) rfl rfl (by decide) rfl (fun ls hl => ?_)
          refine lv_goto (tgt := 25) hx hb dX12_fewestToVoid_58 (by decide) ?_
          exact ih x1 (x2 + (-1 : Int32)) H locs ls h hP hD hS (lv_sub hl [1, 2, 0] rfl)
        · rw [if_pos c4] at h
          refine lv_aload_n hx hb dX12_fewestToVoid_45 rfl (lv_at hl 0 rfl) ?_
          refine va_get (D := (dC, dI)) (ci := 10) (v := .ref (a0 2)) (C := RX12) (T := TX12) (N := 17) hx hb hts in_X12 hown hK hP 0 rfl rfl 6 (by decide) lk0 (fun _ h9 => h9) rfl dX12_fewestToVoid_46 ?_
          refine va_get (D := (dC, dI)) (ci := 7) (v := .int gvn.2.1) (C := RX9) (T := TX9) (N := 9) hx hb hts in_X9 hown hK hP 1 rfl rfl 1 (by decide) lk2 (fun _ h9 => h9) rfl dX12_fewestToVoid_49 ?_
          refine lv_iload_n hx hb dX12_fewestToVoid_52 rfl (lv_at hl 2 rfl) ?_
          refine lv_isub hx hb dX12_fewestToVoid_53 ?_
          exact W.iret (v := (gvn.2.1 - x2)) hx hb hr (fun t ht hW => by rw [hqq]; have hh := Option.some.inj h; exact ⟨⟨(gvn.2.1 - x2), (()), rfl, Option.some.inj h, by rw [ht]; exact hP, va_K.moved hW.alike hK⟩, hS.F ht⟩) hS.2.2 dX12_fewestToVoid_54
  obtain ⟨H, hH⟩ : ∃ H : Heap, H = s.heap := ⟨_, rfl⟩
  obtain ⟨locs, hlocs⟩ : ∃ locs : List Loc, locs = [] := ⟨_, rfl⟩
  have hS : va_S A s.heap H locs := by rw [hH, hlocs]; exact hS
  rw [← hH] at hP
  suffices hg : W p l e rm_X12_fewestToVoid s m aa below meth c H locs 0 0 (MQ below qq aa s 0 0 A) (F0 m 0 ls []) by subst hH; subst hlocs; exact hg
  unfold p_X12_fewestToVoid at h
  refine lv_aload_n hx hb dX12_fewestToVoid_0 rfl (lv_at hl 0 rfl) ?_
  refine va_get (D := (dC, dI)) (ci := 10) (v := .ref (a0 2)) (C := RX12) (T := TX12) (N := 17) hx hb hts in_X12 hown hK hP 0 rfl rfl 6 (by decide) lk0 (fun _ h9 => h9) rfl dX12_fewestToVoid_1 ?_
  refine va_get (D := (dC, dI)) (ci := 7) (v := .ref (a0 3)) (C := RX9) (T := TX9) (N := 9) hx hb hts in_X9 hown hK hP 1 rfl rfl 2 (by decide) lk1 (fun _ h9 => h9) rfl dX12_fewestToVoid_4 ?_
  refine va_get (D := (dC, dI)) (ci := 2) (v := .int gdn.1) (C := RX4) (T := TX4) (N := 6) hx hb hts in_X4 hown hK hP 2 rfl rfl 0 (by decide) lk3 (fun _ h9 => h9) rfl dX12_fewestToVoid_7 ?_
  refine lv_if_eq (tgt := 15) hx hb dX12_fewestToVoid_10 (by decide) (fun c1 => ?_) (fun c1 => ?_)
  · rw [if_pos c1] at h
    refine lv_aload_n hx hb dX12_fewestToVoid_15 rfl (lv_at hl 0 rfl) ?_
    refine va_get (D := (dC, dI)) (ci := 10) (v := .ref (a0 2)) (C := RX12) (T := TX12) (N := 17) hx hb hts in_X12 hown hK hP 0 rfl rfl 6 (by decide) lk0 (fun _ h9 => h9) rfl dX12_fewestToVoid_16 ?_
    refine va_get (D := (dC, dI)) (ci := 7) (v := .int gvn.2.1) (C := RX9) (T := TX9) (N := 9) hx hb hts in_X9 hown hK hP 1 rfl rfl 1 (by decide) lk2 (fun _ h9 => h9) rfl dX12_fewestToVoid_19 ?_
    refine lv_iconst (v := (1 : Int32)) hx hb dX12_fewestToVoid_22 (by decide) ?_
    refine lv_isub hx hb dX12_fewestToVoid_23 ?_
    refine lv_istore_n (lv' := [(2, .int (gvn.2.1 - (1 : Int32))), (0, .ref (a0 0)), (1, .int x1)]) hx hb dX12_fewestToVoid_24 rfl hl (by decide) rfl (fun ls hl => ?_)
    exact c25 fu x1 (gvn.2.1 - (1 : Int32)) H locs ls h hP hD hS (lv_sub hl [1, 2, 0] rfl)
  · rw [if_neg c1] at h
    refine lv_iconst (v := (-1 : Int32)) hx hb dX12_fewestToVoid_13 (by decide) ?_
    exact W.iret (v := (-1 : Int32)) hx hb hr (fun t ht hW => by rw [hqq]; have hh := Option.some.inj h; exact ⟨⟨(-1 : Int32), (()), rfl, Option.some.inj h, by rw [ht]; exact hP, va_K.moved hW.alike hK⟩, hS.F ht⟩) hS.2.2 dX12_fewestToVoid_14
