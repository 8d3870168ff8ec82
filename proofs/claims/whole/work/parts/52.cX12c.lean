abbrev w_J6_bitCount_0f7a4 (cy : Nat → ClassId)   : va_W := []
abbrev rm_J6_bitCount_0f7a4 : Room := { frames := 0, cells := 0, slots := 0, locals := 0 }
set_option maxHeartbeats 1000000 in
set_option maxRecDepth 100000 in
theorem c_J6_bitCount_0f7a4 (l : Launch) (dC : Nat → ClassId) (dI : Nat → Nat → Nat) (cy : Nat → ClassId)   (x0 : Int32) (sz : Nat) (R0 : Int32) (h : p_J6_bitCount_0f7a4 x0 = some R0) : Met l yJ6_bitCount_0f7a4 wsJ6_bitCount_0f7a4 rm_J6_bitCount_0f7a4 (va_Pc [.int x0] (prC dC dI cy (w_J6_bitCount_0f7a4 cy  ) sz)) (va_Qi (fun (r : Int32) (_ : Unit) => r = R0) (fun (_ : Unit) t => poC dC dI cy (w_J6_bitCount_0f7a4 cy  ) t) (va_A (w_J6_bitCount_0f7a4 cy  ) sz)) 0 0 (va_A (w_J6_bitCount_0f7a4 cy  ) sz) := by
  refine Met.ofW (cc := cJ6_bitCount_0f7a4) (maxL := 1) (ret := (some .int)) (by decide) rfl ?_
  intro p e s m aa below meth c s₁ B hml hv
  obtain ⟨haa, hsz, hP, hK, hD0⟩ := hv
  have hx := B.exec
  have hb := B.bytes
  have hr := B.returns
  have hts := atoms_spec (ws := wsJ6_bitCount_0f7a4) B.pre
  have hown : s.vm.findClass RJ6 = some m.cls := findClass_of_methodNamed B.named
  have hlocks := B.notSynchronized
  subst hsz
  have hD := hD0.self (sz := s.heap.size)
  obtain ⟨qq, hqq⟩ : ∃ qq, qq = (va_Qi (fun (r : Int32) (_ : Unit) => r = R0) (fun (_ : Unit) t => poC dC dI cy (w_J6_bitCount_0f7a4 cy  ) t) (va_A (w_J6_bitCount_0f7a4 cy  ) s.heap.size)) := ⟨_, rfl⟩
  rw [← hqq]
  generalize hAe : va_A (w_J6_bitCount_0f7a4 cy  ) s.heap.size = A at hD hqq ⊢
  have hA : ∀ q : Nat, s.heap.size ≤ q → A q := fun q h => by rw [← hAe]; exact Or.inr h
  have hS : va_S A s.heap s.heap [] := va_S.rf
  have hl := lv_entry ([.int x0]) (n := 1) (Nat.le_of_ble_eq_true rfl)
  have hE : entryFrame m aa 1 = F0 m 0 ((lg_sl ([.int x0]) ++ List.replicate (1 - (lg_sl ([.int x0])).length) Slot.unset).toArray) [] := by rw [haa]; exact lg_entry_eq m _ 1
  refine W.eq hE ?_
  generalize (lg_sl ([.int x0]) ++ List.replicate (1 - (lg_sl ([.int x0])).length) Slot.unset).toArray = ls at hl ⊢
  have hl : lv_has ls 1 [(0, .int x0)] := hl
  change W p l e rm_J6_bitCount_0f7a4 s m aa below meth c s.heap [] 0 0 (MQ below qq aa s 0 0 A) (F0 m 0 ls [])
  have hS0 := hS
  have lk0 := hts (.constant RJ6 265 (1431655765 : Int32)) (by decide +kernel)
  have lk1 := hts (.constant RJ6 266 (858993459 : Int32)) (by decide +kernel)
  have lk2 := hts (.constant RJ6 267 (252645135 : Int32)) (by decide +kernel)
  obtain ⟨H, hH⟩ : ∃ H : Heap, H = s.heap := ⟨_, rfl⟩
  obtain ⟨locs, hlocs⟩ : ∃ locs : List Loc, locs = [] := ⟨_, rfl⟩
  have hS : va_S A s.heap H locs := by rw [hH, hlocs]; exact hS
  rw [← hH] at hP
  suffices hg : W p l e rm_J6_bitCount_0f7a4 s m aa below meth c H locs 0 0 (MQ below qq aa s 0 0 A) (F0 m 0 ls []) by subst hH; subst hlocs; exact hg
  unfold p_J6_bitCount_0f7a4 at h
  refine lv_iload_n hx hb dJ6_bitCount_0f7a4_0 rfl (lv_at hl 0 rfl) ?_
  refine lv_iload_n hx hb dJ6_bitCount_0f7a4_1 rfl (lv_at hl 0 rfl) ?_
  refine lv_iconst (v := (1 : Int32)) hx hb dJ6_bitCount_0f7a4_2 (by decide) ?_
  refine lv_iushr hx hb dJ6_bitCount_0f7a4_3 rfl ?_
  refine lv_ldcw hx hb hown lk0 dJ6_bitCount_0f7a4_4 ?_
  refine lv_iand hx hb dJ6_bitCount_0f7a4_7 ?_
  refine lv_isub hx hb dJ6_bitCount_0f7a4_8 ?_
  refine lv_istore_n (lv' := [(0, .int (x0 - ((x0.toUInt32 >>> ((1 : Int32).toUInt32 &&& Int32.toUInt32 31)).toInt32 &&& (1431655765 : Int32))))]) hx hb dJ6_bitCount_0f7a4_9 rfl hl (by decide) rfl (fun ls hl => ?_)
  refine lv_iload_n hx hb dJ6_bitCount_0f7a4_10 rfl (lv_at hl 0 rfl) ?_
  refine lv_ldcw hx hb hown lk1 dJ6_bitCount_0f7a4_11 ?_
  refine lv_iand hx hb dJ6_bitCount_0f7a4_14 ?_
  refine lv_iload_n hx hb dJ6_bitCount_0f7a4_15 rfl (lv_at hl 0 rfl) ?_
  refine lv_iconst (v := (2 : Int32)) hx hb dJ6_bitCount_0f7a4_16 (by decide) ?_
  refine lv_iushr hx hb dJ6_bitCount_0f7a4_17 rfl ?_
  refine lv_ldcw hx hb hown lk1 dJ6_bitCount_0f7a4_18 ?_
  refine lv_iand hx hb dJ6_bitCount_0f7a4_21 ?_
  refine lv_iadd hx hb dJ6_bitCount_0f7a4_22 ?_
  obtain ⟨v1, hv2, h⟩ := ok_bind h
  refine lv_topi (fun y3 ey3 => ?_)
  have ey3 := (ey3.trans (Option.some.inj hv2)).symm
  subst ey3
  refine lv_istore_n (lv' := [(0, .int v1)]) hx hb dJ6_bitCount_0f7a4_23 rfl hl (by decide) rfl (fun ls hl => ?_)
  refine lv_iload_n hx hb dJ6_bitCount_0f7a4_24 rfl (lv_at hl 0 rfl) ?_
  refine lv_iload_n hx hb dJ6_bitCount_0f7a4_25 rfl (lv_at hl 0 rfl) ?_
  refine lv_iconst (v := (4 : Int32)) hx hb dJ6_bitCount_0f7a4_26 (by decide) ?_
  refine lv_iushr hx hb dJ6_bitCount_0f7a4_27 rfl ?_
  refine lv_iadd hx hb dJ6_bitCount_0f7a4_28 ?_
  refine lv_ldcw hx hb hown lk2 dJ6_bitCount_0f7a4_29 ?_
  refine lv_iand hx hb dJ6_bitCount_0f7a4_32 ?_
  refine lv_istore_n (lv' := [(0, .int ((v1 + (v1.toUInt32 >>> ((4 : Int32).toUInt32 &&& Int32.toUInt32 31)).toInt32) &&& (252645135 : Int32)))]) hx hb dJ6_bitCount_0f7a4_33 rfl hl (by decide) rfl (fun ls hl => ?_)
  refine lv_iload_n hx hb dJ6_bitCount_0f7a4_34 rfl (lv_at hl 0 rfl) ?_
  refine lv_iload_n hx hb dJ6_bitCount_0f7a4_35 rfl (lv_at hl 0 rfl) ?_
  refine lv_bipush (v := (8 : Int32)) hx hb dJ6_bitCount_0f7a4_36 (by decide) ?_
  refine lv_iushr hx hb dJ6_bitCount_0f7a4_38 rfl ?_
  refine lv_iadd hx hb dJ6_bitCount_0f7a4_39 ?_
  obtain ⟨v4, hv5, h⟩ := ok_bind h
  refine lv_topi (fun y6 ey6 => ?_)
  have ey6 := (ey6.trans (Option.some.inj hv5)).symm
  subst ey6
  refine lv_istore_n (lv' := [(0, .int v4)]) hx hb dJ6_bitCount_0f7a4_40 rfl hl (by decide) rfl (fun ls hl => ?_)
  refine lv_iload_n hx hb dJ6_bitCount_0f7a4_41 rfl (lv_at hl 0 rfl) ?_
  refine lv_iload_n hx hb dJ6_bitCount_0f7a4_42 rfl (lv_at hl 0 rfl) ?_
  refine lv_bipush (v := (16 : Int32)) hx hb dJ6_bitCount_0f7a4_43 (by decide) ?_
  refine lv_iushr hx hb dJ6_bitCount_0f7a4_45 rfl ?_
  refine lv_iadd hx hb dJ6_bitCount_0f7a4_46 ?_
  refine lv_istore_n (lv' := [(0, .int (v4 + (v4.toUInt32 >>> ((16 : Int32).toUInt32 &&& Int32.toUInt32 31)).toInt32))]) hx hb dJ6_bitCount_0f7a4_47 rfl hl (by decide) rfl (fun ls hl => ?_)
  refine lv_iload_n hx hb dJ6_bitCount_0f7a4_48 rfl (lv_at hl 0 rfl) ?_
  refine lv_bipush (v := (63 : Int32)) hx hb dJ6_bitCount_0f7a4_49 (by decide) ?_
  refine lv_iand hx hb dJ6_bitCount_0f7a4_51 ?_
  exact W.iret (v := ((v4 + (v4.toUInt32 >>> ((16 : Int32).toUInt32 &&& Int32.toUInt32 31)).toInt32) &&& (63 : Int32))) hx hb hr (fun t ht hW => by rw [hqq]; have hh := Option.some.inj h; exact ⟨⟨((v4 + (v4.toUInt32 >>> ((16 : Int32).toUInt32 &&& Int32.toUInt32 31)).toInt32) &&& (63 : Int32)), (()), rfl, Option.some.inj h, by rw [ht]; exact hP, va_K.moved hW.alike hK⟩, hS.F ht⟩) hS.2.2 dJ6_bitCount_0f7a4_52

abbrev w_X12_best (cy : Nat → ClassId) (a0 : Nat → Nat) (gg : Int32 × Int32 × Int32 × Int32 × Int32 × Int32) (gvn : Int32 × Int32 × (Nat → Int32) × (Nat → Int32) × (Nat → Int32) × (Nat → Int32) × (Nat → Int32)) (gdn : Int32 × Int32 × (Nat → Int32) × (Nat → Int32) × (Nat → Int32) × (Nat → Int32)) : va_W := [(a0 0, .inr (10, [.ref (a0 1), .int (gg.1), .int (gg.2.1), .int (gg.2.2.1), .int (gg.2.2.2.1), .int (gg.2.2.2.2.1), .ref (a0 2), .ref (a0 17), .ref (a0 32), .int (gg.2.2.2.2.2), .ref (a0 47), .ref (a0 48), .ref (a0 49), .ref (a0 50), .ref (a0 68), .ref (a0 78), .ref (a0 80)])), (a0 2, .inr (7, [.int (gvn.1), .int (gvn.2.1), .ref (a0 3), .ref (a0 8), .ref (a0 12), .ref (a0 13), .ref (a0 14), .ref (a0 15), .ref (a0 16)])), (a0 3, .inr (2, [.int (gdn.1), .int (gdn.2.1), .ref (a0 4), .ref (a0 5), .ref (a0 6), .ref (a0 7)])), (a0 4, .inl (cy 1, 10, .inl (gdn.2.2.1))), (a0 5, .inl (cy 1, 10, .inl (gdn.2.2.2.1))), (a0 6, .inl (cy 1, 10, .inl (gdn.2.2.2.2.1))), (a0 7, .inl (cy 1, 50, .inl (gdn.2.2.2.2.2))), (a0 12, .inl (cy 1, 5, .inl (gvn.2.2.1))), (a0 13, .inl (cy 1, 5, .inl (gvn.2.2.2.1))), (a0 14, .inl (cy 1, 5, .inl (gvn.2.2.2.2.1))), (a0 15, .inl (cy 1, 5, .inl (gvn.2.2.2.2.2.1))), (a0 16, .inl (cy 1, 5, .inl (gvn.2.2.2.2.2.2)))]
abbrev rm_X12_best : Room := { frames := 7, cells := 2, slots := 12, locals := 140 }
set_option maxHeartbeats 1000000 in
set_option maxRecDepth 100000 in
theorem c_X12_best (l : Launch) (dC : Nat → ClassId) (dI : Nat → Nat → Nat) (cy : Nat → ClassId) (z : Nat → Nat) (hl9 : l.stackTraces = false) (a0 : Nat → Nat) (gg : Int32 × Int32 × Int32 × Int32 × Int32 × Int32) (gvn : Int32 × Int32 × (Nat → Int32) × (Nat → Int32) × (Nat → Int32) × (Nat → Int32) × (Nat → Int32)) (gdn : Int32 × Int32 × (Nat → Int32) × (Nat → Int32) × (Nat → Int32) × (Nat → Int32)) (x1 : Int32) (x2 : Int32) (sz : Nat) (R0 : (Int32 ⊕ Nat) × (Unit)) (h : p_X12_best gvn gdn x1 x2 = some R0) : vx_Met l yX12_best wsX12_best rm_X12_best (va_Pc [.ref (a0 0), .int x1, .int x2] (prS dC dI cy z (w_X12_best cy a0 gg gvn gdn) sz)) (va_Qi (fun (r : Int32) (u : Unit) => Sum.inl r = R0.1 ∧ u = R0.2) (fun (_ : Unit) t => poC dC dI cy (w_X12_best cy a0 gg gvn gdn) t) (va_A (w_X12_best cy a0 gg gvn gdn) sz)) (vx_X (fun (u : Unit) => u = R0.2) (fun E (_ : Unit) t => exE E R0.1 ∧ poC dC dI cy (w_X12_best cy a0 gg gvn gdn) t) (va_A (w_X12_best cy a0 gg gvn gdn) sz)) 2 12 (va_A (w_X12_best cy a0 gg gvn gdn) sz) := by
  refine vx_ofW (cc := cX12_best) (maxL := 9) (ret := (some .int)) (by decide) rfl ?_
  intro p e s m aa below meth c s₁ B hml htab hv
  obtain ⟨haa, ⟨hsz, hP, hK, hD0⟩, hX⟩ := hv
  have hx := B.exec
  have hb := B.bytes
  have hr := B.returns
  have hts := atoms_spec (ws := wsX12_best) B.pre
  have hown : s.vm.findClass RX12 = some m.cls := findClass_of_methodNamed B.named
  have hlocks := B.notSynchronized
  subst hsz
  have hD := hD0.self (sz := s.heap.size)
  obtain ⟨qq, hqq⟩ : ∃ qq, qq = (va_Qi (fun (r : Int32) (u : Unit) => Sum.inl r = R0.1 ∧ u = R0.2) (fun (_ : Unit) t => poC dC dI cy (w_X12_best cy a0 gg gvn gdn) t) (va_A (w_X12_best cy a0 gg gvn gdn) s.heap.size)) := ⟨_, rfl⟩
  obtain ⟨xx, hxx⟩ : ∃ xx, xx = (vx_X (fun (u : Unit) => u = R0.2) (fun E (_ : Unit) t => exE E R0.1 ∧ poC dC dI cy (w_X12_best cy a0 gg gvn gdn) t) (va_A (w_X12_best cy a0 gg gvn gdn) s.heap.size)) := ⟨_, rfl⟩
  rw [← hqq, ← hxx]
  generalize hAe : va_A (w_X12_best cy a0 gg gvn gdn) s.heap.size = A at hD hqq hxx hX ⊢
  have hA : ∀ q : Nat, s.heap.size ≤ q → A q := fun q h => by rw [← hAe]; exact Or.inr h
  have hS : va_S A s.heap s.heap [] := va_S.rf
  have hl := lv_entry ([.ref (a0 0), .int x1, .int x2]) (n := 9) (Nat.le_of_ble_eq_true rfl)
  have hE : entryFrame m aa 9 = F0 m 0 ((lg_sl ([.ref (a0 0), .int x1, .int x2]) ++ List.replicate (9 - (lg_sl ([.ref (a0 0), .int x1, .int x2])).length) Slot.unset).toArray) [] := by rw [haa]; exact lg_entry_eq m _ 9
  refine W.eq hE ?_
  generalize (lg_sl ([.ref (a0 0), .int x1, .int x2]) ++ List.replicate (9 - (lg_sl ([.ref (a0 0), .int x1, .int x2])).length) Slot.unset).toArray = ls at hl ⊢
  have hl : lv_has ls 9 [(0, .ref (a0 0)), (1, .int x1), (2, .int x2)] := hl
  change W p l e rm_X12_best s m aa below meth c s.heap [] 0 0 (vx_MQ below qq xx aa s 2 12 A) (F0 m 0 ls [])
  have hS0 := hS
  have lk0 := hts (.fieldLink RX12 20 "GoatDoors" "now" "LGoatDoors$Village;") (by decide +kernel)
  have lk1 := hts (.fieldLink RX12 130 "GoatDoors$Village" "doors" "LGoatDoors$Doors;") (by decide +kernel)
  have in_X12 : ∀ w ∈ wsX120, w ∈ wsX12_best := by decide +kernel
  have in_X9 : ∀ w ∈ wsX90, w ∈ wsX12_best := by decide +kernel
  have c66 : ∀ (k29 : Int32 → Int32 → Int32 → Int64 → Int32 → Option ((Int32 ⊕ Nat) × (Unit))) (hk29 : ∀ (x1 : Int32) (x2 : Int32) (x3 : Int32) (x4 : Int64) (x6 : Int32) (H : Heap) (locs : List Loc) (ls : Array Slot), k29 x1 x2 x3 x4 x6 = some R0 → va_P (dC, dI) vwCl (w_X12_best cy a0 gg gvn gdn) H → va_D A (w_X12_best cy a0 gg gvn gdn) → va_S A s.heap H locs → lv_has ls 9 [(0, .ref (a0 0)), (1, .int x1), (2, .int x2), (3, .int x3), (4, .long x4), (6, .int x6)] → W p l e rm_X12_best s m aa below meth c H locs 2 12 (vx_MQ below qq xx aa s 2 12 A) (F0 m 29 ls [])), ∀ (x1 : Int32) (x2 : Int32) (x3 : Int32) (x4 : Int64) (x6 : Int32) (H : Heap) (locs : List Loc) (ls : Array Slot), p_X12_best_66 k29 gvn gdn x1 x2 x3 x4 x6 = some R0 → va_P (dC, dI) vwCl (w_X12_best cy a0 gg gvn gdn) H → va_D A (w_X12_best cy a0 gg gvn gdn) → va_S A s.heap H locs → lv_has ls 9 [(0, .ref (a0 0)), (1, .int x1), (2, .int x2), (3, .int x3), (4, .long x4), (6, .int x6)] → W p l e rm_X12_best s m aa below meth c H locs 2 12 (vx_MQ below qq xx aa s 2 12 A) (F0 m 66 ls []) := by
    intro k29 hk29 x1 x2 x3 x4 x6 H locs ls h hP hD hS hl
    unfold p_X12_best_66 at h
    refine lv_iinc (v := (x6 + (1 : Int32))) (lv' := [(6, .int (x6 + (1 : Int32))), (0, .ref (a0 0)), (1, .int x1), (2, .int x2), (3, .int x3), (4, .long x4)]) hx hb dX12_best_66 hl (k := 5) rfl rfl (by decide) rfl (fun ls hl => ?_)
    refine lv_goto (tgt := 29) hx hb dX12_best_69 (by decide) ?_
    exact hk29 x1 x2 x3 x4 (x6 + (1 : Int32)) H locs ls h hP hD hS (lv_sub hl [1, 2, 3, 4, 5, 0] rfl)
  have c29 : ∀ (n : Nat), ∀ (x1 : Int32) (x2 : Int32) (x3 : Int32) (x4 : Int64) (x6 : Int32) (H : Heap) (locs : List Loc) (ls : Array Slot), p_X12_best_29 gvn gdn n x1 x2 x3 x4 x6 = some R0 → va_P (dC, dI) vwCl (w_X12_best cy a0 gg gvn gdn) H → va_D A (w_X12_best cy a0 gg gvn gdn) → va_S A s.heap H locs → lv_has ls 9 [(0, .ref (a0 0)), (1, .int x1), (2, .int x2), (3, .int x3), (4, .long x4), (6, .int x6)] → W p l e rm_X12_best s m aa below meth c H locs 2 12 (vx_MQ below qq xx aa s 2 12 A) (F0 m 29 ls []) := by
    intro  n
    induction n with
    | zero => intro x1 x2 x3 x4 x6 H locs ls h; exact no_some h
    | succ n ih =>
      intro x1 x2 x3 x4 x6 H locs ls h hP hD hS hl
      rw [p_X12_best_29.eq_2] at h
      refine lv_iload hx hb dX12_best_29 (lv_at hl 5 rfl) ?_
      refine lv_bipush (v := (40 : Int32)) hx hb dX12_best_31 (by decide) ?_
      refine lv_icmp_gt (tgt := 72) hx hb dX12_best_33 (by decide) (fun c1 => ?_) (fun c1 => ?_)
      · rw [if_pos c1] at h
        refine lv_iload_n hx hb dX12_best_72 rfl (lv_at hl 2 rfl) ?_
        refine lv_if_ne (tgt := 80) hx hb dX12_best_73 (by decide) (fun c2 => ?_) (fun c2 => ?_)
        · rw [if_neg c2] at h
          refine lv_lload hx hb dX12_best_80 (lv_at hl 4 rfl) ?_
          refine lv_l2i hx hb dX12_best_82 rfl ?_
          refine vx_ret ?_
          exact W.iret (v := x4.toInt32) hx hb hr (fun t ht hW => by rw [hqq]; have hh := Option.some.inj h; exact ⟨⟨x4.toInt32, (()), rfl, ⟨fst_of hh, snd_of hh⟩, by rw [ht]; exact hP, va_K.moved hW.alike hK⟩, hS.F ht⟩) hS.2.2 dX12_best_83
        · rw [if_pos c2] at h
          refine lv_iload_n hx hb dX12_best_76 rfl (lv_at hl 3 rfl) ?_
          refine lv_goto (tgt := 83) hx hb dX12_best_77 (by decide) ?_
          refine vx_ret ?_
          exact W.iret (v := x3) hx hb hr (fun t ht hW => by rw [hqq]; have hh := Option.some.inj h; exact ⟨⟨x3, (()), rfl, ⟨fst_of hh, snd_of hh⟩, by rw [ht]; exact hP, va_K.moved hW.alike hK⟩, hS.F ht⟩) hS.2.2 dX12_best_83
      · rw [if_neg c1] at h
        refine lv_aload_n hx hb dX12_best_36 rfl (lv_at hl 0 rfl) ?_
        refine va_get (D := (dC, dI)) (ci := 10) (v := .ref (a0 2)) (C := RX12) (T := TX12) (N := 17) hx hb hts in_X12 hown hK hP 0 rfl rfl 6 (by decide) lk0 (fun _ h9 => h9) rfl dX12_best_37 ?_
        refine va_get (D := (dC, dI)) (ci := 7) (v := .ref (a0 3)) (C := RX9) (T := TX9) (N := 9) hx hb hts in_X9 hown hK hP 1 rfl rfl 2 (by decide) lk1 (fun _ h9 => h9) rfl dX12_best_40 ?_
        refine lv_iload_n hx hb dX12_best_43 rfl (lv_at hl 1 rfl) ?_
        refine lv_iload hx hb dX12_best_44 (lv_at hl 5 rfl) ?_
        obtain ⟨v3, hv4, h⟩ := ok_bind h
        refine cl_vl (w2 := fun (_ : Unit) => w_X12_best cy a0 gg gvn gdn) (As := [.int x1, .int x6]) (rest := []) ⟨hx, hb, hml, hown, hts⟩ (c_X4_netOf l dC dI cy (fun k => a0 (k + 3)) gdn x1 x6 H.size v3 hv4) (cwV 2 hts gX12_best_X4_netOf rfl rfl rfl (by decide +kernel) ⟨Nat.le_of_ble_eq_true rfl, Nat.le_of_ble_eq_true rfl⟩) (va_recv hK hP (ci := 2) (q0 := 2) rfl rfl) cl_blind (cl_pre hK hP hD [2, 3, 4, 5, 6] (by decide) rfl) hP hD hS hA [2, 3, 4, 5, 6] rfl rfl hl.1 rfl (lv_room (Nat.le_of_ble_eq_true rfl)) dX12_best_46 ⟨Nat.le_of_ble_eq_true rfl, Nat.le_of_ble_eq_true rfl⟩ ⟨rfl, rfl⟩ (fun _ => updR [2, 3, 4, 5, 6] rfl) (fun r u H locs hw hP hD hS => ?_)
        have hw := hw.symm
        subst hw
        have hP : va_P (dC, dI) vwCl (w_X12_best cy a0 gg gvn gdn) H := hP
        have hD : va_D A (w_X12_best cy a0 gg gvn gdn) := hD
        refine lv_lstore (lv' := [(7, .long v3), (0, .ref (a0 0)), (1, .int x1), (2, .int x2), (3, .int x3), (4, .long x4), (6, .int x6)]) hx hb dX12_best_49 hl (by decide) rfl (fun ls hl => ?_)
        refine lv_lload hx hb dX12_best_51 (lv_at hl 0 rfl) ?_
        refine lv_lload hx hb dX12_best_53 (lv_at hl 5 rfl) ?_
        refine W.lcmp hx hb dX12_best_55 ?_
        refine lv_if_le (tgt := 66) hx hb dX12_best_56 (by decide) (fun c5 => ?_) (fun c5 => ?_)
        · rw [if_pos c5] at h
          exact c66 (p_X12_best_29 gvn gdn n) ih x1 x2 x3 x4 x6 H locs ls h hP hD hS (lv_sub hl [1, 2, 3, 4, 5, 6] rfl)
        · rw [if_neg c5] at h
          refine lv_lload hx hb dX12_best_59 (lv_at hl 0 rfl) ?_
          refine lv_lstore (lv' := [(4, .long v3), (7, .long v3), (0, .ref (a0 0)), (1, .int x1), (2, .int x2), (3, .int x3), (6, .int x6)]) hx hb dX12_best_61 hl (by decide) rfl (fun ls hl => ?_)
          refine lv_iload hx hb dX12_best_63 (lv_at hl 6 rfl) ?_
          refine lv_istore_n (lv' := [(3, .int x6), (4, .long v3), (7, .long v3), (0, .ref (a0 0)), (1, .int x1), (2, .int x2), (6, .int x6)]) hx hb dX12_best_65 rfl hl (by decide) rfl (fun ls hl => ?_)
          exact c66 (p_X12_best_29 gvn gdn n) ih x1 x2 x6 v3 x6 H locs ls h hP hD hS (lv_sub hl [3, 4, 5, 0, 1, 6] rfl)
  obtain ⟨H, hH⟩ : ∃ H : Heap, H = s.heap := ⟨_, rfl⟩
  obtain ⟨locs, hlocs⟩ : ∃ locs : List Loc, locs = [] := ⟨_, rfl⟩
  have hS : va_S A s.heap H locs := by rw [hH, hlocs]; exact hS
  rw [← hH] at hP
  suffices hg : W p l e rm_X12_best s m aa below meth c H locs 0 0 (vx_MQ below qq xx aa s 2 12 A) (F0 m 0 ls []) by subst hH; subst hlocs; exact hg
  unfold p_X12_best at h
  refine lv_aload_n hx hb dX12_best_0 rfl (lv_at hl 0 rfl) ?_
  refine lv_iload_n hx hb dX12_best_1 rfl (lv_at hl 1 rfl) ?_
  obtain ⟨v1, hv2, h⟩ := ok_bind h
  refine cx_vv (w2 := fun (_ : Unit) => w_X12_best cy a0 gg gvn gdn) (w2x := fun (_ : Unit) => w_X12_best cy a0 gg gvn gdn) (As := [.int x1]) (rest := []) ⟨hx, hb, hml, hown, hts⟩ (c_X12_needOwner l dC dI cy z hl9 a0 gg gvn x1 H.size v1 hv2) (cwV 1 hts gX12_best_X12_needOwner rfl rfl rfl (by decide +kernel) ⟨Nat.le_of_ble_eq_true rfl, Nat.le_of_ble_eq_true rfl⟩) (va_recv hK hP (ci := 10) (q0 := 0) rfl rfl) cl_blindS (cl_preS hK hP hD hS hA hX [0, 1, 7, 8, 9, 10, 11] (by decide) rfl) hP hD hS hA [0, 1, 7, 8, 9, 10, 11] rfl rfl hl.1 rfl (lv_room (Nat.le_of_ble_eq_true rfl)) dX12_best_2 ⟨Nat.le_of_ble_eq_true rfl, Nat.le_of_ble_eq_true rfl⟩ (cells' := 1) (slots' := 6) ⟨rfl, rfl⟩ (fun _ => updR [0, 1, 7, 8, 9, 10, 11] rfl) (fun _ => updR [0, 1, 7, 8, 9, 10, 11] rfl) (fun E ce q9 u H locs hw hE hP hD hS hc1 hc2 hc3 => ?_) (fun u H locs hw hP hD hS => ?_)
  · subst hw
    have hP : va_P (dC, dI) vwCl (w_X12_best cy a0 gg gvn gdn) H := hP
    obtain ⟨hE1, hE2⟩ := exE_pass hE h
    exact vx_out (fun x9 hx9 => (htab x9 hx9).elim) hlocks hc1 hc2 hc3 (fun t h1 h2 => by rw [hxx]; exact ⟨_, hE2.symm, ⟨hE1, by rw [h1]; exact hP, va_K.moved h2 hK⟩, hS.F h1⟩) hS.2.2 (by decide) (by decide)
  obtain ⟨hw1, hw2⟩ := hw
  subst hw2
  rw [← hw1] at h
  dsimp only [xb] at h
  have hP : va_P (dC, dI) vwCl (w_X12_best cy a0 gg gvn gdn) H := hP
  have hD : va_D A (w_X12_best cy a0 gg gvn gdn) := hD
  refine lv_iload_n hx hb dX12_best_5 rfl (lv_at hl 2 rfl) ?_
  refine lv_iconst (v := (1 : Int32)) hx hb dX12_best_6 (by decide) ?_
  obtain ⟨v3, hv4, h⟩ := ok_bind h
  refine cx_sv (w2 := fun (_ : Unit) => w_X12_best cy a0 gg gvn gdn) (w2x := fun (_ : Unit) => w_X12_best cy a0 gg gvn gdn) (As := [.int x2, .int (1 : Int32)]) (rest := []) ⟨hx, hb, hml, hown, hts⟩ (c_X12_needWhat l dC dI cy z hl9  x2 (1 : Int32) H.size v3 hv4) (va_cwS 2 hts gX12_best_X12_needWhat rfl rfl rfl (by decide +kernel) ⟨Nat.le_of_ble_eq_true rfl, Nat.le_of_ble_eq_true rfl⟩) cl_blindS (cl_preS hK hP hD hS hA hX [] (by decide) rfl) hP hD hS hA [] rfl rfl hl.1 rfl (lv_room (Nat.le_of_ble_eq_true rfl)) dX12_best_7 ⟨Nat.le_of_ble_eq_true rfl, Nat.le_of_ble_eq_true rfl⟩ (cells' := 2) (slots' := 12) ⟨rfl, rfl⟩ (fun _ => updR [] rfl) (fun _ => updR [] rfl) (fun E ce q9 u H locs hw hE hP hD hS hc1 hc2 hc3 => ?_) (fun u H locs hw hP hD hS => ?_)
  · subst hw
    have hP : va_P (dC, dI) vwCl (w_X12_best cy a0 gg gvn gdn) H := hP
    obtain ⟨hE1, hE2⟩ := exE_pass hE h
    exact vx_out (fun x9 hx9 => (htab x9 hx9).elim) hlocks hc1 hc2 hc3 (fun t h1 h2 => by rw [hxx]; exact ⟨_, hE2.symm, ⟨hE1, by rw [h1]; exact hP, va_K.moved h2 hK⟩, hS.F h1⟩) hS.2.2 (by decide) (by decide)
  obtain ⟨hw1, hw2⟩ := hw
  subst hw2
  rw [← hw1] at h
  dsimp only [xb] at h
  have hP : va_P (dC, dI) vwCl (w_X12_best cy a0 gg gvn gdn) H := hP
  have hD : va_D A (w_X12_best cy a0 gg gvn gdn) := hD
  refine lv_iconst (v := (0 : Int32)) hx hb dX12_best_10 (by decide) ?_
  refine lv_istore_n (lv' := [(3, .int (0 : Int32)), (0, .ref (a0 0)), (1, .int x1), (2, .int x2)]) hx hb dX12_best_11 rfl hl (by decide) rfl (fun ls hl => ?_)
  refine lv_aload_n hx hb dX12_best_12 rfl (lv_at hl 1 rfl) ?_
  refine va_get (D := (dC, dI)) (ci := 10) (v := .ref (a0 2)) (C := RX12) (T := TX12) (N := 17) hx hb hts in_X12 hown hK hP 0 rfl rfl 6 (by decide) lk0 (fun _ h9 => h9) rfl dX12_best_13 ?_
  refine va_get (D := (dC, dI)) (ci := 7) (v := .ref (a0 3)) (C := RX9) (T := TX9) (N := 9) hx hb hts in_X9 hown hK hP 1 rfl rfl 2 (by decide) lk1 (fun _ h9 => h9) rfl dX12_best_16 ?_
  refine lv_iload_n hx hb dX12_best_19 rfl (lv_at hl 2 rfl) ?_
  refine lv_iload_n hx hb dX12_best_20 rfl (lv_at hl 0 rfl) ?_
  obtain ⟨v5, hv6, h⟩ := ok_bind h
  refine cl_vl (w2 := fun (_ : Unit) => w_X12_best cy a0 gg gvn gdn) (As := [.int x1, .int (0 : Int32)]) (rest := []) ⟨hx, hb, hml, hown, hts⟩ (c_X4_netOf l dC dI cy (fun k => a0 (k + 3)) gdn x1 (0 : Int32) H.size v5 hv6) (cwV 2 hts gX12_best_X4_netOf rfl rfl rfl (by decide +kernel) ⟨Nat.le_of_ble_eq_true rfl, Nat.le_of_ble_eq_true rfl⟩) (va_recv hK hP (ci := 2) (q0 := 2) rfl rfl) cl_blind (cl_pre hK hP hD [2, 3, 4, 5, 6] (by decide) rfl) hP hD hS hA [2, 3, 4, 5, 6] rfl rfl hl.1 rfl (lv_room (Nat.le_of_ble_eq_true rfl)) dX12_best_21 ⟨Nat.le_of_ble_eq_true rfl, Nat.le_of_ble_eq_true rfl⟩ ⟨rfl, rfl⟩ (fun _ => updR [2, 3, 4, 5, 6] rfl) (fun r u H locs hw hP hD hS => ?_)
  have hw := hw.symm
  subst hw
  have hP : va_P (dC, dI) vwCl (w_X12_best cy a0 gg gvn gdn) H := hP
  have hD : va_D A (w_X12_best cy a0 gg gvn gdn) := hD
  refine lv_lstore (lv' := [(4, .long v5), (3, .int (0 : Int32)), (0, .ref (a0 0)), (1, .int x1), (2, .int x2)]) hx hb dX12_best_24 hl (by decide) rfl (fun ls hl => ?_)
  refine lv_iconst (v := (1 : Int32)) hx hb dX12_best_26 (by decide) ?_
  refine lv_istore (lv' := [(6, .int (1 : Int32)), (4, .long v5), (3, .int (0 : Int32)), (0, .ref (a0 0)), (1, .int x1), (2, .int x2)]) hx hb dX12_best_27 hl (by decide) rfl (fun ls hl => ?_)
  exact c29 fu x1 x2 (0 : Int32) v5 (1 : Int32) H locs ls h hP hD hS (lv_sub hl [3, 4, 5, 2, 1, 0] rfl)

abbrev w_X12_span (cy : Nat → ClassId) (a0 : Nat → Nat) (gg : Int32 × Int32 × Int32 × Int32 × Int32 × Int32) (gvn : Int32 × Int32 × (Nat → Int32) × (Nat → Int32) × (Nat → Int32) × (Nat → Int32) × (Nat → Int32)) (gdn : Int32 × Int32 × (Nat → Int32) × (Nat → Int32) × (Nat → Int32) × (Nat → Int32)) (gne : (Nat → Nat → Int32) × (Nat → Nat → Int64)) : va_W := [(a0 0, .inr (10, [.ref (a0 1), .int (gg.1), .int (gg.2.1), .int (gg.2.2.1), .int (gg.2.2.2.1), .int (gg.2.2.2.2.1), .ref (a0 2), .ref (a0 17), .ref (a0 32), .int (gg.2.2.2.2.2), .ref (a0 47), .ref (a0 48), .ref (a0 49), .ref (a0 50), .ref (a0 68), .ref (a0 78), .ref (a0 80)])), (a0 2, .inr (7, [.int (gvn.1), .int (gvn.2.1), .ref (a0 3), .ref (a0 8), .ref (a0 12), .ref (a0 13), .ref (a0 14), .ref (a0 15), .ref (a0 16)])), (a0 3, .inr (2, [.int (gdn.1), .int (gdn.2.1), .ref (a0 4), .ref (a0 5), .ref (a0 6), .ref (a0 7)])), (a0 4, .inl (cy 1, 10, .inl (gdn.2.2.1))), (a0 5, .inl (cy 1, 10, .inl (gdn.2.2.2.1))), (a0 6, .inl (cy 1, 10, .inl (gdn.2.2.2.2.1))), (a0 7, .inl (cy 1, 50, .inl (gdn.2.2.2.2.2))), (a0 12, .inl (cy 1, 5, .inl (gvn.2.2.1))), (a0 13, .inl (cy 1, 5, .inl (gvn.2.2.2.1))), (a0 14, .inl (cy 1, 5, .inl (gvn.2.2.2.2.1))), (a0 15, .inl (cy 1, 5, .inl (gvn.2.2.2.2.2.1))), (a0 16, .inl (cy 1, 5, .inl (gvn.2.2.2.2.2.2))), (a0 50, .inr (4, [.ref (a0 51), .ref (a0 62)])), (a0 51, .inl (cy 3, 10, .inr (.inr (.inr (.inr (fun i => some ([a0 52, a0 53, a0 54, a0 55, a0 56, a0 57, a0 58, a0 59, a0 60, a0 61].getD i 0))))))), (a0 52, .inl (cy 1, 41, .inl (gne.1 0))), (a0 53, .inl (cy 1, 41, .inl (gne.1 1))), (a0 54, .inl (cy 1, 41, .inl (gne.1 2))), (a0 55, .inl (cy 1, 41, .inl (gne.1 3))), (a0 56, .inl (cy 1, 41, .inl (gne.1 4))), (a0 57, .inl (cy 1, 41, .inl (gne.1 5))), (a0 58, .inl (cy 1, 41, .inl (gne.1 6))), (a0 59, .inl (cy 1, 41, .inl (gne.1 7))), (a0 60, .inl (cy 1, 41, .inl (gne.1 8))), (a0 61, .inl (cy 1, 41, .inl (gne.1 9))), (a0 62, .inl (cy 4, 5, .inr (.inr (.inr (.inr (fun i => some ([a0 63, a0 64, a0 65, a0 66, a0 67].getD i 0))))))), (a0 63, .inl (cy 2, 41, .inr (.inl (gne.2 0)))), (a0 64, .inl (cy 2, 41, .inr (.inl (gne.2 1)))), (a0 65, .inl (cy 2, 41, .inr (.inl (gne.2 2)))), (a0 66, .inl (cy 2, 41, .inr (.inl (gne.2 3)))), (a0 67, .inl (cy 2, 41, .inr (.inl (gne.2 4))))]
abbrev rm_X12_span : Room := { frames := 7, cells := 2, slots := 12, locals := 116 }
set_option maxHeartbeats 1000000 in
set_option maxRecDepth 100000 in
theorem c_X12_span (l : Launch) (dC : Nat → ClassId) (dI : Nat → Nat → Nat) (cy : Nat → ClassId) (z : Nat → Nat) (hl9 : l.stackTraces = false) (a0 : Nat → Nat) (gg : Int32 × Int32 × Int32 × Int32 × Int32 × Int32) (gvn : Int32 × Int32 × (Nat → Int32) × (Nat → Int32) × (Nat → Int32) × (Nat → Int32) × (Nat → Int32)) (gdn : Int32 × Int32 × (Nat → Int32) × (Nat → Int32) × (Nat → Int32) × (Nat → Int32)) (gne : (Nat → Nat → Int32) × (Nat → Nat → Int64)) (x1 : Int32) (x2 : Int32) (x3 : Int32) (sz : Nat) (R0 : (Int32 ⊕ Nat) × (((Nat → Nat → Int32) × (Nat → Nat → Int64)))) (h : p_X12_span gvn gdn gne x1 x2 x3 = some R0) : vx_Met l yX12_span wsX12_span rm_X12_span (va_Pc [.ref (a0 0), .int x1, .int x2, .int x3] (prS dC dI cy z (w_X12_span cy a0 gg gvn gdn gne) sz)) (va_Qi (fun (r : Int32) (u : ((Nat → Nat → Int32) × (Nat → Nat → Int64))) => Sum.inl r = R0.1 ∧ u = R0.2) (fun (u : ((Nat → Nat → Int32) × (Nat → Nat → Int64))) t => poC dC dI cy (w_X12_span cy a0 gg gvn gdn u) t) (va_A (w_X12_span cy a0 gg gvn gdn gne) sz)) (vx_X (fun (u : ((Nat → Nat → Int32) × (Nat → Nat → Int64))) => u = R0.2) (fun E (u : ((Nat → Nat → Int32) × (Nat → Nat → Int64))) t => exE E R0.1 ∧ poC dC dI cy (w_X12_span cy a0 gg gvn gdn u) t) (va_A (w_X12_span cy a0 gg gvn gdn gne) sz)) 2 12 (va_A (w_X12_span cy a0 gg gvn gdn gne) sz) := by
  refine vx_ofW (cc := cX12_span) (maxL := 4) (ret := (some .int)) (by decide) rfl ?_
  intro p e s m aa below meth c s₁ B hml htab hv
  obtain ⟨haa, ⟨hsz, hP, hK, hD0⟩, hX⟩ := hv
  have hx := B.exec
  have hb := B.bytes
  have hr := B.returns
  have hts := atoms_spec (ws := wsX12_span) B.pre
  have hown : s.vm.findClass RX12 = some m.cls := findClass_of_methodNamed B.named
  have hlocks := B.notSynchronized
  subst hsz
  have hD := hD0.self (sz := s.heap.size)
  obtain ⟨qq, hqq⟩ : ∃ qq, qq = (va_Qi (fun (r : Int32) (u : ((Nat → Nat → Int32) × (Nat → Nat → Int64))) => Sum.inl r = R0.1 ∧ u = R0.2) (fun (u : ((Nat → Nat → Int32) × (Nat → Nat → Int64))) t => poC dC dI cy (w_X12_span cy a0 gg gvn gdn u) t) (va_A (w_X12_span cy a0 gg gvn gdn gne) s.heap.size)) := ⟨_, rfl⟩
  obtain ⟨xx, hxx⟩ : ∃ xx, xx = (vx_X (fun (u : ((Nat → Nat → Int32) × (Nat → Nat → Int64))) => u = R0.2) (fun E (u : ((Nat → Nat → Int32) × (Nat → Nat → Int64))) t => exE E R0.1 ∧ poC dC dI cy (w_X12_span cy a0 gg gvn gdn u) t) (va_A (w_X12_span cy a0 gg gvn gdn gne) s.heap.size)) := ⟨_, rfl⟩
  rw [← hqq, ← hxx]
  generalize hAe : va_A (w_X12_span cy a0 gg gvn gdn gne) s.heap.size = A at hD hqq hxx hX ⊢
  have hA : ∀ q : Nat, s.heap.size ≤ q → A q := fun q h => by rw [← hAe]; exact Or.inr h
  have hS : va_S A s.heap s.heap [] := va_S.rf
  have hl := lv_entry ([.ref (a0 0), .int x1, .int x2, .int x3]) (n := 4) (Nat.le_of_ble_eq_true rfl)
  have hE : entryFrame m aa 4 = F0 m 0 ((lg_sl ([.ref (a0 0), .int x1, .int x2, .int x3]) ++ List.replicate (4 - (lg_sl ([.ref (a0 0), .int x1, .int x2, .int x3])).length) Slot.unset).toArray) [] := by rw [haa]; exact lg_entry_eq m _ 4
  refine W.eq hE ?_
  generalize (lg_sl ([.ref (a0 0), .int x1, .int x2, .int x3]) ++ List.replicate (4 - (lg_sl ([.ref (a0 0), .int x1, .int x2, .int x3])).length) Slot.unset).toArray = ls at hl ⊢
  have hl : lv_has ls 4 [(0, .ref (a0 0)), (1, .int x1), (2, .int x2), (3, .int x3)] := hl
  change W p l e rm_X12_span s m aa below meth c s.heap [] 0 0 (vx_MQ below qq xx aa s 2 12 A) (F0 m 0 ls [])
  have hS0 := hS
  have lk0 := hts (.fieldLink RX12 58 "GoatDoors" "nets" "LGoatDoors$Nets;") (by decide +kernel)
  have lk1 := hts (.fieldLink RX12 20 "GoatDoors" "now" "LGoatDoors$Village;") (by decide +kernel)
  have in_X12 : ∀ w ∈ wsX120, w ∈ wsX12_span := by decide +kernel
  obtain ⟨H, hH⟩ : ∃ H : Heap, H = s.heap := ⟨_, rfl⟩
  obtain ⟨locs, hlocs⟩ : ∃ locs : List Loc, locs = [] := ⟨_, rfl⟩
  have hS : va_S A s.heap H locs := by rw [hH, hlocs]; exact hS
  rw [← hH] at hP
  suffices hg : W p l e rm_X12_span s m aa below meth c H locs 0 0 (vx_MQ below qq xx aa s 2 12 A) (F0 m 0 ls []) by subst hH; subst hlocs; exact hg
  unfold p_X12_span at h
  refine lv_aload_n hx hb dX12_span_0 rfl (lv_at hl 0 rfl) ?_
  refine lv_iload_n hx hb dX12_span_1 rfl (lv_at hl 1 rfl) ?_
  obtain ⟨v1, hv2, h⟩ := ok_bind h
  refine cx_vv (w2 := fun (_ : Unit) => w_X12_span cy a0 gg gvn gdn gne) (w2x := fun (_ : Unit) => w_X12_span cy a0 gg gvn gdn gne) (As := [.int x1]) (rest := []) ⟨hx, hb, hml, hown, hts⟩ (c_X12_needOwner l dC dI cy z hl9 a0 gg gvn x1 H.size v1 hv2) (cwV 1 hts gX12_span_X12_needOwner rfl rfl rfl (by decide +kernel) ⟨Nat.le_of_ble_eq_true rfl, Nat.le_of_ble_eq_true rfl⟩) (va_recv hK hP (ci := 10) (q0 := 0) rfl rfl) cl_blindS (cl_preS hK hP hD hS hA hX [0, 1, 7, 8, 9, 10, 11] (by decide) rfl) hP hD hS hA [0, 1, 7, 8, 9, 10, 11] rfl rfl hl.1 rfl (lv_room (Nat.le_of_ble_eq_true rfl)) dX12_span_2 ⟨Nat.le_of_ble_eq_true rfl, Nat.le_of_ble_eq_true rfl⟩ (cells' := 1) (slots' := 6) ⟨rfl, rfl⟩ (fun _ => updR [0, 1, 7, 8, 9, 10, 11] rfl) (fun _ => updR [0, 1, 7, 8, 9, 10, 11] rfl) (fun E ce q9 u H locs hw hE hP hD hS hc1 hc2 hc3 => ?_) (fun u H locs hw hP hD hS => ?_)
  · subst hw
    have hP : va_P (dC, dI) vwCl (w_X12_span cy a0 gg gvn gdn gne) H := hP
    obtain ⟨hE1, hE2⟩ := exE_pass hE h
    exact vx_out (fun x9 hx9 => (htab x9 hx9).elim) hlocks hc1 hc2 hc3 (fun t h1 h2 => by rw [hxx]; exact ⟨_, hE2.symm, ⟨hE1, by rw [h1]; exact hP, va_K.moved h2 hK⟩, hS.F h1⟩) hS.2.2 (by decide) (by decide)
  obtain ⟨hw1, hw2⟩ := hw
  subst hw2
  rw [← hw1] at h
  dsimp only [xb] at h
  have hP : va_P (dC, dI) vwCl (w_X12_span cy a0 gg gvn gdn gne) H := hP
  have hD : va_D A (w_X12_span cy a0 gg gvn gdn gne) := hD
  refine lv_iload_n hx hb dX12_span_5 rfl (lv_at hl 2 rfl) ?_
  refine lv_iload_n hx hb dX12_span_6 rfl (lv_at hl 3 rfl) ?_
  obtain ⟨v3, hv4, h⟩ := ok_bind h
  refine cx_sv (w2 := fun (_ : Unit) => w_X12_span cy a0 gg gvn gdn gne) (w2x := fun (_ : Unit) => w_X12_span cy a0 gg gvn gdn gne) (As := [.int x2, .int x3]) (rest := []) ⟨hx, hb, hml, hown, hts⟩ (c_X12_needBases l dC dI cy z hl9  x2 x3 H.size v3 hv4) (va_cwS 2 hts gX12_span_X12_needBases rfl rfl rfl (by decide +kernel) ⟨Nat.le_of_ble_eq_true rfl, Nat.le_of_ble_eq_true rfl⟩) cl_blindS (cl_preS hK hP hD hS hA hX [] (by decide) rfl) hP hD hS hA [] rfl rfl hl.1 rfl (lv_room (Nat.le_of_ble_eq_true rfl)) dX12_span_7 ⟨Nat.le_of_ble_eq_true rfl, Nat.le_of_ble_eq_true rfl⟩ (cells' := 2) (slots' := 12) ⟨rfl, rfl⟩ (fun _ => updR [] rfl) (fun _ => updR [] rfl) (fun E ce q9 u H locs hw hE hP hD hS hc1 hc2 hc3 => ?_) (fun u H locs hw hP hD hS => ?_)
  · subst hw
    have hP : va_P (dC, dI) vwCl (w_X12_span cy a0 gg gvn gdn gne) H := hP
    obtain ⟨hE1, hE2⟩ := exE_pass hE h
    exact vx_out (fun x9 hx9 => (htab x9 hx9).elim) hlocks hc1 hc2 hc3 (fun t h1 h2 => by rw [hxx]; exact ⟨_, hE2.symm, ⟨hE1, by rw [h1]; exact hP, va_K.moved h2 hK⟩, hS.F h1⟩) hS.2.2 (by decide) (by decide)
  obtain ⟨hw1, hw2⟩ := hw
  subst hw2
  rw [← hw1] at h
  dsimp only [xb] at h
  have hP : va_P (dC, dI) vwCl (w_X12_span cy a0 gg gvn gdn gne) H := hP
  have hD : va_D A (w_X12_span cy a0 gg gvn gdn gne) := hD
  refine lv_aload_n hx hb dX12_span_10 rfl (lv_at hl 0 rfl) ?_
  refine va_get (D := (dC, dI)) (ci := 10) (v := .ref (a0 50)) (C := RX12) (T := TX12) (N := 17) hx hb hts in_X12 hown hK hP 0 rfl rfl 13 (by decide) lk0 (fun _ h9 => h9) rfl dX12_span_11 ?_
  refine lv_aload_n hx hb dX12_span_14 rfl (lv_at hl 0 rfl) ?_
  refine va_get (D := (dC, dI)) (ci := 10) (v := .ref (a0 2)) (C := RX12) (T := TX12) (N := 17) hx hb hts in_X12 hown hK hP 0 rfl rfl 6 (by decide) lk1 (fun _ h9 => h9) rfl dX12_span_15 ?_
  obtain ⟨v5, hv6, h⟩ := ok_bind h
  refine cl_vv (w2 := fun (u : ((Nat → Nat → Int32) × (Nat → Nat → Int64))) => w_X12_span cy a0 gg gvn gdn u) (As := [.ref (a0 2)]) (rest := []) ⟨hx, hb, hml, hown, hts⟩ (c_X6_fill l dC dI cy (fun k => a0 (k + 50)) (fun k => a0 (k + 2)) gne gvn gdn H.size v5 hv6) (cwV 1 hts gX12_span_X6_fill rfl rfl rfl (by decide +kernel) ⟨Nat.le_of_ble_eq_true rfl, Nat.le_of_ble_eq_true rfl⟩) (va_recv hK hP (ci := 4) (q0 := 12) rfl rfl) cl_blind (cl_pre hK hP hD [12, 13, 14, 15, 16, 17, 18, 19, 20, 21, 22, 23, 24, 25, 26, 27, 28, 29, 1, 2, 3, 4, 5, 6] (by decide) rfl) hP hD hS hA [12, 13, 14, 15, 16, 17, 18, 19, 20, 21, 22, 23, 24, 25, 26, 27, 28, 29, 1, 2, 3, 4, 5, 6] rfl rfl hl.1 rfl (lv_room (Nat.le_of_ble_eq_true rfl)) dX12_span_18 ⟨Nat.le_of_ble_eq_true rfl, Nat.le_of_ble_eq_true rfl⟩ ⟨rfl, rfl⟩ (fun _ => updM [12, 13, 14, 15, 16, 17, 18, 19, 20, 21, 22, 23, 24, 25, 26, 27, 28, 29, 1, 2, 3, 4, 5, 6] [0, 7, 8, 9, 10, 11] [(a0 0, .inr (10, [.ref (a0 1), .int (gg.1), .int (gg.2.1), .int (gg.2.2.1), .int (gg.2.2.2.1), .int (gg.2.2.2.2.1), .ref (a0 2), .ref (a0 17), .ref (a0 32), .int (gg.2.2.2.2.2), .ref (a0 47), .ref (a0 48), .ref (a0 49), .ref (a0 50), .ref (a0 68), .ref (a0 78), .ref (a0 80)])), (a0 12, .inl (cy 1, 5, .inl (gvn.2.2.1))), (a0 13, .inl (cy 1, 5, .inl (gvn.2.2.2.1))), (a0 14, .inl (cy 1, 5, .inl (gvn.2.2.2.2.1))), (a0 15, .inl (cy 1, 5, .inl (gvn.2.2.2.2.2.1))), (a0 16, .inl (cy 1, 5, .inl (gvn.2.2.2.2.2.2)))] 30 rfl rfl rfl rfl rfl (by decide +kernel) (by decide +kernel) rfl) (fun u H locs hw hP hD hS => ?_)
  have hw := hw.symm
  subst hw
  have hP : va_P (dC, dI) vwCl (w_X12_span cy a0 gg gvn gdn v5) H := hP
  have hD : va_D A (w_X12_span cy a0 gg gvn gdn v5) := hD
  refine lv_aload_n hx hb dX12_span_21 rfl (lv_at hl 0 rfl) ?_
  refine va_get (D := (dC, dI)) (ci := 10) (v := .ref (a0 50)) (C := RX12) (T := TX12) (N := 17) hx hb hts in_X12 hown hK hP 0 rfl rfl 13 (by decide) lk0 (fun _ h9 => h9) rfl dX12_span_22 ?_
  refine lv_iload_n hx hb dX12_span_25 rfl (lv_at hl 1 rfl) ?_
  refine lv_iload_n hx hb dX12_span_26 rfl (lv_at hl 2 rfl) ?_
  refine lv_iload_n hx hb dX12_span_27 rfl (lv_at hl 3 rfl) ?_
  obtain ⟨v7, hv8, h⟩ := ok_bind h
  refine cl_vl (w2 := fun (_ : Unit) => w_X12_span cy a0 gg gvn gdn v5) (As := [.int x1, .int x2, .int x3]) (rest := []) ⟨hx, hb, hml, hown, hts⟩ (c_X6_spanOf l dC dI cy (fun k => a0 (k + 50)) v5 x1 x2 x3 H.size v7 hv8) (cwV 3 hts gX12_span_X6_spanOf rfl rfl rfl (by decide +kernel) ⟨Nat.le_of_ble_eq_true rfl, Nat.le_of_ble_eq_true rfl⟩) (va_recv hK hP (ci := 4) (q0 := 12) rfl rfl) cl_blind (cl_pre hK hP hD [12, 13, 14, 15, 16, 17, 18, 19, 20, 21, 22, 23, 24, 25, 26, 27, 28, 29] (by decide) rfl) hP hD hS hA [12, 13, 14, 15, 16, 17, 18, 19, 20, 21, 22, 23, 24, 25, 26, 27, 28, 29] rfl rfl hl.1 rfl (lv_room (Nat.le_of_ble_eq_true rfl)) dX12_span_28 ⟨Nat.le_of_ble_eq_true rfl, Nat.le_of_ble_eq_true rfl⟩ ⟨rfl, rfl⟩ (fun _ => updR [12, 13, 14, 15, 16, 17, 18, 19, 20, 21, 22, 23, 24, 25, 26, 27, 28, 29] rfl) (fun r u H locs hw hP hD hS => ?_)
  have hw := hw.symm
  subst hw
  have hP : va_P (dC, dI) vwCl (w_X12_span cy a0 gg gvn gdn v5) H := hP
  have hD : va_D A (w_X12_span cy a0 gg gvn gdn v5) := hD
  refine lv_l2i hx hb dX12_span_31 rfl ?_
  refine vx_ret ?_
  exact W.iret (v := v7.toInt32) hx hb hr (fun t ht hW => by rw [hqq]; have hh := Option.some.inj h; exact ⟨⟨v7.toInt32, (v5), rfl, ⟨fst_of hh, snd_of hh⟩, by rw [ht]; exact hP, va_K.moved hW.alike hK⟩, hS.F ht⟩) hS.2.2 dX12_span_32

abbrev w_X12_leastBase (cy : Nat → ClassId)   : va_W := []
abbrev rm_X12_leastBase : Room := { frames := 0, cells := 0, slots := 0, locals := 0 }
set_option maxHeartbeats 1000000 in
set_option maxRecDepth 100000 in
theorem c_X12_leastBase (l : Launch) (dC : Nat → ClassId) (dI : Nat → Nat → Nat) (cy : Nat → ClassId)   (x0 : Int32) (sz : Nat) (R0 : Int32) (h : p_X12_leastBase x0 = some R0) : Met l yX12_leastBase wsX12_leastBase rm_X12_leastBase (va_Pc [.int x0] (prC dC dI cy (w_X12_leastBase cy  ) sz)) (va_Qi (fun (r : Int32) (_ : Unit) => r = R0) (fun (_ : Unit) t => poC dC dI cy (w_X12_leastBase cy  ) t) (va_A (w_X12_leastBase cy  ) sz)) 0 0 (va_A (w_X12_leastBase cy  ) sz) := by
  refine Met.ofW (cc := cX12_leastBase) (maxL := 2) (ret := (some .int)) (by decide) rfl ?_
  intro p e s m aa below meth c s₁ B hml hv
  obtain ⟨haa, hsz, hP, hK, hD0⟩ := hv
  have hx := B.exec
  have hb := B.bytes
  have hr := B.returns
  have hts := atoms_spec (ws := wsX12_leastBase) B.pre
  have hown : s.vm.findClass RX12 = some m.cls := findClass_of_methodNamed B.named
  have hlocks := B.notSynchronized
  subst hsz
  have hD := hD0.self (sz := s.heap.size)
  obtain ⟨qq, hqq⟩ : ∃ qq, qq = (va_Qi (fun (r : Int32) (_ : Unit) => r = R0) (fun (_ : Unit) t => poC dC dI cy (w_X12_leastBase cy  ) t) (va_A (w_X12_leastBase cy  ) s.heap.size)) := ⟨_, rfl⟩
  rw [← hqq]
  generalize hAe : va_A (w_X12_leastBase cy  ) s.heap.size = A at hD hqq ⊢
  have hA : ∀ q : Nat, s.heap.size ≤ q → A q := fun q h => by rw [← hAe]; exact Or.inr h
  have hS : va_S A s.heap s.heap [] := va_S.rf
  have hl := lv_entry ([.int x0]) (n := 2) (Nat.le_of_ble_eq_true rfl)
  have hE : entryFrame m aa 2 = F0 m 0 ((lg_sl ([.int x0]) ++ List.replicate (2 - (lg_sl ([.int x0])).length) Slot.unset).toArray) [] := by rw [haa]; exact lg_entry_eq m _ 2
  refine W.eq hE ?_
  generalize (lg_sl ([.int x0]) ++ List.replicate (2 - (lg_sl ([.int x0])).length) Slot.unset).toArray = ls at hl ⊢
  have hl : lv_has ls 2 [(0, .int x0)] := hl
  change W p l e rm_X12_leastBase s m aa below meth c s.heap [] 0 0 (MQ below qq aa s 0 0 A) (F0 m 0 ls [])
  have hS0 := hS
  have c2 : ∀ (n : Nat), ∀ (x0 : Int32) (x1 : Int32) (H : Heap) (locs : List Loc) (ls : Array Slot), p_X12_leastBase_2 n x0 x1 = some R0 → va_P (dC, dI) vwCl (w_X12_leastBase cy  ) H → va_D A (w_X12_leastBase cy  ) → va_S A s.heap H locs → lv_has ls 2 [(0, .int x0), (1, .int x1)] → W p l e rm_X12_leastBase s m aa below meth c H locs 0 0 (MQ below qq aa s 0 0 A) (F0 m 2 ls []) := by
    intro  n
    induction n with
    | zero => intro x0 x1 H locs ls h; exact no_some h
    | succ n ih =>
      intro x0 x1 H locs ls h hP hD hS hl
      rw [p_X12_leastBase_2.eq_2] at h
      refine lv_iload_n hx hb dX12_leastBase_2 rfl (lv_at hl 1 rfl) ?_
      refine lv_bipush (v := (30 : Int32)) hx hb dX12_leastBase_3 (by decide) ?_
      refine lv_icmp_ge (tgt := 26) hx hb dX12_leastBase_5 (by decide) (fun c1 => ?_) (fun c1 => ?_)
      · rw [if_pos c1] at h
        refine lv_iconst (v := (-1 : Int32)) hx hb dX12_leastBase_26 (by decide) ?_
        exact W.iret (v := (-1 : Int32)) hx hb hr (fun t ht hW => by rw [hqq]; have hh := Option.some.inj h; exact ⟨⟨(-1 : Int32), (()), rfl, Option.some.inj h, by rw [ht]; exact hP, va_K.moved hW.alike hK⟩, hS.F ht⟩) hS.2.2 dX12_leastBase_27
      · rw [if_neg c1] at h
        refine lv_iload_n hx hb dX12_leastBase_8 rfl (lv_at hl 0 rfl) ?_
        refine lv_iload_n hx hb dX12_leastBase_9 rfl (lv_at hl 1 rfl) ?_
        refine lv_ishr hx hb dX12_leastBase_10 ?_
        refine lv_iconst (v := (1 : Int32)) hx hb dX12_leastBase_11 (by decide) ?_
        refine lv_iand hx hb dX12_leastBase_12 ?_
        refine lv_if_eq (tgt := 20) hx hb dX12_leastBase_13 (by decide) (fun c2 => ?_) (fun c2 => ?_)
        · rw [if_pos c2] at h
          refine lv_iinc (v := (x1 + (1 : Int32))) (lv' := [(1, .int (x1 + (1 : Int32))), (0, .int x0)]) hx hb dX12_leastBase_20 hl (k := 1) rfl rfl (by decide) rfl (fun ls hl => ?_)
          refine lv_goto (tgt := 2) hx hb dX12_leastBase_23 (by decide) ?_
          exact ih x0 (x1 + (1 : Int32)) H locs ls h hP hD hS (lv_sub hl [1, 0] rfl)
        · rw [if_neg c2] at h
          refine lv_iload_n hx hb dX12_leastBase_16 rfl (lv_at hl 1 rfl) ?_
          refine lv_iconst (v := (2 : Int32)) hx hb dX12_leastBase_17 (by decide) ?_
          refine lv_iadd hx hb dX12_leastBase_18 ?_
          exact W.iret (v := (x1 + (2 : Int32))) hx hb hr (fun t ht hW => by rw [hqq]; have hh := Option.some.inj h; exact ⟨⟨(x1 + (2 : Int32)), (()), rfl, Option.some.inj h, by rw [ht]; exact hP, va_K.moved hW.alike hK⟩, hS.F ht⟩) hS.2.2 dX12_leastBase_19
  obtain ⟨H, hH⟩ : ∃ H : Heap, H = s.heap := ⟨_, rfl⟩
  obtain ⟨locs, hlocs⟩ : ∃ locs : List Loc, locs = [] := ⟨_, rfl⟩
  have hS : va_S A s.heap H locs := by rw [hH, hlocs]; exact hS
  rw [← hH] at hP
  suffices hg : W p l e rm_X12_leastBase s m aa below meth c H locs 0 0 (MQ below qq aa s 0 0 A) (F0 m 0 ls []) by subst hH; subst hlocs; exact hg
  unfold p_X12_leastBase at h
  refine lv_iconst (v := (0 : Int32)) hx hb dX12_leastBase_0 (by decide) ?_
  refine lv_istore_n (lv' := [(1, .int (0 : Int32)), (0, .int x0)]) hx hb dX12_leastBase_1 rfl hl (by decide) rfl (fun ls hl => ?_)
  exact c2 fu x0 (0 : Int32) H locs ls h hP hD hS (lv_sub hl [1, 0] rfl)

abbrev w_X12_power (cy : Nat → ClassId)   : va_W := []
abbrev rm_X12_power : Room := { frames := 0, cells := 0, slots := 0, locals := 0 }
set_option maxHeartbeats 1000000 in
set_option maxRecDepth 100000 in
theorem c_X12_power (l : Launch) (dC : Nat → ClassId) (dI : Nat → Nat → Nat) (cy : Nat → ClassId)   (x0 : Int32) (x1 : Int32) (sz : Nat) (R0 : Int32) (h : p_X12_power x0 x1 = some R0) : Met l yX12_power wsX12_power rm_X12_power (va_Pc [.int x0, .int x1] (prC dC dI cy (w_X12_power cy  ) sz)) (va_Qi (fun (r : Int32) (_ : Unit) => r = R0) (fun (_ : Unit) t => poC dC dI cy (w_X12_power cy  ) t) (va_A (w_X12_power cy  ) sz)) 0 0 (va_A (w_X12_power cy  ) sz) := by
  refine Met.ofW (cc := cX12_power) (maxL := 4) (ret := (some .int)) (by decide) rfl ?_
  intro p e s m aa below meth c s₁ B hml hv
  obtain ⟨haa, hsz, hP, hK, hD0⟩ := hv
  have hx := B.exec
  have hb := B.bytes
  have hr := B.returns
  have hts := atoms_spec (ws := wsX12_power) B.pre
  have hown : s.vm.findClass RX12 = some m.cls := findClass_of_methodNamed B.named
  have hlocks := B.notSynchronized
  subst hsz
  have hD := hD0.self (sz := s.heap.size)
  obtain ⟨qq, hqq⟩ : ∃ qq, qq = (va_Qi (fun (r : Int32) (_ : Unit) => r = R0) (fun (_ : Unit) t => poC dC dI cy (w_X12_power cy  ) t) (va_A (w_X12_power cy  ) s.heap.size)) := ⟨_, rfl⟩
  rw [← hqq]
  generalize hAe : va_A (w_X12_power cy  ) s.heap.size = A at hD hqq ⊢
  have hA : ∀ q : Nat, s.heap.size ≤ q → A q := fun q h => by rw [← hAe]; exact Or.inr h
  have hS : va_S A s.heap s.heap [] := va_S.rf
  have hl := lv_entry ([.int x0, .int x1]) (n := 4) (Nat.le_of_ble_eq_true rfl)
  have hE : entryFrame m aa 4 = F0 m 0 ((lg_sl ([.int x0, .int x1]) ++ List.replicate (4 - (lg_sl ([.int x0, .int x1])).length) Slot.unset).toArray) [] := by rw [haa]; exact lg_entry_eq m _ 4
  refine W.eq hE ?_
  generalize (lg_sl ([.int x0, .int x1]) ++ List.replicate (4 - (lg_sl ([.int x0, .int x1])).length) Slot.unset).toArray = ls at hl ⊢
  have hl : lv_has ls 4 [(0, .int x0), (1, .int x1)] := hl
  change W p l e rm_X12_power s m aa below meth c s.heap [] 0 0 (MQ below qq aa s 0 0 A) (F0 m 0 ls [])
  have hS0 := hS
  have c4 : ∀ (n : Nat), ∀ (x0 : Int32) (x1 : Int32) (x2 : Int32) (x3 : Int32) (H : Heap) (locs : List Loc) (ls : Array Slot), p_X12_power_4 n x0 x1 x2 x3 = some R0 → va_P (dC, dI) vwCl (w_X12_power cy  ) H → va_D A (w_X12_power cy  ) → va_S A s.heap H locs → lv_has ls 4 [(0, .int x0), (1, .int x1), (2, .int x2), (3, .int x3)] → W p l e rm_X12_power s m aa below meth c H locs 0 0 (MQ below qq aa s 0 0 A) (F0 m 4 ls []) := by
    intro  n
    induction n with
    | zero => intro x0 x1 x2 x3 H locs ls h; exact no_some h
    | succ n ih =>
      intro x0 x1 x2 x3 H locs ls h hP hD hS hl
      rw [p_X12_power_4.eq_2] at h
      refine lv_iload_n hx hb dX12_power_4 rfl (lv_at hl 3 rfl) ?_
      refine lv_iload_n hx hb dX12_power_5 rfl (lv_at hl 1 rfl) ?_
      refine lv_icmp_ge (tgt := 19) hx hb dX12_power_6 (by decide) (fun c1 => ?_) (fun c1 => ?_)
      · rw [if_pos c1] at h
        refine lv_iload_n hx hb dX12_power_19 rfl (lv_at hl 2 rfl) ?_
        exact W.iret (v := x2) hx hb hr (fun t ht hW => by rw [hqq]; have hh := Option.some.inj h; exact ⟨⟨x2, (()), rfl, Option.some.inj h, by rw [ht]; exact hP, va_K.moved hW.alike hK⟩, hS.F ht⟩) hS.2.2 dX12_power_20
      · rw [if_neg c1] at h
        refine lv_iload_n hx hb dX12_power_9 rfl (lv_at hl 2 rfl) ?_
        refine lv_iload_n hx hb dX12_power_10 rfl (lv_at hl 0 rfl) ?_
        refine lv_imul hx hb dX12_power_11 ?_
        refine lv_istore_n (lv' := [(2, .int (x2 * x0)), (0, .int x0), (1, .int x1), (3, .int x3)]) hx hb dX12_power_12 rfl hl (by decide) rfl (fun ls hl => ?_)
        refine lv_iinc (v := (x3 + (1 : Int32))) (lv' := [(3, .int (x3 + (1 : Int32))), (2, .int (x2 * x0)), (0, .int x0), (1, .int x1)]) hx hb dX12_power_13 hl (k := 3) rfl rfl (by decide) rfl (fun ls hl => ?_)
        refine lv_goto (tgt := 4) hx hb dX12_power_16 (by decide) ?_
        exact ih x0 x1 (x2 * x0) (x3 + (1 : Int32)) H locs ls h hP hD hS (lv_sub hl [2, 3, 1, 0] rfl)
  obtain ⟨H, hH⟩ : ∃ H : Heap, H = s.heap := ⟨_, rfl⟩
  obtain ⟨locs, hlocs⟩ : ∃ locs : List Loc, locs = [] := ⟨_, rfl⟩
  have hS : va_S A s.heap H locs := by rw [hH, hlocs]; exact hS
  rw [← hH] at hP
  suffices hg : W p l e rm_X12_power s m aa below meth c H locs 0 0 (MQ below qq aa s 0 0 A) (F0 m 0 ls []) by subst hH; subst hlocs; exact hg
  unfold p_X12_power at h
  refine lv_iconst (v := (1 : Int32)) hx hb dX12_power_0 (by decide) ?_
  refine lv_istore_n (lv' := [(2, .int (1 : Int32)), (0, .int x0), (1, .int x1)]) hx hb dX12_power_1 rfl hl (by decide) rfl (fun ls hl => ?_)
  refine lv_iconst (v := (0 : Int32)) hx hb dX12_power_2 (by decide) ?_
  refine lv_istore_n (lv' := [(3, .int (0 : Int32)), (2, .int (1 : Int32)), (0, .int x0), (1, .int x1)]) hx hb dX12_power_3 rfl hl (by decide) rfl (fun ls hl => ?_)
  exact c4 fu x0 x1 (1 : Int32) (0 : Int32) H locs ls h hP hD hS (lv_sub hl [2, 3, 1, 0] rfl)

abbrev w_X12_dividedUp (cy : Nat → ClassId)   : va_W := []
abbrev rm_X12_dividedUp : Room := { frames := 0, cells := 0, slots := 0, locals := 0 }
set_option maxHeartbeats 1000000 in
set_option maxRecDepth 100000 in
theorem c_X12_dividedUp (l : Launch) (dC : Nat → ClassId) (dI : Nat → Nat → Nat) (cy : Nat → ClassId)   (x0 : Int32) (x1 : Int32) (sz : Nat) (R0 : Int32) (h : p_X12_dividedUp x0 x1 = some R0) : Met l yX12_dividedUp wsX12_dividedUp rm_X12_dividedUp (va_Pc [.int x0, .int x1] (prC dC dI cy (w_X12_dividedUp cy  ) sz)) (va_Qi (fun (r : Int32) (_ : Unit) => r = R0) (fun (_ : Unit) t => poC dC dI cy (w_X12_dividedUp cy  ) t) (va_A (w_X12_dividedUp cy  ) sz)) 0 0 (va_A (w_X12_dividedUp cy  ) sz) := by
  refine Met.ofW (cc := cX12_dividedUp) (maxL := 2) (ret := (some .int)) (by decide) rfl ?_
  intro p e s m aa below meth c s₁ B hml hv
  obtain ⟨haa, hsz, hP, hK, hD0⟩ := hv
  have hx := B.exec
  have hb := B.bytes
  have hr := B.returns
  have hts := atoms_spec (ws := wsX12_dividedUp) B.pre
  have hown : s.vm.findClass RX12 = some m.cls := findClass_of_methodNamed B.named
  have hlocks := B.notSynchronized
  subst hsz
  have hD := hD0.self (sz := s.heap.size)
  obtain ⟨qq, hqq⟩ : ∃ qq, qq = (va_Qi (fun (r : Int32) (_ : Unit) => r = R0) (fun (_ : Unit) t => poC dC dI cy (w_X12_dividedUp cy  ) t) (va_A (w_X12_dividedUp cy  ) s.heap.size)) := ⟨_, rfl⟩
  rw [← hqq]
  generalize hAe : va_A (w_X12_dividedUp cy  ) s.heap.size = A at hD hqq ⊢
  have hA : ∀ q : Nat, s.heap.size ≤ q → A q := fun q h => by rw [← hAe]; exact Or.inr h
  have hS : va_S A s.heap s.heap [] := va_S.rf
  have hl := lv_entry ([.int x0, .int x1]) (n := 2) (Nat.le_of_ble_eq_true rfl)
  have hE : entryFrame m aa 2 = F0 m 0 ((lg_sl ([.int x0, .int x1]) ++ List.replicate (2 - (lg_sl ([.int x0, .int x1])).length) Slot.unset).toArray) [] := by rw [haa]; exact lg_entry_eq m _ 2
  refine W.eq hE ?_
  generalize (lg_sl ([.int x0, .int x1]) ++ List.replicate (2 - (lg_sl ([.int x0, .int x1])).length) Slot.unset).toArray = ls at hl ⊢
  have hl : lv_has ls 2 [(0, .int x0), (1, .int x1)] := hl
  change W p l e rm_X12_dividedUp s m aa below meth c s.heap [] 0 0 (MQ below qq aa s 0 0 A) (F0 m 0 ls [])
  have hS0 := hS
  obtain ⟨H, hH⟩ : ∃ H : Heap, H = s.heap := ⟨_, rfl⟩
  obtain ⟨locs, hlocs⟩ : ∃ locs : List Loc, locs = [] := ⟨_, rfl⟩
  have hS : va_S A s.heap H locs := by rw [hH, hlocs]; exact hS
  rw [← hH] at hP
  suffices hg : W p l e rm_X12_dividedUp s m aa below meth c H locs 0 0 (MQ below qq aa s 0 0 A) (F0 m 0 ls []) by subst hH; subst hlocs; exact hg
  unfold p_X12_dividedUp at h
  refine lv_iload_n hx hb dX12_dividedUp_0 rfl (lv_at hl 1 rfl) ?_
  refine lv_iconst (v := (1 : Int32)) hx hb dX12_dividedUp_1 (by decide) ?_
  refine lv_icmp_ge (tgt := 9) hx hb dX12_dividedUp_2 (by decide) (fun c1 => ?_) (fun c1 => ?_)
  · rw [if_pos c1] at h
    refine lv_iload_n hx hb dX12_dividedUp_9 rfl (lv_at hl 0 rfl) ?_
    refine lv_iload_n hx hb dX12_dividedUp_10 rfl (lv_at hl 1 rfl) ?_
    refine lv_iadd hx hb dX12_dividedUp_11 ?_
    refine lv_iconst (v := (1 : Int32)) hx hb dX12_dividedUp_12 (by decide) ?_
    refine lv_isub hx hb dX12_dividedUp_13 ?_
    refine lv_iload_n hx hb dX12_dividedUp_14 rfl (lv_at hl 1 rfl) ?_
    obtain ⟨hz2, h⟩ := ok_if h
    refine lv_idiv hx hb dX12_dividedUp_15 hz2 ?_
    exact W.iret (v := (((x0 + x1) - (1 : Int32)) / x1)) hx hb hr (fun t ht hW => by rw [hqq]; have hh := Option.some.inj h; exact ⟨⟨(((x0 + x1) - (1 : Int32)) / x1), (()), rfl, Option.some.inj h, by rw [ht]; exact hP, va_K.moved hW.alike hK⟩, hS.F ht⟩) hS.2.2 dX12_dividedUp_16
  · rw [if_neg c1] at h
    refine lv_iconst (v := (0 : Int32)) hx hb dX12_dividedUp_5 (by decide) ?_
    refine lv_goto (tgt := 16) hx hb dX12_dividedUp_6 (by decide) ?_
    exact W.iret (v := (0 : Int32)) hx hb hr (fun t ht hW => by rw [hqq]; have hh := Option.some.inj h; exact ⟨⟨(0 : Int32), (()), rfl, Option.some.inj h, by rw [ht]; exact hP, va_K.moved hW.alike hK⟩, hS.F ht⟩) hS.2.2 dX12_dividedUp_16

abbrev w_X12_alike (cy : Nat → ClassId) (a0 : Nat → Nat)  : va_W := []
abbrev rm_X12_alike : Room := { frames := 6, cells := 1, slots := 6, locals := 90 }
set_option maxHeartbeats 1000000 in
set_option maxRecDepth 100000 in
theorem c_X12_alike (l : Launch) (dC : Nat → ClassId) (dI : Nat → Nat → Nat) (cy : Nat → ClassId) (z : Nat → Nat) (hl9 : l.stackTraces = false) (a0 : Nat → Nat)  (x1 : Int32) (x2 : Int32) (sz : Nat) (R0 : (Int32 ⊕ Nat) × (Unit)) (h : p_X12_alike x1 x2 = some R0) : vx_Met l yX12_alike wsX12_alike rm_X12_alike (va_Pc [.ref (a0 0), .int x1, .int x2] (prS dC dI cy z (w_X12_alike cy a0 ) sz)) (va_Qi (fun (r : Int32) (u : Unit) => Sum.inl r = R0.1 ∧ u = R0.2) (fun (_ : Unit) t => poC dC dI cy (w_X12_alike cy a0 ) t) (va_A (w_X12_alike cy a0 ) sz)) (vx_X (fun (u : Unit) => u = R0.2) (fun E (_ : Unit) t => exE E R0.1 ∧ poC dC dI cy (w_X12_alike cy a0 ) t) (va_A (w_X12_alike cy a0 ) sz)) 1 6 (va_A (w_X12_alike cy a0 ) sz) := by
  refine vx_ofW (cc := cX12_alike) (maxL := 5) (ret := (some .int)) (by decide) rfl ?_
  intro p e s m aa below meth c s₁ B hml htab hv
  obtain ⟨haa, ⟨hsz, hP, hK, hD0⟩, hX⟩ := hv
  have hx := B.exec
  have hb := B.bytes
  have hr := B.returns
  have hts := atoms_spec (ws := wsX12_alike) B.pre
  have hown : s.vm.findClass RX12 = some m.cls := findClass_of_methodNamed B.named
  have hlocks := B.notSynchronized
  subst hsz
  have hD := hD0.self (sz := s.heap.size)
  obtain ⟨qq, hqq⟩ : ∃ qq, qq = (va_Qi (fun (r : Int32) (u : Unit) => Sum.inl r = R0.1 ∧ u = R0.2) (fun (_ : Unit) t => poC dC dI cy (w_X12_alike cy a0 ) t) (va_A (w_X12_alike cy a0 ) s.heap.size)) := ⟨_, rfl⟩
  obtain ⟨xx, hxx⟩ : ∃ xx, xx = (vx_X (fun (u : Unit) => u = R0.2) (fun E (_ : Unit) t => exE E R0.1 ∧ poC dC dI cy (w_X12_alike cy a0 ) t) (va_A (w_X12_alike cy a0 ) s.heap.size)) := ⟨_, rfl⟩
  rw [← hqq, ← hxx]
  generalize hAe : va_A (w_X12_alike cy a0 ) s.heap.size = A at hD hqq hxx hX ⊢
  have hA : ∀ q : Nat, s.heap.size ≤ q → A q := fun q h => by rw [← hAe]; exact Or.inr h
  have hS : va_S A s.heap s.heap [] := va_S.rf
  have hl := lv_entry ([.ref (a0 0), .int x1, .int x2]) (n := 5) (Nat.le_of_ble_eq_true rfl)
  have hE : entryFrame m aa 5 = F0 m 0 ((lg_sl ([.ref (a0 0), .int x1, .int x2]) ++ List.replicate (5 - (lg_sl ([.ref (a0 0), .int x1, .int x2])).length) Slot.unset).toArray) [] := by rw [haa]; exact lg_entry_eq m _ 5
  refine W.eq hE ?_
  generalize (lg_sl ([.ref (a0 0), .int x1, .int x2]) ++ List.replicate (5 - (lg_sl ([.ref (a0 0), .int x1, .int x2])).length) Slot.unset).toArray = ls at hl ⊢
  have hl : lv_has ls 5 [(0, .ref (a0 0)), (1, .int x1), (2, .int x2)] := hl
  change W p l e rm_X12_alike s m aa below meth c s.heap [] 0 0 (vx_MQ below qq xx aa s 1 6 A) (F0 m 0 ls [])
  have hS0 := hS
  have lk0 := hts (.classLink RX12 252 "java/lang/IllegalArgumentException") (by decide +kernel)
  have lk1 := hts (.initialized "java/lang/IllegalArgumentException") (by decide +kernel)
  have gd256 : ∀ w ∈ (vx_atS RX12 256 "java/lang/IllegalArgumentException" ["java/lang/RuntimeException", "java/lang/Exception"]).filter goodWord, w.before aa s = true := fun w hw => hts w ((show ∀ w ∈ (vx_atS RX12 256 "java/lang/IllegalArgumentException" ["java/lang/RuntimeException", "java/lang/Exception"]).filter goodWord, w ∈ wsX12_alike by decide +kernel) w hw)
  have c62 : ∀ (_u : Unit), ∀ (x1 : Int32) (x3 : Int32) (t0 : Int32) (H : Heap) (locs : List Loc) (ls : Array Slot), p_X12_alike_62 x1 x3 t0 = some R0 → va_P (dC, dI) vwCl (w_X12_alike cy a0 ) H → va_D A (w_X12_alike cy a0 ) → va_S A s.heap H locs → lv_has ls 5 [(1, .int x1), (3, .int x3)] → W p l e rm_X12_alike s m aa below meth c H locs 0 0 (vx_MQ below qq xx aa s 1 6 A) (F0 m 62 ls [.int t0]) := by
    intro _ x1 x3 t0 H locs ls h hP hD hS hl
    unfold p_X12_alike_62 at h
    refine lv_istore (lv' := [(4, .int t0), (1, .int x1), (3, .int x3)]) hx hb dX12_alike_62 hl (by decide) rfl (fun ls hl => ?_)
    refine lv_iload_n hx hb dX12_alike_64 rfl (lv_at hl 1 rfl) ?_
    refine lv_iload_n hx hb dX12_alike_65 rfl (lv_at hl 2 rfl) ?_
    refine lv_iload hx hb dX12_alike_66 (lv_at hl 0 rfl) ?_
    obtain ⟨v1, hv2, h⟩ := ok_bind h
    refine cl_si (w2 := fun (_ : Unit) => w_X12_alike cy a0 ) (As := [.int x3, .int t0]) (rest := [.int x1]) ⟨hx, hb, hml, hown, hts⟩ (c_X12_power l dC dI cy  x3 t0 H.size v1 hv2) (va_cwS 2 hts gX12_alike_X12_power rfl rfl rfl (by decide +kernel) ⟨Nat.le_of_ble_eq_true rfl, Nat.le_of_ble_eq_true rfl⟩) cl_blind (cl_pre hK hP hD [] (by decide) rfl) hP hD hS hA [] rfl rfl hl.1 rfl (lv_room (Nat.le_of_ble_eq_true rfl)) dX12_alike_68 ⟨Nat.le_of_ble_eq_true rfl, Nat.le_of_ble_eq_true rfl⟩ ⟨rfl, rfl⟩ (fun _ => updR [] rfl) (fun r u H locs hw hP hD hS => ?_)
    have hw := hw.symm
    subst hw
    have hP : va_P (dC, dI) vwCl (w_X12_alike cy a0 ) H := hP
    have hD : va_D A (w_X12_alike cy a0 ) := hD
    refine lv_iconst (v := (1 : Int32)) hx hb dX12_alike_71 (by decide) ?_
    refine lv_isub hx hb dX12_alike_72 ?_
    obtain ⟨v3, hv4, h⟩ := ok_bind h
    refine cl_si (w2 := fun (_ : Unit) => w_X12_alike cy a0 ) (As := [.int x1, .int (v1 - (1 : Int32))]) (rest := []) ⟨hx, hb, hml, hown, hts⟩ (c_X12_dividedUp l dC dI cy  x1 (v1 - (1 : Int32)) H.size v3 hv4) (va_cwS 2 hts gX12_alike_X12_dividedUp rfl rfl rfl (by decide +kernel) ⟨Nat.le_of_ble_eq_true rfl, Nat.le_of_ble_eq_true rfl⟩) cl_blind (cl_pre hK hP hD [] (by decide) rfl) hP hD hS hA [] rfl rfl hl.1 rfl (lv_room (Nat.le_of_ble_eq_true rfl)) dX12_alike_73 ⟨Nat.le_of_ble_eq_true rfl, Nat.le_of_ble_eq_true rfl⟩ ⟨rfl, rfl⟩ (fun _ => updR [] rfl) (fun r u H locs hw hP hD hS => ?_)
    have hw := hw.symm
    subst hw
    have hP : va_P (dC, dI) vwCl (w_X12_alike cy a0 ) H := hP
    have hD : va_D A (w_X12_alike cy a0 ) := hD
    refine vx_ret ?_
    refine W.widen (k := 1) (n := 6) (by decide) (by decide) ?_
    exact W.iret (v := v3) hx hb hr (fun t ht hW => by rw [hqq]; have hh := Option.some.inj h; exact ⟨⟨v3, (()), rfl, ⟨fst_of hh, snd_of hh⟩, by rw [ht]; exact hP, va_K.moved hW.alike hK⟩, hS.F ht⟩) hS.2.2 dX12_alike_76
  obtain ⟨H, hH⟩ : ∃ H : Heap, H = s.heap := ⟨_, rfl⟩
  obtain ⟨locs, hlocs⟩ : ∃ locs : List Loc, locs = [] := ⟨_, rfl⟩
  have hS : va_S A s.heap H locs := by rw [hH, hlocs]; exact hS
  rw [← hH] at hP
  suffices hg : W p l e rm_X12_alike s m aa below meth c H locs 0 0 (vx_MQ below qq xx aa s 1 6 A) (F0 m 0 ls []) by subst hH; subst hlocs; exact hg
  unfold p_X12_alike at h
  refine lv_iload_n hx hb dX12_alike_0 rfl (lv_at hl 1 rfl) ?_
  refine lv_iconst (v := (1 : Int32)) hx hb dX12_alike_1 (by decide) ?_
  refine lv_icmp_lt (tgt := 12) hx hb dX12_alike_2 (by decide) (fun c1 => ?_) (fun c1 => ?_)
  · rw [if_pos c1] at h
    refine vx_throwS (XC := xx) (text := "no such debt") (names := ["java/lang/RuntimeException", "java/lang/Exception"]) hx hb hl9 hown (by decide) (by decide) lk0 lk1 (hX.tx 254 "no such debt" (by decide)) (ex_at256 gd256 hX) (by decide +kernel) hX.us hX.ss hS (by rw [hml]; exact hl.1) dX12_alike_12 dX12_alike_15 dX12_alike_16 dX12_alike_18 dX12_alike_21 (fun x9 hx9 => (htab x9 hx9).elim) (Nat.le_of_ble_eq_true rfl) (Nat.le_of_ble_eq_true rfl) (Nat.le_of_ble_eq_true rfl) (Nat.le_of_ble_eq_true rfl) hlocks (fun t h1 h2 h3 => by rw [hxx]; have hh := Option.some.inj h; exact ⟨(()), snd_of hh, ⟨exE_2 (fst_of hh).symm, ex_po hP hK h1 h3⟩, ex_F hS h2 h3⟩) hS.2.2 (by decide) (by decide)
  · rw [if_neg c1] at h
    refine lv_iload_n hx hb dX12_alike_5 rfl (lv_at hl 1 rfl) ?_
    refine lv_sipush (v := (9999 : Int32)) hx hb dX12_alike_6 (by decide) ?_
    refine lv_icmp_le (tgt := 22) hx hb dX12_alike_9 (by decide) (fun c2 => ?_) (fun c2 => ?_)
    · rw [if_pos c2] at h
      refine lv_iload_n hx hb dX12_alike_22 rfl (lv_at hl 2 rfl) ?_
      refine lv_if_le (tgt := 33) hx hb dX12_alike_23 (by decide) (fun c3 => ?_) (fun c3 => ?_)
      · rw [if_pos c3] at h
        refine vx_throwSW (XC := xx) (text := "no such bases") (names := ["java/lang/RuntimeException", "java/lang/Exception"]) hx hb hl9 hown (by decide) (by decide) lk0 lk1 (hX.tx 257 "no such bases" (by decide)) (ex_at256 gd256 hX) (by decide +kernel) hX.us hX.ss hS (by rw [hml]; exact hl.1) dX12_alike_33 dX12_alike_36 dX12_alike_37 dX12_alike_40 dX12_alike_43 (fun x9 hx9 => (htab x9 hx9).elim) (Nat.le_of_ble_eq_true rfl) (Nat.le_of_ble_eq_true rfl) (Nat.le_of_ble_eq_true rfl) (Nat.le_of_ble_eq_true rfl) hlocks (fun t h1 h2 h3 => by rw [hxx]; have hh := Option.some.inj h; exact ⟨(()), snd_of hh, ⟨exE_2 (fst_of hh).symm, ex_po hP hK h1 h3⟩, ex_F hS h2 h3⟩) hS.2.2 (by decide) (by decide)
      · rw [if_neg c3] at h
        refine lv_iload_n hx hb dX12_alike_26 rfl (lv_at hl 2 rfl) ?_
        refine lv_bipush (v := (30 : Int32)) hx hb dX12_alike_27 (by decide) ?_
        refine lv_ishr hx hb dX12_alike_29 ?_
        refine lv_if_eq (tgt := 44) hx hb dX12_alike_30 (by decide) (fun c4 => ?_) (fun c4 => ?_)
        · rw [if_pos c4] at h
          refine lv_iload_n hx hb dX12_alike_44 rfl (lv_at hl 2 rfl) ?_
          obtain ⟨v5, hv6, h⟩ := ok_bind h
          refine cl_si (w2 := fun (_ : Unit) => w_X12_alike cy a0 ) (As := [.int x2]) (rest := []) ⟨hx, hb, hml, hown, hts⟩ (c_X12_leastBase l dC dI cy  x2 H.size v5 hv6) (va_cwS 1 hts gX12_alike_X12_leastBase rfl rfl rfl (by decide +kernel) ⟨Nat.le_of_ble_eq_true rfl, Nat.le_of_ble_eq_true rfl⟩) cl_blind (cl_pre hK hP hD [] (by decide) rfl) hP hD hS hA [] rfl rfl hl.1 rfl (lv_room (Nat.le_of_ble_eq_true rfl)) dX12_alike_45 ⟨Nat.le_of_ble_eq_true rfl, Nat.le_of_ble_eq_true rfl⟩ ⟨rfl, rfl⟩ (fun _ => updR [] rfl) (fun r u H locs hw hP hD hS => ?_)
          have hw := hw.symm
          subst hw
          have hP : va_P (dC, dI) vwCl (w_X12_alike cy a0 ) H := hP
          have hD : va_D A (w_X12_alike cy a0 ) := hD
          refine lv_istore_n (lv' := [(3, .int v5), (0, .ref (a0 0)), (1, .int x1), (2, .int x2)]) hx hb dX12_alike_48 rfl hl (by decide) rfl (fun ls hl => ?_)
          refine lv_iload_n hx hb dX12_alike_49 rfl (lv_at hl 3 rfl) ?_
          obtain ⟨v7, hv8, h⟩ := ok_bind h
          refine cl_si (w2 := fun (_ : Unit) => w_X12_alike cy a0 ) (As := [.int x2]) (rest := []) ⟨hx, hb, hml, hown, hts⟩ (c_J6_bitCount_0f7a4 l dC dI cy  x2 H.size v7 hv8) (va_cwS 1 hts gX12_alike_J6_bitCount_0f7a4 rfl rfl rfl (by decide +kernel) ⟨Nat.le_of_ble_eq_true rfl, Nat.le_of_ble_eq_true rfl⟩) cl_blind (cl_pre hK hP hD [] (by decide) rfl) hP hD hS hA [] rfl rfl hl.1 rfl (lv_room (Nat.le_of_ble_eq_true rfl)) dX12_alike_50 ⟨Nat.le_of_ble_eq_true rfl, Nat.le_of_ble_eq_true rfl⟩ ⟨rfl, rfl⟩ (fun _ => updR [] rfl) (fun r u H locs hw hP hD hS => ?_)
          have hw := hw.symm
          subst hw
          have hP : va_P (dC, dI) vwCl (w_X12_alike cy a0 ) H := hP
          have hD : va_D A (w_X12_alike cy a0 ) := hD
          refine lv_iconst (v := (1 : Int32)) hx hb dX12_alike_53 (by decide) ?_
          refine lv_icmp_ne (tgt := 61) hx hb dX12_alike_54 (by decide) (fun c9 => ?_) (fun c9 => ?_)
          · rw [if_neg c9] at h
            refine lv_iconst (v := (1 : Int32)) hx hb dX12_alike_61 (by decide) ?_
            exact c62 () x1 v5 (1 : Int32) H locs ls h hP hD hS (lv_sub hl [2, 0] rfl)
          · rw [if_pos c9] at h
            refine lv_iconst (v := (5 : Int32)) hx hb dX12_alike_57 (by decide) ?_
            refine lv_goto (tgt := 62) hx hb dX12_alike_58 (by decide) ?_
            exact c62 () x1 v5 (5 : Int32) H locs ls h hP hD hS (lv_sub hl [2, 0] rfl)
        · rw [if_neg c4] at h
          refine vx_throwSW (XC := xx) (text := "no such bases") (names := ["java/lang/RuntimeException", "java/lang/Exception"]) hx hb hl9 hown (by decide) (by decide) lk0 lk1 (hX.tx 257 "no such bases" (by decide)) (ex_at256 gd256 hX) (by decide +kernel) hX.us hX.ss hS (by rw [hml]; exact hl.1) dX12_alike_33 dX12_alike_36 dX12_alike_37 dX12_alike_40 dX12_alike_43 (fun x9 hx9 => (htab x9 hx9).elim) (Nat.le_of_ble_eq_true rfl) (Nat.le_of_ble_eq_true rfl) (Nat.le_of_ble_eq_true rfl) (Nat.le_of_ble_eq_true rfl) hlocks (fun t h1 h2 h3 => by rw [hxx]; have hh := Option.some.inj h; exact ⟨(()), snd_of hh, ⟨exE_2 (fst_of hh).symm, ex_po hP hK h1 h3⟩, ex_F hS h2 h3⟩) hS.2.2 (by decide) (by decide)
    · rw [if_neg c2] at h
      refine vx_throwS (XC := xx) (text := "no such debt") (names := ["java/lang/RuntimeException", "java/lang/Exception"]) hx hb hl9 hown (by decide) (by decide) lk0 lk1 (hX.tx 254 "no such debt" (by decide)) (ex_at256 gd256 hX) (by decide +kernel) hX.us hX.ss hS (by rw [hml]; exact hl.1) dX12_alike_12 dX12_alike_15 dX12_alike_16 dX12_alike_18 dX12_alike_21 (fun x9 hx9 => (htab x9 hx9).elim) (Nat.le_of_ble_eq_true rfl) (Nat.le_of_ble_eq_true rfl) (Nat.le_of_ble_eq_true rfl) (Nat.le_of_ble_eq_true rfl) hlocks (fun t h1 h2 h3 => by rw [hxx]; have hh := Option.some.inj h; exact ⟨(()), snd_of hh, ⟨exE_2 (fst_of hh).symm, ex_po hP hK h1 h3⟩, ex_F hS h2 h3⟩) hS.2.2 (by decide) (by decide)

abbrev w_X12_areOwedApart (cy : Nat → ClassId) (a0 : Nat → Nat) (gg : Int32 × Int32 × Int32 × Int32 × Int32 × Int32) (gvn : Int32 × Int32 × (Nat → Int32) × (Nat → Int32) × (Nat → Int32) × (Nat → Int32) × (Nat → Int32)) (gdn : Int32 × Int32 × (Nat → Int32) × (Nat → Int32) × (Nat → Int32) × (Nat → Int32)) : va_W := [(a0 0, .inr (10, [.ref (a0 1), .int (gg.1), .int (gg.2.1), .int (gg.2.2.1), .int (gg.2.2.2.1), .int (gg.2.2.2.2.1), .ref (a0 2), .ref (a0 17), .ref (a0 32), .int (gg.2.2.2.2.2), .ref (a0 47), .ref (a0 48), .ref (a0 49), .ref (a0 50), .ref (a0 68), .ref (a0 78), .ref (a0 80)])), (a0 2, .inr (7, [.int (gvn.1), .int (gvn.2.1), .ref (a0 3), .ref (a0 8), .ref (a0 12), .ref (a0 13), .ref (a0 14), .ref (a0 15), .ref (a0 16)])), (a0 3, .inr (2, [.int (gdn.1), .int (gdn.2.1), .ref (a0 4), .ref (a0 5), .ref (a0 6), .ref (a0 7)])), (a0 4, .inl (cy 1, 10, .inl (gdn.2.2.1))), (a0 5, .inl (cy 1, 10, .inl (gdn.2.2.2.1))), (a0 6, .inl (cy 1, 10, .inl (gdn.2.2.2.2.1))), (a0 7, .inl (cy 1, 50, .inl (gdn.2.2.2.2.2)))]
abbrev rm_X12_areOwedApart : Room := { frames := 2, cells := 0, slots := 0, locals := 42 }
set_option maxHeartbeats 1000000 in
set_option maxRecDepth 100000 in
theorem c_X12_areOwedApart (l : Launch) (dC : Nat → ClassId) (dI : Nat → Nat → Nat) (cy : Nat → ClassId) (a0 : Nat → Nat) (gg : Int32 × Int32 × Int32 × Int32 × Int32 × Int32) (gvn : Int32 × Int32 × (Nat → Int32) × (Nat → Int32) × (Nat → Int32) × (Nat → Int32) × (Nat → Int32)) (gdn : Int32 × Int32 × (Nat → Int32) × (Nat → Int32) × (Nat → Int32) × (Nat → Int32)) (x1 : Int32) (x2 : Int32) (sz : Nat) (R0 : Int32) (h : p_X12_areOwedApart gdn x1 x2 = some R0) : Met l yX12_areOwedApart wsX12_areOwedApart rm_X12_areOwedApart (va_Pc [.ref (a0 0), .int x1, .int x2] (prC dC dI cy (w_X12_areOwedApart cy a0 gg gvn gdn) sz)) (va_Qi (fun (r : Int32) (_ : Unit) => r = R0) (fun (_ : Unit) t => poC dC dI cy (w_X12_areOwedApart cy a0 gg gvn gdn) t) (va_A (w_X12_areOwedApart cy a0 gg gvn gdn) sz)) 0 0 (va_A (w_X12_areOwedApart cy a0 gg gvn gdn) sz) := by
  refine Met.ofW (cc := cX12_areOwedApart) (maxL := 3) (ret := (some .boolean)) (by decide) rfl ?_
  intro p e s m aa below meth c s₁ B hml hv
  obtain ⟨haa, hsz, hP, hK, hD0⟩ := hv
  have hx := B.exec
  have hb := B.bytes
  have hr := B.returns
  have hts := atoms_spec (ws := wsX12_areOwedApart) B.pre
  have hown : s.vm.findClass RX12 = some m.cls := findClass_of_methodNamed B.named
  have hlocks := B.notSynchronized
  subst hsz
  have hD := hD0.self (sz := s.heap.size)
  obtain ⟨qq, hqq⟩ : ∃ qq, qq = (va_Qi (fun (r : Int32) (_ : Unit) => r = R0) (fun (_ : Unit) t => poC dC dI cy (w_X12_areOwedApart cy a0 gg gvn gdn) t) (va_A (w_X12_areOwedApart cy a0 gg gvn gdn) s.heap.size)) := ⟨_, rfl⟩
  rw [← hqq]
  generalize hAe : va_A (w_X12_areOwedApart cy a0 gg gvn gdn) s.heap.size = A at hD hqq ⊢
  have hA : ∀ q : Nat, s.heap.size ≤ q → A q := fun q h => by rw [← hAe]; exact Or.inr h
  have hS : va_S A s.heap s.heap [] := va_S.rf
  have hl := lv_entry ([.ref (a0 0), .int x1, .int x2]) (n := 3) (Nat.le_of_ble_eq_true rfl)
  have hE : entryFrame m aa 3 = F0 m 0 ((lg_sl ([.ref (a0 0), .int x1, .int x2]) ++ List.replicate (3 - (lg_sl ([.ref (a0 0), .int x1, .int x2])).length) Slot.unset).toArray) [] := by rw [haa]; exact lg_entry_eq m _ 3
  refine W.eq hE ?_
  generalize (lg_sl ([.ref (a0 0), .int x1, .int x2]) ++ List.replicate (3 - (lg_sl ([.ref (a0 0), .int x1, .int x2])).length) Slot.unset).toArray = ls at hl ⊢
  have hl : lv_has ls 3 [(0, .ref (a0 0)), (1, .int x1), (2, .int x2)] := hl
  change W p l e rm_X12_areOwedApart s m aa below meth c s.heap [] 0 0 (MQ below qq aa s 0 0 A) (F0 m 0 ls [])
  have hS0 := hS
  have lk0 := hts (.fieldLink RX12 20 "GoatDoors" "now" "LGoatDoors$Village;") (by decide +kernel)
  have lk1 := hts (.fieldLink RX12 130 "GoatDoors$Village" "doors" "LGoatDoors$Doors;") (by decide +kernel)
  have in_X12 : ∀ w ∈ wsX120, w ∈ wsX12_areOwedApart := by decide +kernel
  have in_X9 : ∀ w ∈ wsX90, w ∈ wsX12_areOwedApart := by decide +kernel
  obtain ⟨H, hH⟩ : ∃ H : Heap, H = s.heap := ⟨_, rfl⟩
  obtain ⟨locs, hlocs⟩ : ∃ locs : List Loc, locs = [] := ⟨_, rfl⟩
  have hS : va_S A s.heap H locs := by rw [hH, hlocs]; exact hS
  rw [← hH] at hP
  suffices hg : W p l e rm_X12_areOwedApart s m aa below meth c H locs 0 0 (MQ below qq aa s 0 0 A) (F0 m 0 ls []) by subst hH; subst hlocs; exact hg
  unfold p_X12_areOwedApart at h
  refine lv_aload_n hx hb dX12_areOwedApart_0 rfl (lv_at hl 0 rfl) ?_
  refine va_get (D := (dC, dI)) (ci := 10) (v := .ref (a0 2)) (C := RX12) (T := TX12) (N := 17) hx hb hts in_X12 hown hK hP 0 rfl rfl 6 (by decide) lk0 (fun _ h9 => h9) rfl dX12_areOwedApart_1 ?_
  refine va_get (D := (dC, dI)) (ci := 7) (v := .ref (a0 3)) (C := RX9) (T := TX9) (N := 9) hx hb hts in_X9 hown hK hP 1 rfl rfl 2 (by decide) lk1 (fun _ h9 => h9) rfl dX12_areOwedApart_4 ?_
  refine lv_iload_n hx hb dX12_areOwedApart_7 rfl (lv_at hl 1 rfl) ?_
  obtain ⟨v1, hv2, h⟩ := ok_bind h
  refine cl_vi (w2 := fun (_ : Unit) => w_X12_areOwedApart cy a0 gg gvn gdn) (As := [.int x1]) (rest := []) ⟨hx, hb, hml, hown, hts⟩ (c_X4_has l dC dI cy (fun k => a0 (k + 3)) gdn x1 H.size v1 hv2) (cwV 1 hts gX12_areOwedApart_X4_has rfl rfl rfl (by decide +kernel) ⟨Nat.le_of_ble_eq_true rfl, Nat.le_of_ble_eq_true rfl⟩) (va_recv hK hP (ci := 2) (q0 := 2) rfl rfl) cl_blind (cl_pre hK hP hD [2, 3, 4, 5, 6] (by decide) rfl) hP hD hS hA [2, 3, 4, 5, 6] rfl rfl hl.1 rfl (lv_room (Nat.le_of_ble_eq_true rfl)) dX12_areOwedApart_8 ⟨Nat.le_of_ble_eq_true rfl, Nat.le_of_ble_eq_true rfl⟩ ⟨rfl, rfl⟩ (fun _ => updR [2, 3, 4, 5, 6] rfl) (fun r u H locs hw hP hD hS => ?_)
  have hw := hw.symm
  subst hw
  have hP : va_P (dC, dI) vwCl (w_X12_areOwedApart cy a0 gg gvn gdn) H := hP
  have hD : va_D A (w_X12_areOwedApart cy a0 gg gvn gdn) := hD
  refine lv_if_eq (tgt := 57) hx hb dX12_areOwedApart_11 (by decide) (fun c3 => ?_) (fun c3 => ?_)
  · rw [if_pos c3] at h
    refine lv_iconst (v := (0 : Int32)) hx hb dX12_areOwedApart_57 (by decide) ?_
    exact W.zret (v := (0 : Int32)) (ty := .boolean) hx hb hr rfl (fun t ht hW => by rw [hqq]; have hh := Option.some.inj h; exact ⟨⟨(0 : Int32), (()), rfl, Option.some.inj h, by rw [ht]; exact hP, va_K.moved hW.alike hK⟩, hS.F ht⟩) hS.2.2 dX12_areOwedApart_58
  · rw [if_neg c3] at h
    refine lv_aload_n hx hb dX12_areOwedApart_14 rfl (lv_at hl 0 rfl) ?_
    refine va_get (D := (dC, dI)) (ci := 10) (v := .ref (a0 2)) (C := RX12) (T := TX12) (N := 17) hx hb hts in_X12 hown hK hP 0 rfl rfl 6 (by decide) lk0 (fun _ h9 => h9) rfl dX12_areOwedApart_15 ?_
    refine va_get (D := (dC, dI)) (ci := 7) (v := .ref (a0 3)) (C := RX9) (T := TX9) (N := 9) hx hb hts in_X9 hown hK hP 1 rfl rfl 2 (by decide) lk1 (fun _ h9 => h9) rfl dX12_areOwedApart_18 ?_
    refine lv_iload_n hx hb dX12_areOwedApart_21 rfl (lv_at hl 2 rfl) ?_
    obtain ⟨v4, hv5, h⟩ := ok_bind h
    refine cl_vi (w2 := fun (_ : Unit) => w_X12_areOwedApart cy a0 gg gvn gdn) (As := [.int x2]) (rest := []) ⟨hx, hb, hml, hown, hts⟩ (c_X4_has l dC dI cy (fun k => a0 (k + 3)) gdn x2 H.size v4 hv5) (cwV 1 hts gX12_areOwedApart_X4_has rfl rfl rfl (by decide +kernel) ⟨Nat.le_of_ble_eq_true rfl, Nat.le_of_ble_eq_true rfl⟩) (va_recv hK hP (ci := 2) (q0 := 2) rfl rfl) cl_blind (cl_pre hK hP hD [2, 3, 4, 5, 6] (by decide) rfl) hP hD hS hA [2, 3, 4, 5, 6] rfl rfl hl.1 rfl (lv_room (Nat.le_of_ble_eq_true rfl)) dX12_areOwedApart_22 ⟨Nat.le_of_ble_eq_true rfl, Nat.le_of_ble_eq_true rfl⟩ ⟨rfl, rfl⟩ (fun _ => updR [2, 3, 4, 5, 6] rfl) (fun r u H locs hw hP hD hS => ?_)
    have hw := hw.symm
    subst hw
    have hP : va_P (dC, dI) vwCl (w_X12_areOwedApart cy a0 gg gvn gdn) H := hP
    have hD : va_D A (w_X12_areOwedApart cy a0 gg gvn gdn) := hD
    refine lv_if_eq (tgt := 57) hx hb dX12_areOwedApart_25 (by decide) (fun c6 => ?_) (fun c6 => ?_)
    · rw [if_pos c6] at h
      refine lv_iconst (v := (0 : Int32)) hx hb dX12_areOwedApart_57 (by decide) ?_
      exact W.zret (v := (0 : Int32)) (ty := .boolean) hx hb hr rfl (fun t ht hW => by rw [hqq]; have hh := Option.some.inj h; exact ⟨⟨(0 : Int32), (()), rfl, Option.some.inj h, by rw [ht]; exact hP, va_K.moved hW.alike hK⟩, hS.F ht⟩) hS.2.2 dX12_areOwedApart_58
    · rw [if_neg c6] at h
      refine lv_aload_n hx hb dX12_areOwedApart_28 rfl (lv_at hl 0 rfl) ?_
      refine va_get (D := (dC, dI)) (ci := 10) (v := .ref (a0 2)) (C := RX12) (T := TX12) (N := 17) hx hb hts in_X12 hown hK hP 0 rfl rfl 6 (by decide) lk0 (fun _ h9 => h9) rfl dX12_areOwedApart_29 ?_
      refine va_get (D := (dC, dI)) (ci := 7) (v := .ref (a0 3)) (C := RX9) (T := TX9) (N := 9) hx hb hts in_X9 hown hK hP 1 rfl rfl 2 (by decide) lk1 (fun _ h9 => h9) rfl dX12_areOwedApart_32 ?_
      refine lv_iload_n hx hb dX12_areOwedApart_35 rfl (lv_at hl 1 rfl) ?_
      obtain ⟨v7, hv8, h⟩ := ok_bind h
      refine cl_vi (w2 := fun (_ : Unit) => w_X12_areOwedApart cy a0 gg gvn gdn) (As := [.int x1]) (rest := []) ⟨hx, hb, hml, hown, hts⟩ (c_X4_lenderOf l dC dI cy (fun k => a0 (k + 3)) gdn x1 H.size v7 hv8) (cwV 1 hts gX12_areOwedApart_X4_lenderOf rfl rfl rfl (by decide +kernel) ⟨Nat.le_of_ble_eq_true rfl, Nat.le_of_ble_eq_true rfl⟩) (va_recv hK hP (ci := 2) (q0 := 2) rfl rfl) cl_blind (cl_pre hK hP hD [2, 3, 4, 5, 6] (by decide) rfl) hP hD hS hA [2, 3, 4, 5, 6] rfl rfl hl.1 rfl (lv_room (Nat.le_of_ble_eq_true rfl)) dX12_areOwedApart_36 ⟨Nat.le_of_ble_eq_true rfl, Nat.le_of_ble_eq_true rfl⟩ ⟨rfl, rfl⟩ (fun _ => updR [2, 3, 4, 5, 6] rfl) (fun r u H locs hw hP hD hS => ?_)
      have hw := hw.symm
      subst hw
      have hP : va_P (dC, dI) vwCl (w_X12_areOwedApart cy a0 gg gvn gdn) H := hP
      have hD : va_D A (w_X12_areOwedApart cy a0 gg gvn gdn) := hD
      refine lv_aload_n hx hb dX12_areOwedApart_39 rfl (lv_at hl 0 rfl) ?_
      refine va_get (D := (dC, dI)) (ci := 10) (v := .ref (a0 2)) (C := RX12) (T := TX12) (N := 17) hx hb hts in_X12 hown hK hP 0 rfl rfl 6 (by decide) lk0 (fun _ h9 => h9) rfl dX12_areOwedApart_40 ?_
      refine va_get (D := (dC, dI)) (ci := 7) (v := .ref (a0 3)) (C := RX9) (T := TX9) (N := 9) hx hb hts in_X9 hown hK hP 1 rfl rfl 2 (by decide) lk1 (fun _ h9 => h9) rfl dX12_areOwedApart_43 ?_
      refine lv_iload_n hx hb dX12_areOwedApart_46 rfl (lv_at hl 2 rfl) ?_
      obtain ⟨v9, hv10, h⟩ := ok_bind h
      refine cl_vi (w2 := fun (_ : Unit) => w_X12_areOwedApart cy a0 gg gvn gdn) (As := [.int x2]) (rest := [.int v7]) ⟨hx, hb, hml, hown, hts⟩ (c_X4_lenderOf l dC dI cy (fun k => a0 (k + 3)) gdn x2 H.size v9 hv10) (cwV 1 hts gX12_areOwedApart_X4_lenderOf rfl rfl rfl (by decide +kernel) ⟨Nat.le_of_ble_eq_true rfl, Nat.le_of_ble_eq_true rfl⟩) (va_recv hK hP (ci := 2) (q0 := 2) rfl rfl) cl_blind (cl_pre hK hP hD [2, 3, 4, 5, 6] (by decide) rfl) hP hD hS hA [2, 3, 4, 5, 6] rfl rfl hl.1 rfl (lv_room (Nat.le_of_ble_eq_true rfl)) dX12_areOwedApart_47 ⟨Nat.le_of_ble_eq_true rfl, Nat.le_of_ble_eq_true rfl⟩ ⟨rfl, rfl⟩ (fun _ => updR [2, 3, 4, 5, 6] rfl) (fun r u H locs hw hP hD hS => ?_)
      have hw := hw.symm
      subst hw
      have hP : va_P (dC, dI) vwCl (w_X12_areOwedApart cy a0 gg gvn gdn) H := hP
      have hD : va_D A (w_X12_areOwedApart cy a0 gg gvn gdn) := hD
      refine lv_icmp_eq (tgt := 57) hx hb dX12_areOwedApart_50 (by decide) (fun c11 => ?_) (fun c11 => ?_)
      · rw [if_pos c11] at h
        refine lv_iconst (v := (0 : Int32)) hx hb dX12_areOwedApart_57 (by decide) ?_
        exact W.zret (v := (0 : Int32)) (ty := .boolean) hx hb hr rfl (fun t ht hW => by rw [hqq]; have hh := Option.some.inj h; exact ⟨⟨(0 : Int32), (()), rfl, Option.some.inj h, by rw [ht]; exact hP, va_K.moved hW.alike hK⟩, hS.F ht⟩) hS.2.2 dX12_areOwedApart_58
      · rw [if_neg c11] at h
        refine lv_iconst (v := (1 : Int32)) hx hb dX12_areOwedApart_53 (by decide) ?_
        refine lv_goto (tgt := 58) hx hb dX12_areOwedApart_54 (by decide) ?_
        exact W.zret (v := (1 : Int32)) (ty := .boolean) hx hb hr rfl (fun t ht hW => by rw [hqq]; have hh := Option.some.inj h; exact ⟨⟨(1 : Int32), (()), rfl, Option.some.inj h, by rw [ht]; exact hP, va_K.moved hW.alike hK⟩, hS.F ht⟩) hS.2.2 dX12_areOwedApart_58
