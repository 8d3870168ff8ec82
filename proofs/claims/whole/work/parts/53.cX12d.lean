abbrev w_X12_rests (cy : Nat → ClassId) (a0 : Nat → Nat) (gg : Int32 × Int32 × Int32 × Int32 × Int32 × Int32) (gvn : Int32 × Int32 × (Nat → Int32) × (Nat → Int32) × (Nat → Int32) × (Nat → Int32) × (Nat → Int32)) (gdn : Int32 × Int32 × (Nat → Int32) × (Nat → Int32) × (Nat → Int32) × (Nat → Int32)) (gne : (Nat → Nat → Int32) × (Nat → Nat → Int64)) (ggm : Int32 × Int32 × Int32 × (Nat → Int32) × (Nat → Int32) × (Nat → Int32) × (Nat → Nat → Int64)) : va_W := [(a0 0, .inr (10, [.ref (a0 1), .int (gg.1), .int (gg.2.1), .int (gg.2.2.1), .int (gg.2.2.2.1), .int (gg.2.2.2.2.1), .ref (a0 2), .ref (a0 17), .ref (a0 32), .int (gg.2.2.2.2.2), .ref (a0 47), .ref (a0 48), .ref (a0 49), .ref (a0 50), .ref (a0 68), .ref (a0 78), .ref (a0 80)])), (a0 2, .inr (7, [.int (gvn.1), .int (gvn.2.1), .ref (a0 3), .ref (a0 8), .ref (a0 12), .ref (a0 13), .ref (a0 14), .ref (a0 15), .ref (a0 16)])), (a0 3, .inr (2, [.int (gdn.1), .int (gdn.2.1), .ref (a0 4), .ref (a0 5), .ref (a0 6), .ref (a0 7)])), (a0 4, .inl (cy 1, 10, .inl (gdn.2.2.1))), (a0 5, .inl (cy 1, 10, .inl (gdn.2.2.2.1))), (a0 6, .inl (cy 1, 10, .inl (gdn.2.2.2.2.1))), (a0 7, .inl (cy 1, 50, .inl (gdn.2.2.2.2.2))), (a0 12, .inl (cy 1, 5, .inl (gvn.2.2.1))), (a0 13, .inl (cy 1, 5, .inl (gvn.2.2.2.1))), (a0 14, .inl (cy 1, 5, .inl (gvn.2.2.2.2.1))), (a0 15, .inl (cy 1, 5, .inl (gvn.2.2.2.2.2.1))), (a0 16, .inl (cy 1, 5, .inl (gvn.2.2.2.2.2.2))), (a0 50, .inr (4, [.ref (a0 51), .ref (a0 62)])), (a0 51, .inl (cy 3, 10, .inr (.inr (.inr (.inr (fun i => some ([a0 52, a0 53, a0 54, a0 55, a0 56, a0 57, a0 58, a0 59, a0 60, a0 61].getD i 0))))))), (a0 52, .inl (cy 1, 41, .inl (gne.1 0))), (a0 53, .inl (cy 1, 41, .inl (gne.1 1))), (a0 54, .inl (cy 1, 41, .inl (gne.1 2))), (a0 55, .inl (cy 1, 41, .inl (gne.1 3))), (a0 56, .inl (cy 1, 41, .inl (gne.1 4))), (a0 57, .inl (cy 1, 41, .inl (gne.1 5))), (a0 58, .inl (cy 1, 41, .inl (gne.1 6))), (a0 59, .inl (cy 1, 41, .inl (gne.1 7))), (a0 60, .inl (cy 1, 41, .inl (gne.1 8))), (a0 61, .inl (cy 1, 41, .inl (gne.1 9))), (a0 62, .inl (cy 4, 5, .inr (.inr (.inr (.inr (fun i => some ([a0 63, a0 64, a0 65, a0 66, a0 67].getD i 0))))))), (a0 63, .inl (cy 2, 41, .inr (.inl (gne.2 0)))), (a0 64, .inl (cy 2, 41, .inr (.inl (gne.2 1)))), (a0 65, .inl (cy 2, 41, .inr (.inl (gne.2 2)))), (a0 66, .inl (cy 2, 41, .inr (.inl (gne.2 3)))), (a0 67, .inl (cy 2, 41, .inr (.inl (gne.2 4)))), (a0 68, .inr (3, [.int (ggm.1), .int (ggm.2.1), .int (ggm.2.2.1), .ref (a0 69), .ref (a0 70), .ref (a0 71), .ref (a0 72)])), (a0 69, .inl (cy 1, 5, .inl (ggm.2.2.2.1))), (a0 70, .inl (cy 1, 5, .inl (ggm.2.2.2.2.1))), (a0 71, .inl (cy 1, 5, .inl (ggm.2.2.2.2.2.1))), (a0 72, .inl (cy 4, 5, .inr (.inr (.inr (.inr (fun i => some ([a0 73, a0 74, a0 75, a0 76, a0 77].getD i 0))))))), (a0 73, .inl (cy 2, 26, .inr (.inl (ggm.2.2.2.2.2.2 0)))), (a0 74, .inl (cy 2, 26, .inr (.inl (ggm.2.2.2.2.2.2 1)))), (a0 75, .inl (cy 2, 26, .inr (.inl (ggm.2.2.2.2.2.2 2)))), (a0 76, .inl (cy 2, 26, .inr (.inl (ggm.2.2.2.2.2.2 3)))), (a0 77, .inl (cy 2, 26, .inr (.inl (ggm.2.2.2.2.2.2 4))))]
abbrev rm_X12_rests : Room := { frames := 7, cells := 2, slots := 12, locals := 123 }
set_option maxHeartbeats 1000000 in
set_option maxRecDepth 100000 in
theorem c_X12_rests (l : Launch) (dC : Nat → ClassId) (dI : Nat → Nat → Nat) (cy : Nat → ClassId) (z : Nat → Nat) (hl9 : l.stackTraces = false) (a0 : Nat → Nat) (gg : Int32 × Int32 × Int32 × Int32 × Int32 × Int32) (gvn : Int32 × Int32 × (Nat → Int32) × (Nat → Int32) × (Nat → Int32) × (Nat → Int32) × (Nat → Int32)) (gdn : Int32 × Int32 × (Nat → Int32) × (Nat → Int32) × (Nat → Int32) × (Nat → Int32)) (gne : (Nat → Nat → Int32) × (Nat → Nat → Int64)) (ggm : Int32 × Int32 × Int32 × (Nat → Int32) × (Nat → Int32) × (Nat → Int32) × (Nat → Nat → Int64)) (x1 : Int32) (sz : Nat) (R0 : (Int32 ⊕ Nat) × (((Nat → Nat → Int32) × (Nat → Nat → Int64)) × (Int32 × Int32 × Int32 × (Nat → Int32) × (Nat → Int32) × (Nat → Int32) × (Nat → Nat → Int64)))) (h : p_X12_rests gvn gdn gne ggm x1 = some R0) : vx_Met l yX12_rests wsX12_rests rm_X12_rests (va_Pc [.ref (a0 0), .int x1] (prS dC dI cy z (w_X12_rests cy a0 gg gvn gdn gne ggm) sz)) (va_Qi (fun (r : Int32) (u : ((Nat → Nat → Int32) × (Nat → Nat → Int64)) × (Int32 × Int32 × Int32 × (Nat → Int32) × (Nat → Int32) × (Nat → Int32) × (Nat → Nat → Int64))) => Sum.inl r = R0.1 ∧ u = R0.2) (fun (u : ((Nat → Nat → Int32) × (Nat → Nat → Int64)) × (Int32 × Int32 × Int32 × (Nat → Int32) × (Nat → Int32) × (Nat → Int32) × (Nat → Nat → Int64))) t => poC dC dI cy (w_X12_rests cy a0 gg gvn gdn u.1 u.2) t) (va_A (w_X12_rests cy a0 gg gvn gdn gne ggm) sz)) (vx_X (fun (u : ((Nat → Nat → Int32) × (Nat → Nat → Int64)) × (Int32 × Int32 × Int32 × (Nat → Int32) × (Nat → Int32) × (Nat → Int32) × (Nat → Nat → Int64))) => u = R0.2) (fun E (u : ((Nat → Nat → Int32) × (Nat → Nat → Int64)) × (Int32 × Int32 × Int32 × (Nat → Int32) × (Nat → Int32) × (Nat → Int32) × (Nat → Nat → Int64))) t => exE E R0.1 ∧ poC dC dI cy (w_X12_rests cy a0 gg gvn gdn u.1 u.2) t) (va_A (w_X12_rests cy a0 gg gvn gdn gne ggm) sz)) 2 12 (va_A (w_X12_rests cy a0 gg gvn gdn gne ggm) sz) := by
  refine vx_ofW (cc := cX12_rests) (maxL := 2) (ret := (some .int)) (by decide) rfl ?_
  intro p e s m aa below meth c s₁ B hml htab hv
  obtain ⟨haa, ⟨hsz, hP, hK, hD0⟩, hX⟩ := hv
  have hx := B.exec
  have hb := B.bytes
  have hr := B.returns
  have hts := atoms_spec (ws := wsX12_rests) B.pre
  have hown : s.vm.findClass RX12 = some m.cls := findClass_of_methodNamed B.named
  have hlocks := B.notSynchronized
  subst hsz
  have hD := hD0.self (sz := s.heap.size)
  obtain ⟨qq, hqq⟩ : ∃ qq, qq = (va_Qi (fun (r : Int32) (u : ((Nat → Nat → Int32) × (Nat → Nat → Int64)) × (Int32 × Int32 × Int32 × (Nat → Int32) × (Nat → Int32) × (Nat → Int32) × (Nat → Nat → Int64))) => Sum.inl r = R0.1 ∧ u = R0.2) (fun (u : ((Nat → Nat → Int32) × (Nat → Nat → Int64)) × (Int32 × Int32 × Int32 × (Nat → Int32) × (Nat → Int32) × (Nat → Int32) × (Nat → Nat → Int64))) t => poC dC dI cy (w_X12_rests cy a0 gg gvn gdn u.1 u.2) t) (va_A (w_X12_rests cy a0 gg gvn gdn gne ggm) s.heap.size)) := ⟨_, rfl⟩
  obtain ⟨xx, hxx⟩ : ∃ xx, xx = (vx_X (fun (u : ((Nat → Nat → Int32) × (Nat → Nat → Int64)) × (Int32 × Int32 × Int32 × (Nat → Int32) × (Nat → Int32) × (Nat → Int32) × (Nat → Nat → Int64))) => u = R0.2) (fun E (u : ((Nat → Nat → Int32) × (Nat → Nat → Int64)) × (Int32 × Int32 × Int32 × (Nat → Int32) × (Nat → Int32) × (Nat → Int32) × (Nat → Nat → Int64))) t => exE E R0.1 ∧ poC dC dI cy (w_X12_rests cy a0 gg gvn gdn u.1 u.2) t) (va_A (w_X12_rests cy a0 gg gvn gdn gne ggm) s.heap.size)) := ⟨_, rfl⟩
  rw [← hqq, ← hxx]
  generalize hAe : va_A (w_X12_rests cy a0 gg gvn gdn gne ggm) s.heap.size = A at hD hqq hxx hX ⊢
  have hA : ∀ q : Nat, s.heap.size ≤ q → A q := fun q h => by rw [← hAe]; exact Or.inr h
  have hS : va_S A s.heap s.heap [] := va_S.rf
  have hl := lv_entry ([.ref (a0 0), .int x1]) (n := 2) (Nat.le_of_ble_eq_true rfl)
  have hE : entryFrame m aa 2 = F0 m 0 ((lg_sl ([.ref (a0 0), .int x1]) ++ List.replicate (2 - (lg_sl ([.ref (a0 0), .int x1])).length) Slot.unset).toArray) [] := by rw [haa]; exact lg_entry_eq m _ 2
  refine W.eq hE ?_
  generalize (lg_sl ([.ref (a0 0), .int x1]) ++ List.replicate (2 - (lg_sl ([.ref (a0 0), .int x1])).length) Slot.unset).toArray = ls at hl ⊢
  have hl : lv_has ls 2 [(0, .ref (a0 0)), (1, .int x1)] := hl
  change W p l e rm_X12_rests s m aa below meth c s.heap [] 0 0 (vx_MQ below qq xx aa s 2 12 A) (F0 m 0 ls [])
  have hS0 := hS
  have lk0 := hts (.fieldLink RX12 58 "GoatDoors" "nets" "LGoatDoors$Nets;") (by decide +kernel)
  have lk1 := hts (.fieldLink RX12 20 "GoatDoors" "now" "LGoatDoors$Village;") (by decide +kernel)
  have lk2 := hts (.fieldLink RX12 65 "GoatDoors" "game" "LGoatDoors$Game;") (by decide +kernel)
  have lk3 := hts (.fieldLink RX12 244 "GoatDoors$Game" "resting" "I") (by decide +kernel)
  have lk4 := hts (.classLink RX12 161 "java/util/NoSuchElementException") (by decide +kernel)
  have lk5 := hts (.initialized "java/util/NoSuchElementException") (by decide +kernel)
  have in_X12 : ∀ w ∈ wsX120, w ∈ wsX12_rests := by decide +kernel
  have in_X5 : ∀ w ∈ wsX50, w ∈ wsX12_rests := by decide +kernel
  have gd165 : ∀ w ∈ (vx_atS RX12 165 "java/util/NoSuchElementException" ["java/lang/RuntimeException", "java/lang/Exception"]).filter goodWord, w.before aa s = true := fun w hw => hts w ((show ∀ w ∈ (vx_atS RX12 165 "java/util/NoSuchElementException" ["java/lang/RuntimeException", "java/lang/Exception"]).filter goodWord, w ∈ wsX12_rests by decide +kernel) w hw)
  have c10 : ∀ (_u : Unit), ∀ (gne : (Nat → Nat → Int32) × (Nat → Nat → Int64)) (ggm : Int32 × Int32 × Int32 × (Nat → Int32) × (Nat → Int32) × (Nat → Int32) × (Nat → Nat → Int64)) (x1 : Int32) (H : Heap) (locs : List Loc) (ls : Array Slot), p_X12_rests_10 gvn gdn gne ggm x1 = some R0 → va_P (dC, dI) vwCl (w_X12_rests cy a0 gg gvn gdn gne ggm) H → va_D A (w_X12_rests cy a0 gg gvn gdn gne ggm) → va_S A s.heap H locs → lv_has ls 2 [(0, .ref (a0 0)), (1, .int x1)] → W p l e rm_X12_rests s m aa below meth c H locs 1 6 (vx_MQ below qq xx aa s 2 12 A) (F0 m 10 ls []) := by
    intro _ gne ggm x1 H locs ls h hP hD hS hl
    unfold p_X12_rests_10 at h
    refine lv_aload_n hx hb dX12_rests_10 rfl (lv_at hl 0 rfl) ?_
    refine va_get (D := (dC, dI)) (ci := 10) (v := .ref (a0 50)) (C := RX12) (T := TX12) (N := 17) hx hb hts in_X12 hown hK hP 0 rfl rfl 13 (by decide) lk0 (fun _ h9 => h9) rfl dX12_rests_11 ?_
    refine lv_aload_n hx hb dX12_rests_14 rfl (lv_at hl 0 rfl) ?_
    refine va_get (D := (dC, dI)) (ci := 10) (v := .ref (a0 2)) (C := RX12) (T := TX12) (N := 17) hx hb hts in_X12 hown hK hP 0 rfl rfl 6 (by decide) lk1 (fun _ h9 => h9) rfl dX12_rests_15 ?_
    obtain ⟨v1, hv2, h⟩ := ok_bind h
    refine cl_vv (w2 := fun (u : ((Nat → Nat → Int32) × (Nat → Nat → Int64))) => w_X12_rests cy a0 gg gvn gdn u ggm) (As := [.ref (a0 2)]) (rest := []) ⟨hx, hb, hml, hown, hts⟩ (c_X6_fill l dC dI cy (fun k => a0 (k + 50)) (fun k => a0 (k + 2)) gne gvn gdn H.size v1 hv2) (cwV 1 hts gX12_rests_X6_fill rfl rfl rfl (by decide +kernel) ⟨Nat.le_of_ble_eq_true rfl, Nat.le_of_ble_eq_true rfl⟩) (va_recv hK hP (ci := 4) (q0 := 12) rfl rfl) cl_blind (cl_pre hK hP hD [12, 13, 14, 15, 16, 17, 18, 19, 20, 21, 22, 23, 24, 25, 26, 27, 28, 29, 1, 2, 3, 4, 5, 6] (by decide) rfl) hP hD hS hA [12, 13, 14, 15, 16, 17, 18, 19, 20, 21, 22, 23, 24, 25, 26, 27, 28, 29, 1, 2, 3, 4, 5, 6] rfl rfl hl.1 rfl (lv_room (Nat.le_of_ble_eq_true rfl)) dX12_rests_18 ⟨Nat.le_of_ble_eq_true rfl, Nat.le_of_ble_eq_true rfl⟩ ⟨rfl, rfl⟩ (fun _ => updM [12, 13, 14, 15, 16, 17, 18, 19, 20, 21, 22, 23, 24, 25, 26, 27, 28, 29, 1, 2, 3, 4, 5, 6] [0, 7, 8, 9, 10, 11, 30, 31, 32, 33, 34, 35, 36, 37, 38, 39] [(a0 0, .inr (10, [.ref (a0 1), .int (gg.1), .int (gg.2.1), .int (gg.2.2.1), .int (gg.2.2.2.1), .int (gg.2.2.2.2.1), .ref (a0 2), .ref (a0 17), .ref (a0 32), .int (gg.2.2.2.2.2), .ref (a0 47), .ref (a0 48), .ref (a0 49), .ref (a0 50), .ref (a0 68), .ref (a0 78), .ref (a0 80)])), (a0 12, .inl (cy 1, 5, .inl (gvn.2.2.1))), (a0 13, .inl (cy 1, 5, .inl (gvn.2.2.2.1))), (a0 14, .inl (cy 1, 5, .inl (gvn.2.2.2.2.1))), (a0 15, .inl (cy 1, 5, .inl (gvn.2.2.2.2.2.1))), (a0 16, .inl (cy 1, 5, .inl (gvn.2.2.2.2.2.2))), (a0 68, .inr (3, [.int (ggm.1), .int (ggm.2.1), .int (ggm.2.2.1), .ref (a0 69), .ref (a0 70), .ref (a0 71), .ref (a0 72)])), (a0 69, .inl (cy 1, 5, .inl (ggm.2.2.2.1))), (a0 70, .inl (cy 1, 5, .inl (ggm.2.2.2.2.1))), (a0 71, .inl (cy 1, 5, .inl (ggm.2.2.2.2.2.1))), (a0 72, .inl (cy 4, 5, .inr (.inr (.inr (.inr (fun i => some ([a0 73, a0 74, a0 75, a0 76, a0 77].getD i 0))))))), (a0 73, .inl (cy 2, 26, .inr (.inl (ggm.2.2.2.2.2.2 0)))), (a0 74, .inl (cy 2, 26, .inr (.inl (ggm.2.2.2.2.2.2 1)))), (a0 75, .inl (cy 2, 26, .inr (.inl (ggm.2.2.2.2.2.2 2)))), (a0 76, .inl (cy 2, 26, .inr (.inl (ggm.2.2.2.2.2.2 3)))), (a0 77, .inl (cy 2, 26, .inr (.inl (ggm.2.2.2.2.2.2 4))))] 40 rfl rfl rfl rfl rfl (by decide +kernel) (by decide +kernel) rfl) (fun u H locs hw hP hD hS => ?_)
    have hw := hw.symm
    subst hw
    have hP : va_P (dC, dI) vwCl (w_X12_rests cy a0 gg gvn gdn v1 ggm) H := hP
    have hD : va_D A (w_X12_rests cy a0 gg gvn gdn v1 ggm) := hD
    refine lv_aload_n hx hb dX12_rests_21 rfl (lv_at hl 0 rfl) ?_
    refine va_get (D := (dC, dI)) (ci := 10) (v := .ref (a0 68)) (C := RX12) (T := TX12) (N := 17) hx hb hts in_X12 hown hK hP 0 rfl rfl 14 (by decide) lk2 (fun _ h9 => h9) rfl dX12_rests_22 ?_
    refine lv_aload_n hx hb dX12_rests_25 rfl (lv_at hl 0 rfl) ?_
    refine va_get (D := (dC, dI)) (ci := 10) (v := .ref (a0 2)) (C := RX12) (T := TX12) (N := 17) hx hb hts in_X12 hown hK hP 0 rfl rfl 6 (by decide) lk1 (fun _ h9 => h9) rfl dX12_rests_26 ?_
    refine lv_aload_n hx hb dX12_rests_29 rfl (lv_at hl 0 rfl) ?_
    refine va_get (D := (dC, dI)) (ci := 10) (v := .ref (a0 50)) (C := RX12) (T := TX12) (N := 17) hx hb hts in_X12 hown hK hP 0 rfl rfl 13 (by decide) lk0 (fun _ h9 => h9) rfl dX12_rests_30 ?_
    obtain ⟨v3, hv4, h⟩ := ok_bind h
    refine cl_vv (w2 := fun (u : (Int32 × Int32 × Int32 × (Nat → Int32) × (Nat → Int32) × (Nat → Int32) × (Nat → Nat → Int64))) => w_X12_rests cy a0 gg gvn gdn v1 u) (As := [.ref (a0 2), .ref (a0 50)]) (rest := []) ⟨hx, hb, hml, hown, hts⟩ (c_X5_play l dC dI cy (fun k => a0 (k + 68)) (fun k => a0 (k + 2)) (fun k => a0 (k + 50)) ggm gvn v1 H.size v3 hv4) (cwV 2 hts gX12_rests_X5_play rfl rfl rfl (by decide +kernel) ⟨Nat.le_of_ble_eq_true rfl, Nat.le_of_ble_eq_true rfl⟩) (va_recv hK hP (ci := 3) (q0 := 30) rfl rfl) cl_blind (cl_pre hK hP hD [30, 31, 32, 33, 34, 35, 36, 37, 38, 39, 1, 7, 8, 9, 10, 11, 12, 13, 14, 15, 16, 17, 18, 19, 20, 21, 22, 23, 24, 25, 26, 27, 28, 29] (by decide) rfl) hP hD hS hA [30, 31, 32, 33, 34, 35, 36, 37, 38, 39, 1, 7, 8, 9, 10, 11, 12, 13, 14, 15, 16, 17, 18, 19, 20, 21, 22, 23, 24, 25, 26, 27, 28, 29] rfl rfl hl.1 rfl (lv_room (Nat.le_of_ble_eq_true rfl)) dX12_rests_33 ⟨Nat.le_of_ble_eq_true rfl, Nat.le_of_ble_eq_true rfl⟩ ⟨rfl, rfl⟩ (fun _ => updM [30, 31, 32, 33, 34, 35, 36, 37, 38, 39, 1, 7, 8, 9, 10, 11, 12, 13, 14, 15, 16, 17, 18, 19, 20, 21, 22, 23, 24, 25, 26, 27, 28, 29] [0, 2, 3, 4, 5, 6] [(a0 0, .inr (10, [.ref (a0 1), .int (gg.1), .int (gg.2.1), .int (gg.2.2.1), .int (gg.2.2.2.1), .int (gg.2.2.2.2.1), .ref (a0 2), .ref (a0 17), .ref (a0 32), .int (gg.2.2.2.2.2), .ref (a0 47), .ref (a0 48), .ref (a0 49), .ref (a0 50), .ref (a0 68), .ref (a0 78), .ref (a0 80)])), (a0 3, .inr (2, [.int (gdn.1), .int (gdn.2.1), .ref (a0 4), .ref (a0 5), .ref (a0 6), .ref (a0 7)])), (a0 4, .inl (cy 1, 10, .inl (gdn.2.2.1))), (a0 5, .inl (cy 1, 10, .inl (gdn.2.2.2.1))), (a0 6, .inl (cy 1, 10, .inl (gdn.2.2.2.2.1))), (a0 7, .inl (cy 1, 50, .inl (gdn.2.2.2.2.2)))] 40 rfl rfl rfl rfl rfl (by decide +kernel) (by decide +kernel) rfl) (fun u H locs hw hP hD hS => ?_)
    have hw := hw.symm
    subst hw
    have hP : va_P (dC, dI) vwCl (w_X12_rests cy a0 gg gvn gdn v1 v3) H := hP
    have hD : va_D A (w_X12_rests cy a0 gg gvn gdn v1 v3) := hD
    refine lv_iload_n hx hb dX12_rests_36 rfl (lv_at hl 1 rfl) ?_
    refine lv_iconst (v := (-1 : Int32)) hx hb dX12_rests_37 (by decide) ?_
    refine lv_icmp_ne (tgt := 49) hx hb dX12_rests_38 (by decide) (fun c5 => ?_) (fun c5 => ?_)
    · rw [if_neg c5] at h
      refine lv_aload_n hx hb dX12_rests_49 rfl (lv_at hl 0 rfl) ?_
      refine va_get (D := (dC, dI)) (ci := 10) (v := .ref (a0 68)) (C := RX12) (T := TX12) (N := 17) hx hb hts in_X12 hown hK hP 0 rfl rfl 14 (by decide) lk2 (fun _ h9 => h9) rfl dX12_rests_50 ?_
      refine va_get (D := (dC, dI)) (ci := 3) (v := .int v3.1) (C := RX5) (T := TX5) (N := 7) hx hb hts in_X5 hown hK hP 30 rfl rfl 0 (by decide) lk3 (fun _ h9 => h9) rfl dX12_rests_53 ?_
      refine lv_if_ne (tgt := 69) hx hb dX12_rests_56 (by decide) (fun c6 => ?_) (fun c6 => ?_)
      · rw [if_neg c6] at h
        refine lv_aload_n hx hb dX12_rests_69 rfl (lv_at hl 0 rfl) ?_
        refine va_get (D := (dC, dI)) (ci := 10) (v := .ref (a0 68)) (C := RX12) (T := TX12) (N := 17) hx hb hts in_X12 hown hK hP 0 rfl rfl 14 (by decide) lk2 (fun _ h9 => h9) rfl dX12_rests_70 ?_
        refine lv_iload_n hx hb dX12_rests_73 rfl (lv_at hl 1 rfl) ?_
        obtain ⟨v7, hv8, h⟩ := ok_bind h
        refine cl_vi (w2 := fun (_ : Unit) => w_X12_rests cy a0 gg gvn gdn v1 v3) (As := [.int x1]) (rest := []) ⟨hx, hb, hml, hown, hts⟩ (c_X5_firstOf l dC dI cy (fun k => a0 (k + 68)) v3 x1 H.size v7 hv8) (cwV 1 hts gX12_rests_X5_firstOf rfl rfl rfl (by decide +kernel) ⟨Nat.le_of_ble_eq_true rfl, Nat.le_of_ble_eq_true rfl⟩) (va_recv hK hP (ci := 3) (q0 := 30) rfl rfl) cl_blind (cl_pre hK hP hD [30, 31, 32, 33, 34, 35, 36, 37, 38, 39] (by decide) rfl) hP hD hS hA [30, 31, 32, 33, 34, 35, 36, 37, 38, 39] rfl rfl hl.1 rfl (lv_room (Nat.le_of_ble_eq_true rfl)) dX12_rests_74 ⟨Nat.le_of_ble_eq_true rfl, Nat.le_of_ble_eq_true rfl⟩ ⟨rfl, rfl⟩ (fun _ => updR [30, 31, 32, 33, 34, 35, 36, 37, 38, 39] rfl) (fun r u H locs hw hP hD hS => ?_)
        have hw := hw.symm
        subst hw
        have hP : va_P (dC, dI) vwCl (w_X12_rests cy a0 gg gvn gdn v1 v3) H := hP
        have hD : va_D A (w_X12_rests cy a0 gg gvn gdn v1 v3) := hD
        refine vx_ret ?_
        refine W.widen (k := 2) (n := 12) (by decide) (by decide) ?_
        exact W.iret (v := v7) hx hb hr (fun t ht hW => by rw [hqq]; have hh := Option.some.inj h; exact ⟨⟨v7, ((v1, v3)), rfl, ⟨fst_of hh, snd_of hh⟩, by rw [ht]; exact hP, va_K.moved hW.alike hK⟩, hS.F ht⟩) hS.2.2 dX12_rests_77
      · rw [if_pos c6] at h
        refine vx_throwS (XC := xx) (text := "no row rests") (names := ["java/lang/RuntimeException", "java/lang/Exception"]) hx hb hl9 hown (by decide) (by decide) lk4 lk5 (hX.tx 247 "no row rests" (by decide)) (ex_at165 gd165 hX) (by decide +kernel) hX.us hX.ss hS (by rw [hml]; exact hl.1) dX12_rests_59 dX12_rests_62 dX12_rests_63 dX12_rests_65 dX12_rests_68 (fun x9 hx9 => (htab x9 hx9).elim) (Nat.le_of_ble_eq_true rfl) (Nat.le_of_ble_eq_true rfl) (Nat.le_of_ble_eq_true rfl) (Nat.le_of_ble_eq_true rfl) hlocks (fun t h1 h2 h3 => by rw [hxx]; have hh := Option.some.inj h; exact ⟨((v1, v3)), snd_of hh, ⟨exE_1 (fst_of hh).symm, ex_po hP hK h1 h3⟩, ex_F hS h2 h3⟩) hS.2.2 (by decide) (by decide)
    · rw [if_pos c5] at h
      refine lv_aload_n hx hb dX12_rests_41 rfl (lv_at hl 0 rfl) ?_
      refine va_get (D := (dC, dI)) (ci := 10) (v := .ref (a0 68)) (C := RX12) (T := TX12) (N := 17) hx hb hts in_X12 hown hK hP 0 rfl rfl 14 (by decide) lk2 (fun _ h9 => h9) rfl dX12_rests_42 ?_
      refine va_get (D := (dC, dI)) (ci := 3) (v := .int v3.1) (C := RX5) (T := TX5) (N := 7) hx hb hts in_X5 hown hK hP 30 rfl rfl 0 (by decide) lk3 (fun _ h9 => h9) rfl dX12_rests_45 ?_
      refine vx_ret ?_
      refine W.widen (k := 2) (n := 12) (by decide) (by decide) ?_
      exact W.iret (v := v3.1) hx hb hr (fun t ht hW => by rw [hqq]; have hh := Option.some.inj h; exact ⟨⟨v3.1, ((v1, v3)), rfl, ⟨fst_of hh, snd_of hh⟩, by rw [ht]; exact hP, va_K.moved hW.alike hK⟩, hS.F ht⟩) hS.2.2 dX12_rests_48
  obtain ⟨H, hH⟩ : ∃ H : Heap, H = s.heap := ⟨_, rfl⟩
  obtain ⟨locs, hlocs⟩ : ∃ locs : List Loc, locs = [] := ⟨_, rfl⟩
  have hS : va_S A s.heap H locs := by rw [hH, hlocs]; exact hS
  rw [← hH] at hP
  suffices hg : W p l e rm_X12_rests s m aa below meth c H locs 0 0 (vx_MQ below qq xx aa s 2 12 A) (F0 m 0 ls []) by subst hH; subst hlocs; exact hg
  unfold p_X12_rests at h
  refine lv_iload_n hx hb dX12_rests_0 rfl (lv_at hl 1 rfl) ?_
  refine lv_iconst (v := (-1 : Int32)) hx hb dX12_rests_1 (by decide) ?_
  refine lv_icmp_eq (tgt := 10) hx hb dX12_rests_2 (by decide) (fun c1 => ?_) (fun c1 => ?_)
  · rw [if_pos c1] at h
    refine W.widen (k := 1) (n := 6) (by decide) (by decide) ?_
    exact c10 () gne ggm x1 H locs ls h hP hD hS (lv_sub hl [0, 1] rfl)
  · rw [if_neg c1] at h
    refine lv_aload_n hx hb dX12_rests_5 rfl (lv_at hl 0 rfl) ?_
    refine lv_iload_n hx hb dX12_rests_6 rfl (lv_at hl 1 rfl) ?_
    obtain ⟨v2, hv3, h⟩ := ok_bind h
    refine cx_vv (w2 := fun (_ : Unit) => w_X12_rests cy a0 gg gvn gdn gne ggm) (w2x := fun (_ : Unit) => w_X12_rests cy a0 gg gvn gdn gne ggm) (As := [.int x1]) (rest := []) ⟨hx, hb, hml, hown, hts⟩ (c_X12_needOwner l dC dI cy z hl9 a0 gg gvn x1 H.size v2 hv3) (cwV 1 hts gX12_rests_X12_needOwner rfl rfl rfl (by decide +kernel) ⟨Nat.le_of_ble_eq_true rfl, Nat.le_of_ble_eq_true rfl⟩) (va_recv hK hP (ci := 10) (q0 := 0) rfl rfl) cl_blindS (cl_preS hK hP hD hS hA hX [0, 1, 7, 8, 9, 10, 11] (by decide) rfl) hP hD hS hA [0, 1, 7, 8, 9, 10, 11] rfl rfl hl.1 rfl (lv_room (Nat.le_of_ble_eq_true rfl)) dX12_rests_7 ⟨Nat.le_of_ble_eq_true rfl, Nat.le_of_ble_eq_true rfl⟩ (cells' := 1) (slots' := 6) ⟨rfl, rfl⟩ (fun _ => updR [0, 1, 7, 8, 9, 10, 11] rfl) (fun _ => updR [0, 1, 7, 8, 9, 10, 11] rfl) (fun E ce q9 u H locs hw hE hP hD hS hc1 hc2 hc3 => ?_) (fun u H locs hw hP hD hS => ?_)
    · subst hw
      have hP : va_P (dC, dI) vwCl (w_X12_rests cy a0 gg gvn gdn gne ggm) H := hP
      obtain ⟨hE1, hE2⟩ := exE_pass hE h
      exact vx_out (fun x9 hx9 => (htab x9 hx9).elim) hlocks hc1 hc2 hc3 (fun t h1 h2 => by rw [hxx]; exact ⟨_, hE2.symm, ⟨hE1, by rw [h1]; exact hP, va_K.moved h2 hK⟩, hS.F h1⟩) hS.2.2 (by decide) (by decide)
    obtain ⟨hw1, hw2⟩ := hw
    subst hw2
    rw [← hw1] at h
    dsimp only [xb] at h
    have hP : va_P (dC, dI) vwCl (w_X12_rests cy a0 gg gvn gdn gne ggm) H := hP
    have hD : va_D A (w_X12_rests cy a0 gg gvn gdn gne ggm) := hD
    exact c10 () gne ggm x1 H locs ls h hP hD hS (lv_sub hl [0, 1] rfl)

abbrev w_X12_hedge (cy : Nat → ClassId) (a0 : Nat → Nat) (gg : Int32 × Int32 × Int32 × Int32 × Int32 × Int32) (gvn : Int32 × Int32 × (Nat → Int32) × (Nat → Int32) × (Nat → Int32) × (Nat → Int32) × (Nat → Int32)) (gdn : Int32 × Int32 × (Nat → Int32) × (Nat → Int32) × (Nat → Int32) × (Nat → Int32)) (gne : (Nat → Nat → Int32) × (Nat → Nat → Int64)) : va_W := [(a0 0, .inr (10, [.ref (a0 1), .int (gg.1), .int (gg.2.1), .int (gg.2.2.1), .int (gg.2.2.2.1), .int (gg.2.2.2.2.1), .ref (a0 2), .ref (a0 17), .ref (a0 32), .int (gg.2.2.2.2.2), .ref (a0 47), .ref (a0 48), .ref (a0 49), .ref (a0 50), .ref (a0 68), .ref (a0 78), .ref (a0 80)])), (a0 2, .inr (7, [.int (gvn.1), .int (gvn.2.1), .ref (a0 3), .ref (a0 8), .ref (a0 12), .ref (a0 13), .ref (a0 14), .ref (a0 15), .ref (a0 16)])), (a0 3, .inr (2, [.int (gdn.1), .int (gdn.2.1), .ref (a0 4), .ref (a0 5), .ref (a0 6), .ref (a0 7)])), (a0 4, .inl (cy 1, 10, .inl (gdn.2.2.1))), (a0 5, .inl (cy 1, 10, .inl (gdn.2.2.2.1))), (a0 6, .inl (cy 1, 10, .inl (gdn.2.2.2.2.1))), (a0 7, .inl (cy 1, 50, .inl (gdn.2.2.2.2.2))), (a0 12, .inl (cy 1, 5, .inl (gvn.2.2.1))), (a0 13, .inl (cy 1, 5, .inl (gvn.2.2.2.1))), (a0 14, .inl (cy 1, 5, .inl (gvn.2.2.2.2.1))), (a0 15, .inl (cy 1, 5, .inl (gvn.2.2.2.2.2.1))), (a0 16, .inl (cy 1, 5, .inl (gvn.2.2.2.2.2.2))), (a0 50, .inr (4, [.ref (a0 51), .ref (a0 62)])), (a0 51, .inl (cy 3, 10, .inr (.inr (.inr (.inr (fun i => some ([a0 52, a0 53, a0 54, a0 55, a0 56, a0 57, a0 58, a0 59, a0 60, a0 61].getD i 0))))))), (a0 52, .inl (cy 1, 41, .inl (gne.1 0))), (a0 53, .inl (cy 1, 41, .inl (gne.1 1))), (a0 54, .inl (cy 1, 41, .inl (gne.1 2))), (a0 55, .inl (cy 1, 41, .inl (gne.1 3))), (a0 56, .inl (cy 1, 41, .inl (gne.1 4))), (a0 57, .inl (cy 1, 41, .inl (gne.1 5))), (a0 58, .inl (cy 1, 41, .inl (gne.1 6))), (a0 59, .inl (cy 1, 41, .inl (gne.1 7))), (a0 60, .inl (cy 1, 41, .inl (gne.1 8))), (a0 61, .inl (cy 1, 41, .inl (gne.1 9))), (a0 62, .inl (cy 4, 5, .inr (.inr (.inr (.inr (fun i => some ([a0 63, a0 64, a0 65, a0 66, a0 67].getD i 0))))))), (a0 63, .inl (cy 2, 41, .inr (.inl (gne.2 0)))), (a0 64, .inl (cy 2, 41, .inr (.inl (gne.2 1)))), (a0 65, .inl (cy 2, 41, .inr (.inl (gne.2 2)))), (a0 66, .inl (cy 2, 41, .inr (.inl (gne.2 3)))), (a0 67, .inl (cy 2, 41, .inr (.inl (gne.2 4))))]
abbrev rm_X12_hedge : Room := { frames := 7, cells := 2, slots := 12, locals := 116 }
set_option maxHeartbeats 1000000 in
set_option maxRecDepth 100000 in
theorem c_X12_hedge (l : Launch) (dC : Nat → ClassId) (dI : Nat → Nat → Nat) (cy : Nat → ClassId) (z : Nat → Nat) (hl9 : l.stackTraces = false) (a0 : Nat → Nat) (gg : Int32 × Int32 × Int32 × Int32 × Int32 × Int32) (gvn : Int32 × Int32 × (Nat → Int32) × (Nat → Int32) × (Nat → Int32) × (Nat → Int32) × (Nat → Int32)) (gdn : Int32 × Int32 × (Nat → Int32) × (Nat → Int32) × (Nat → Int32) × (Nat → Int32)) (gne : (Nat → Nat → Int32) × (Nat → Nat → Int64)) (x1 : Int32) (x2 : Int32) (x3 : Int32) (x4 : Int32) (sz : Nat) (R0 : (Int32 ⊕ Nat) × (((Nat → Nat → Int32) × (Nat → Nat → Int64)))) (h : p_X12_hedge gvn gdn gne x1 x2 x3 x4 = some R0) : vx_Met l yX12_hedge wsX12_hedge rm_X12_hedge (va_Pc [.ref (a0 0), .int x1, .int x2, .int x3, .int x4] (prS dC dI cy z (w_X12_hedge cy a0 gg gvn gdn gne) sz)) (va_Qi (fun (r : Int32) (u : ((Nat → Nat → Int32) × (Nat → Nat → Int64))) => Sum.inl r = R0.1 ∧ u = R0.2) (fun (u : ((Nat → Nat → Int32) × (Nat → Nat → Int64))) t => poC dC dI cy (w_X12_hedge cy a0 gg gvn gdn u) t) (va_A (w_X12_hedge cy a0 gg gvn gdn gne) sz)) (vx_X (fun (u : ((Nat → Nat → Int32) × (Nat → Nat → Int64))) => u = R0.2) (fun E (u : ((Nat → Nat → Int32) × (Nat → Nat → Int64))) t => exE E R0.1 ∧ poC dC dI cy (w_X12_hedge cy a0 gg gvn gdn u) t) (va_A (w_X12_hedge cy a0 gg gvn gdn gne) sz)) 2 12 (va_A (w_X12_hedge cy a0 gg gvn gdn gne) sz) := by
  refine vx_ofW (cc := cX12_hedge) (maxL := 9) (ret := (some .int)) (by decide) rfl ?_
  intro p e s m aa below meth c s₁ B hml htab hv
  obtain ⟨haa, ⟨hsz, hP, hK, hD0⟩, hX⟩ := hv
  have hx := B.exec
  have hb := B.bytes
  have hr := B.returns
  have hts := atoms_spec (ws := wsX12_hedge) B.pre
  have hown : s.vm.findClass RX12 = some m.cls := findClass_of_methodNamed B.named
  have hlocks := B.notSynchronized
  subst hsz
  have hD := hD0.self (sz := s.heap.size)
  obtain ⟨qq, hqq⟩ : ∃ qq, qq = (va_Qi (fun (r : Int32) (u : ((Nat → Nat → Int32) × (Nat → Nat → Int64))) => Sum.inl r = R0.1 ∧ u = R0.2) (fun (u : ((Nat → Nat → Int32) × (Nat → Nat → Int64))) t => poC dC dI cy (w_X12_hedge cy a0 gg gvn gdn u) t) (va_A (w_X12_hedge cy a0 gg gvn gdn gne) s.heap.size)) := ⟨_, rfl⟩
  obtain ⟨xx, hxx⟩ : ∃ xx, xx = (vx_X (fun (u : ((Nat → Nat → Int32) × (Nat → Nat → Int64))) => u = R0.2) (fun E (u : ((Nat → Nat → Int32) × (Nat → Nat → Int64))) t => exE E R0.1 ∧ poC dC dI cy (w_X12_hedge cy a0 gg gvn gdn u) t) (va_A (w_X12_hedge cy a0 gg gvn gdn gne) s.heap.size)) := ⟨_, rfl⟩
  rw [← hqq, ← hxx]
  generalize hAe : va_A (w_X12_hedge cy a0 gg gvn gdn gne) s.heap.size = A at hD hqq hxx hX ⊢
  have hA : ∀ q : Nat, s.heap.size ≤ q → A q := fun q h => by rw [← hAe]; exact Or.inr h
  have hS : va_S A s.heap s.heap [] := va_S.rf
  have hl := lv_entry ([.ref (a0 0), .int x1, .int x2, .int x3, .int x4]) (n := 9) (Nat.le_of_ble_eq_true rfl)
  have hE : entryFrame m aa 9 = F0 m 0 ((lg_sl ([.ref (a0 0), .int x1, .int x2, .int x3, .int x4]) ++ List.replicate (9 - (lg_sl ([.ref (a0 0), .int x1, .int x2, .int x3, .int x4])).length) Slot.unset).toArray) [] := by rw [haa]; exact lg_entry_eq m _ 9
  refine W.eq hE ?_
  generalize (lg_sl ([.ref (a0 0), .int x1, .int x2, .int x3, .int x4]) ++ List.replicate (9 - (lg_sl ([.ref (a0 0), .int x1, .int x2, .int x3, .int x4])).length) Slot.unset).toArray = ls at hl ⊢
  have hl : lv_has ls 9 [(0, .ref (a0 0)), (1, .int x1), (2, .int x2), (3, .int x3), (4, .int x4)] := hl
  change W p l e rm_X12_hedge s m aa below meth c s.heap [] 0 0 (vx_MQ below qq xx aa s 2 12 A) (F0 m 0 ls [])
  have hS0 := hS
  have lk0 := hts (.fieldLink RX12 58 "GoatDoors" "nets" "LGoatDoors$Nets;") (by decide +kernel)
  have lk1 := hts (.fieldLink RX12 20 "GoatDoors" "now" "LGoatDoors$Village;") (by decide +kernel)
  have lk2 := hts (.fieldLink RX12 130 "GoatDoors$Village" "doors" "LGoatDoors$Doors;") (by decide +kernel)
  have in_X12 : ∀ w ∈ wsX120, w ∈ wsX12_hedge := by decide +kernel
  have in_X9 : ∀ w ∈ wsX90, w ∈ wsX12_hedge := by decide +kernel
  have c110 : ∀ (k40 : ((Nat → Nat → Int32) × (Nat → Nat → Int64)) → Int32 → Int32 → Int32 → Int32 → Int32 → Int32 → Int32 → Option ((Int32 ⊕ Nat) × (((Nat → Nat → Int32) × (Nat → Nat → Int64))))) (hk40 : ∀ (gne : (Nat → Nat → Int32) × (Nat → Nat → Int64)) (x1 : Int32) (x2 : Int32) (x3 : Int32) (x4 : Int32) (x5 : Int32) (x6 : Int32) (x7 : Int32) (H : Heap) (locs : List Loc) (ls : Array Slot), k40 gne x1 x2 x3 x4 x5 x6 x7 = some R0 → va_P (dC, dI) vwCl (w_X12_hedge cy a0 gg gvn gdn gne) H → va_D A (w_X12_hedge cy a0 gg gvn gdn gne) → va_S A s.heap H locs → lv_has ls 9 [(0, .ref (a0 0)), (1, .int x1), (2, .int x2), (3, .int x3), (4, .int x4), (5, .int x5), (6, .int x6), (7, .int x7)] → W p l e rm_X12_hedge s m aa below meth c H locs 2 12 (vx_MQ below qq xx aa s 2 12 A) (F0 m 40 ls [])), ∀ (gne : (Nat → Nat → Int32) × (Nat → Nat → Int64)) (x1 : Int32) (x2 : Int32) (x3 : Int32) (x4 : Int32) (x5 : Int32) (x6 : Int32) (x7 : Int32) (H : Heap) (locs : List Loc) (ls : Array Slot), p_X12_hedge_110 k40 gvn gdn gne x1 x2 x3 x4 x5 x6 x7 = some R0 → va_P (dC, dI) vwCl (w_X12_hedge cy a0 gg gvn gdn gne) H → va_D A (w_X12_hedge cy a0 gg gvn gdn gne) → va_S A s.heap H locs → lv_has ls 9 [(0, .ref (a0 0)), (1, .int x1), (2, .int x2), (3, .int x3), (4, .int x4), (5, .int x5), (6, .int x6), (7, .int x7)] → W p l e rm_X12_hedge s m aa below meth c H locs 2 12 (vx_MQ below qq xx aa s 2 12 A) (F0 m 110 ls []) := by
    intro k40 hk40 gne x1 x2 x3 x4 x5 x6 x7 H locs ls h hP hD hS hl
    unfold p_X12_hedge_110 at h
    refine lv_iinc (v := (x7 + (1 : Int32))) (lv' := [(7, .int (x7 + (1 : Int32))), (0, .ref (a0 0)), (1, .int x1), (2, .int x2), (3, .int x3), (4, .int x4), (5, .int x5), (6, .int x6)]) hx hb dX12_hedge_110 hl (k := 7) rfl rfl (by decide) rfl (fun ls hl => ?_)
    refine lv_goto (tgt := 40) hx hb dX12_hedge_113 (by decide) ?_
    exact hk40 gne x1 x2 x3 x4 x5 x6 (x7 + (1 : Int32)) H locs ls h hP hD hS (lv_sub hl [1, 2, 3, 4, 5, 6, 7, 0] rfl)
  have c72 : ∀ (k40 : ((Nat → Nat → Int32) × (Nat → Nat → Int64)) → Int32 → Int32 → Int32 → Int32 → Int32 → Int32 → Int32 → Option ((Int32 ⊕ Nat) × (((Nat → Nat → Int32) × (Nat → Nat → Int64))))) (hk40 : ∀ (gne : (Nat → Nat → Int32) × (Nat → Nat → Int64)) (x1 : Int32) (x2 : Int32) (x3 : Int32) (x4 : Int32) (x5 : Int32) (x6 : Int32) (x7 : Int32) (H : Heap) (locs : List Loc) (ls : Array Slot), k40 gne x1 x2 x3 x4 x5 x6 x7 = some R0 → va_P (dC, dI) vwCl (w_X12_hedge cy a0 gg gvn gdn gne) H → va_D A (w_X12_hedge cy a0 gg gvn gdn gne) → va_S A s.heap H locs → lv_has ls 9 [(0, .ref (a0 0)), (1, .int x1), (2, .int x2), (3, .int x3), (4, .int x4), (5, .int x5), (6, .int x6), (7, .int x7)] → W p l e rm_X12_hedge s m aa below meth c H locs 2 12 (vx_MQ below qq xx aa s 2 12 A) (F0 m 40 ls [])), ∀ (gne : (Nat → Nat → Int32) × (Nat → Nat → Int64)) (x1 : Int32) (x2 : Int32) (x3 : Int32) (x4 : Int32) (x5 : Int32) (x6 : Int32) (x7 : Int32) (t0 : Int32) (H : Heap) (locs : List Loc) (ls : Array Slot), p_X12_hedge_72 k40 gvn gdn gne x1 x2 x3 x4 x5 x6 x7 t0 = some R0 → va_P (dC, dI) vwCl (w_X12_hedge cy a0 gg gvn gdn gne) H → va_D A (w_X12_hedge cy a0 gg gvn gdn gne) → va_S A s.heap H locs → lv_has ls 9 [(0, .ref (a0 0)), (1, .int x1), (2, .int x2), (3, .int x3), (4, .int x4), (5, .int x5), (6, .int x6), (7, .int x7)] → W p l e rm_X12_hedge s m aa below meth c H locs 2 12 (vx_MQ below qq xx aa s 2 12 A) (F0 m 72 ls [.int t0]) := by
    intro k40 hk40 gne x1 x2 x3 x4 x5 x6 x7 t0 H locs ls h hP hD hS hl
    unfold p_X12_hedge_72 at h
    refine lv_istore (lv' := [(8, .int t0), (0, .ref (a0 0)), (1, .int x1), (2, .int x2), (3, .int x3), (4, .int x4), (5, .int x5), (6, .int x6), (7, .int x7)]) hx hb dX12_hedge_72 hl (by decide) rfl (fun ls hl => ?_)
    refine lv_iload hx hb dX12_hedge_74 (lv_at hl 8 rfl) ?_
    refine lv_iload hx hb dX12_hedge_76 (lv_at hl 6 rfl) ?_
    refine lv_iconst (v := (-1 : Int32)) hx hb dX12_hedge_78 (by decide) ?_
    refine lv_ixor hx hb dX12_hedge_79 ?_
    refine lv_iand hx hb dX12_hedge_80 ?_
    refine lv_if_ne (tgt := 110) hx hb dX12_hedge_81 (by decide) (fun c1 => ?_) (fun c1 => ?_)
    · rw [if_neg c1] at h
      exact c110 k40 hk40 gne x1 x2 x3 x4 x5 x6 x7 H locs ls h hP hD hS (lv_sub hl [1, 2, 3, 4, 5, 6, 7, 8] rfl)
    · rw [if_pos c1] at h
      refine lv_iload hx hb dX12_hedge_84 (lv_at hl 0 rfl) ?_
      refine lv_if_eq (tgt := 110) hx hb dX12_hedge_86 (by decide) (fun c2 => ?_) (fun c2 => ?_)
      · rw [if_pos c2] at h
        exact c110 k40 hk40 gne x1 x2 x3 x4 x5 x6 x7 H locs ls h hP hD hS (lv_sub hl [1, 2, 3, 4, 5, 6, 7, 8] rfl)
      · rw [if_neg c2] at h
        refine lv_aload_n hx hb dX12_hedge_89 rfl (lv_at hl 1 rfl) ?_
        refine va_get (D := (dC, dI)) (ci := 10) (v := .ref (a0 50)) (C := RX12) (T := TX12) (N := 17) hx hb hts in_X12 hown hK hP 0 rfl rfl 13 (by decide) lk0 (fun _ h9 => h9) rfl dX12_hedge_90 ?_
        refine lv_iload_n hx hb dX12_hedge_93 rfl (lv_at hl 2 rfl) ?_
        refine lv_iload hx hb dX12_hedge_94 (lv_at hl 8 rfl) ?_
        refine lv_iload hx hb dX12_hedge_96 (lv_at hl 5 rfl) ?_
        refine lv_iload_n hx hb dX12_hedge_98 rfl (lv_at hl 3 rfl) ?_
        refine lv_iload_n hx hb dX12_hedge_99 rfl (lv_at hl 4 rfl) ?_
        obtain ⟨v3, hv4, h⟩ := ok_bind h
        refine cl_vi (w2 := fun (_ : Unit) => w_X12_hedge cy a0 gg gvn gdn gne) (As := [.int x1, .int x7, .int x4, .int x2, .int x3]) (rest := []) ⟨hx, hb, hml, hown, hts⟩ (c_X6_standsAlike l dC dI cy (fun k => a0 (k + 50)) gne x1 x7 x4 x2 x3 H.size v3 hv4) (cwV 5 hts gX12_hedge_X6_standsAlike rfl rfl rfl (by decide +kernel) ⟨Nat.le_of_ble_eq_true rfl, Nat.le_of_ble_eq_true rfl⟩) (va_recv hK hP (ci := 4) (q0 := 12) rfl rfl) cl_blind (cl_pre hK hP hD [12, 13, 14, 15, 16, 17, 18, 19, 20, 21, 22, 23, 24, 25, 26, 27, 28, 29] (by decide) rfl) hP hD hS hA [12, 13, 14, 15, 16, 17, 18, 19, 20, 21, 22, 23, 24, 25, 26, 27, 28, 29] rfl rfl hl.1 rfl (lv_room (Nat.le_of_ble_eq_true rfl)) dX12_hedge_100 ⟨Nat.le_of_ble_eq_true rfl, Nat.le_of_ble_eq_true rfl⟩ ⟨rfl, rfl⟩ (fun _ => updR [12, 13, 14, 15, 16, 17, 18, 19, 20, 21, 22, 23, 24, 25, 26, 27, 28, 29] rfl) (fun r u H locs hw hP hD hS => ?_)
        have hw := hw.symm
        subst hw
        have hP : va_P (dC, dI) vwCl (w_X12_hedge cy a0 gg gvn gdn gne) H := hP
        have hD : va_D A (w_X12_hedge cy a0 gg gvn gdn gne) := hD
        refine lv_if_eq (tgt := 110) hx hb dX12_hedge_103 (by decide) (fun c5 => ?_) (fun c5 => ?_)
        · rw [if_pos c5] at h
          exact c110 k40 hk40 gne x1 x2 x3 x4 x5 x6 x7 H locs ls h hP hD hS (lv_sub hl [1, 2, 3, 4, 5, 6, 7, 8] rfl)
        · rw [if_neg c5] at h
          refine lv_iload hx hb dX12_hedge_106 (lv_at hl 8 rfl) ?_
          refine lv_istore (lv' := [(6, .int x7), (8, .int t0), (0, .ref (a0 0)), (1, .int x1), (2, .int x2), (3, .int x3), (4, .int x4), (5, .int x5), (7, .int x7)]) hx hb dX12_hedge_108 hl (by decide) rfl (fun ls hl => ?_)
          exact c110 k40 hk40 gne x1 x2 x3 x4 x5 x7 x7 H locs ls h hP hD hS (lv_sub hl [2, 3, 4, 5, 6, 7, 0, 8] rfl)
  have c67 : ∀ (k40 : ((Nat → Nat → Int32) × (Nat → Nat → Int64)) → Int32 → Int32 → Int32 → Int32 → Int32 → Int32 → Int32 → Option ((Int32 ⊕ Nat) × (((Nat → Nat → Int32) × (Nat → Nat → Int64))))) (hk40 : ∀ (gne : (Nat → Nat → Int32) × (Nat → Nat → Int64)) (x1 : Int32) (x2 : Int32) (x3 : Int32) (x4 : Int32) (x5 : Int32) (x6 : Int32) (x7 : Int32) (H : Heap) (locs : List Loc) (ls : Array Slot), k40 gne x1 x2 x3 x4 x5 x6 x7 = some R0 → va_P (dC, dI) vwCl (w_X12_hedge cy a0 gg gvn gdn gne) H → va_D A (w_X12_hedge cy a0 gg gvn gdn gne) → va_S A s.heap H locs → lv_has ls 9 [(0, .ref (a0 0)), (1, .int x1), (2, .int x2), (3, .int x3), (4, .int x4), (5, .int x5), (6, .int x6), (7, .int x7)] → W p l e rm_X12_hedge s m aa below meth c H locs 2 12 (vx_MQ below qq xx aa s 2 12 A) (F0 m 40 ls [])), ∀ (gne : (Nat → Nat → Int32) × (Nat → Nat → Int64)) (x1 : Int32) (x2 : Int32) (x3 : Int32) (x4 : Int32) (x5 : Int32) (x6 : Int32) (x7 : Int32) (H : Heap) (locs : List Loc) (ls : Array Slot), p_X12_hedge_67 k40 gvn gdn gne x1 x2 x3 x4 x5 x6 x7 = some R0 → va_P (dC, dI) vwCl (w_X12_hedge cy a0 gg gvn gdn gne) H → va_D A (w_X12_hedge cy a0 gg gvn gdn gne) → va_S A s.heap H locs → lv_has ls 9 [(0, .ref (a0 0)), (1, .int x1), (2, .int x2), (3, .int x3), (4, .int x4), (5, .int x5), (6, .int x6), (7, .int x7)] → W p l e rm_X12_hedge s m aa below meth c H locs 2 12 (vx_MQ below qq xx aa s 2 12 A) (F0 m 67 ls []) := by
    intro k40 hk40 gne x1 x2 x3 x4 x5 x6 x7 H locs ls h hP hD hS hl
    unfold p_X12_hedge_67 at h
    refine lv_iconst (v := (1 : Int32)) hx hb dX12_hedge_67 (by decide) ?_
    refine lv_goto (tgt := 72) hx hb dX12_hedge_68 (by decide) ?_
    exact c72 k40 hk40 gne x1 x2 x3 x4 x5 x6 x7 (1 : Int32) H locs ls h hP hD hS (lv_sub hl [0, 1, 2, 3, 4, 5, 6, 7] rfl)
  have c40 : ∀ (n : Nat), ∀ (gne : (Nat → Nat → Int32) × (Nat → Nat → Int64)) (x1 : Int32) (x2 : Int32) (x3 : Int32) (x4 : Int32) (x5 : Int32) (x6 : Int32) (x7 : Int32) (H : Heap) (locs : List Loc) (ls : Array Slot), p_X12_hedge_40 gvn gdn n gne x1 x2 x3 x4 x5 x6 x7 = some R0 → va_P (dC, dI) vwCl (w_X12_hedge cy a0 gg gvn gdn gne) H → va_D A (w_X12_hedge cy a0 gg gvn gdn gne) → va_S A s.heap H locs → lv_has ls 9 [(0, .ref (a0 0)), (1, .int x1), (2, .int x2), (3, .int x3), (4, .int x4), (5, .int x5), (6, .int x6), (7, .int x7)] → W p l e rm_X12_hedge s m aa below meth c H locs 2 12 (vx_MQ below qq xx aa s 2 12 A) (F0 m 40 ls []) := by
    intro  n
    induction n with
    | zero => intro gne x1 x2 x3 x4 x5 x6 x7 H locs ls h; exact no_some h
    | succ n ih =>
      intro gne x1 x2 x3 x4 x5 x6 x7 H locs ls h hP hD hS hl
      rw [p_X12_hedge_40.eq_2] at h
      refine lv_iload hx hb dX12_hedge_40 (lv_at hl 7 rfl) ?_
      refine lv_sipush (v := (1024 : Int32)) hx hb dX12_hedge_42 (by decide) ?_
      refine lv_icmp_ge (tgt := 116) hx hb dX12_hedge_45 (by decide) (fun c1 => ?_) (fun c1 => ?_)
      · rw [if_pos c1] at h
        refine lv_iload hx hb dX12_hedge_116 (lv_at hl 6 rfl) ?_
        refine vx_ret ?_
        exact W.iret (v := x6) hx hb hr (fun t ht hW => by rw [hqq]; have hh := Option.some.inj h; exact ⟨⟨x6, (gne), rfl, ⟨fst_of hh, snd_of hh⟩, by rw [ht]; exact hP, va_K.moved hW.alike hK⟩, hS.F ht⟩) hS.2.2 dX12_hedge_118
      · rw [if_neg c1] at h
        refine lv_iload hx hb dX12_hedge_48 (lv_at hl 6 rfl) ?_
        refine lv_iconst (v := (-1 : Int32)) hx hb dX12_hedge_50 (by decide) ?_
        refine lv_icmp_eq (tgt := 67) hx hb dX12_hedge_51 (by decide) (fun c2 => ?_) (fun c2 => ?_)
        · rw [if_pos c2] at h
          exact c67 (p_X12_hedge_40 gvn gdn n) ih gne x1 x2 x3 x4 x5 x6 x7 H locs ls h hP hD hS (lv_sub hl [0, 1, 2, 3, 4, 5, 6, 7] rfl)
        · rw [if_neg c2] at h
          refine lv_iload hx hb dX12_hedge_54 (lv_at hl 7 rfl) ?_
          obtain ⟨v3, hv4, h⟩ := ok_bind h
          refine cl_si (w2 := fun (_ : Unit) => w_X12_hedge cy a0 gg gvn gdn gne) (As := [.int x7]) (rest := []) ⟨hx, hb, hml, hown, hts⟩ (c_J6_bitCount_0f7a4 l dC dI cy  x7 H.size v3 hv4) (va_cwS 1 hts gX12_hedge_J6_bitCount_0f7a4 rfl rfl rfl (by decide +kernel) ⟨Nat.le_of_ble_eq_true rfl, Nat.le_of_ble_eq_true rfl⟩) cl_blind (cl_pre hK hP hD [] (by decide) rfl) hP hD hS hA [] rfl rfl hl.1 rfl (lv_room (Nat.le_of_ble_eq_true rfl)) dX12_hedge_56 ⟨Nat.le_of_ble_eq_true rfl, Nat.le_of_ble_eq_true rfl⟩ ⟨rfl, rfl⟩ (fun _ => updR [] rfl) (fun r u H locs hw hP hD hS => ?_)
          have hw := hw.symm
          subst hw
          have hP : va_P (dC, dI) vwCl (w_X12_hedge cy a0 gg gvn gdn gne) H := hP
          have hD : va_D A (w_X12_hedge cy a0 gg gvn gdn gne) := hD
          refine lv_iload hx hb dX12_hedge_59 (lv_at hl 6 rfl) ?_
          obtain ⟨v5, hv6, h⟩ := ok_bind h
          refine cl_si (w2 := fun (_ : Unit) => w_X12_hedge cy a0 gg gvn gdn gne) (As := [.int x6]) (rest := [.int v3]) ⟨hx, hb, hml, hown, hts⟩ (c_J6_bitCount_0f7a4 l dC dI cy  x6 H.size v5 hv6) (va_cwS 1 hts gX12_hedge_J6_bitCount_0f7a4 rfl rfl rfl (by decide +kernel) ⟨Nat.le_of_ble_eq_true rfl, Nat.le_of_ble_eq_true rfl⟩) cl_blind (cl_pre hK hP hD [] (by decide) rfl) hP hD hS hA [] rfl rfl hl.1 rfl (lv_room (Nat.le_of_ble_eq_true rfl)) dX12_hedge_61 ⟨Nat.le_of_ble_eq_true rfl, Nat.le_of_ble_eq_true rfl⟩ ⟨rfl, rfl⟩ (fun _ => updR [] rfl) (fun r u H locs hw hP hD hS => ?_)
          have hw := hw.symm
          subst hw
          have hP : va_P (dC, dI) vwCl (w_X12_hedge cy a0 gg gvn gdn gne) H := hP
          have hD : va_D A (w_X12_hedge cy a0 gg gvn gdn gne) := hD
          refine lv_icmp_ge (tgt := 71) hx hb dX12_hedge_64 (by decide) (fun c7 => ?_) (fun c7 => ?_)
          · rw [if_pos c7] at h
            refine lv_iconst (v := (0 : Int32)) hx hb dX12_hedge_71 (by decide) ?_
            exact c72 (p_X12_hedge_40 gvn gdn n) ih gne x1 x2 x3 x4 x5 x6 x7 (0 : Int32) H locs ls h hP hD hS (lv_sub hl [0, 1, 2, 3, 4, 5, 6, 7] rfl)
          · rw [if_neg c7] at h
            exact c67 (p_X12_hedge_40 gvn gdn n) ih gne x1 x2 x3 x4 x5 x6 x7 H locs ls h hP hD hS (lv_sub hl [0, 1, 2, 3, 4, 5, 6, 7] rfl)
  obtain ⟨H, hH⟩ : ∃ H : Heap, H = s.heap := ⟨_, rfl⟩
  obtain ⟨locs, hlocs⟩ : ∃ locs : List Loc, locs = [] := ⟨_, rfl⟩
  have hS : va_S A s.heap H locs := by rw [hH, hlocs]; exact hS
  rw [← hH] at hP
  suffices hg : W p l e rm_X12_hedge s m aa below meth c H locs 0 0 (vx_MQ below qq xx aa s 2 12 A) (F0 m 0 ls []) by subst hH; subst hlocs; exact hg
  unfold p_X12_hedge at h
  refine lv_aload_n hx hb dX12_hedge_0 rfl (lv_at hl 0 rfl) ?_
  refine lv_iload_n hx hb dX12_hedge_1 rfl (lv_at hl 1 rfl) ?_
  obtain ⟨v1, hv2, h⟩ := ok_bind h
  refine cx_vv (w2 := fun (_ : Unit) => w_X12_hedge cy a0 gg gvn gdn gne) (w2x := fun (_ : Unit) => w_X12_hedge cy a0 gg gvn gdn gne) (As := [.int x1]) (rest := []) ⟨hx, hb, hml, hown, hts⟩ (c_X12_needOwner l dC dI cy z hl9 a0 gg gvn x1 H.size v1 hv2) (cwV 1 hts gX12_hedge_X12_needOwner rfl rfl rfl (by decide +kernel) ⟨Nat.le_of_ble_eq_true rfl, Nat.le_of_ble_eq_true rfl⟩) (va_recv hK hP (ci := 10) (q0 := 0) rfl rfl) cl_blindS (cl_preS hK hP hD hS hA hX [0, 1, 7, 8, 9, 10, 11] (by decide) rfl) hP hD hS hA [0, 1, 7, 8, 9, 10, 11] rfl rfl hl.1 rfl (lv_room (Nat.le_of_ble_eq_true rfl)) dX12_hedge_2 ⟨Nat.le_of_ble_eq_true rfl, Nat.le_of_ble_eq_true rfl⟩ (cells' := 1) (slots' := 6) ⟨rfl, rfl⟩ (fun _ => updR [0, 1, 7, 8, 9, 10, 11] rfl) (fun _ => updR [0, 1, 7, 8, 9, 10, 11] rfl) (fun E ce q9 u H locs hw hE hP hD hS hc1 hc2 hc3 => ?_) (fun u H locs hw hP hD hS => ?_)
  · subst hw
    have hP : va_P (dC, dI) vwCl (w_X12_hedge cy a0 gg gvn gdn gne) H := hP
    obtain ⟨hE1, hE2⟩ := exE_pass hE h
    exact vx_out (fun x9 hx9 => (htab x9 hx9).elim) hlocks hc1 hc2 hc3 (fun t h1 h2 => by rw [hxx]; exact ⟨_, hE2.symm, ⟨hE1, by rw [h1]; exact hP, va_K.moved h2 hK⟩, hS.F h1⟩) hS.2.2 (by decide) (by decide)
  obtain ⟨hw1, hw2⟩ := hw
  subst hw2
  rw [← hw1] at h
  dsimp only [xb] at h
  have hP : va_P (dC, dI) vwCl (w_X12_hedge cy a0 gg gvn gdn gne) H := hP
  have hD : va_D A (w_X12_hedge cy a0 gg gvn gdn gne) := hD
  refine lv_iload_n hx hb dX12_hedge_5 rfl (lv_at hl 2 rfl) ?_
  refine lv_iload_n hx hb dX12_hedge_6 rfl (lv_at hl 3 rfl) ?_
  obtain ⟨v3, hv4, h⟩ := ok_bind h
  refine cx_sv (w2 := fun (_ : Unit) => w_X12_hedge cy a0 gg gvn gdn gne) (w2x := fun (_ : Unit) => w_X12_hedge cy a0 gg gvn gdn gne) (As := [.int x2, .int x3]) (rest := []) ⟨hx, hb, hml, hown, hts⟩ (c_X12_needBases l dC dI cy z hl9  x2 x3 H.size v3 hv4) (va_cwS 2 hts gX12_hedge_X12_needBases rfl rfl rfl (by decide +kernel) ⟨Nat.le_of_ble_eq_true rfl, Nat.le_of_ble_eq_true rfl⟩) cl_blindS (cl_preS hK hP hD hS hA hX [] (by decide) rfl) hP hD hS hA [] rfl rfl hl.1 rfl (lv_room (Nat.le_of_ble_eq_true rfl)) dX12_hedge_7 ⟨Nat.le_of_ble_eq_true rfl, Nat.le_of_ble_eq_true rfl⟩ (cells' := 2) (slots' := 12) ⟨rfl, rfl⟩ (fun _ => updR [] rfl) (fun _ => updR [] rfl) (fun E ce q9 u H locs hw hE hP hD hS hc1 hc2 hc3 => ?_) (fun u H locs hw hP hD hS => ?_)
  · subst hw
    have hP : va_P (dC, dI) vwCl (w_X12_hedge cy a0 gg gvn gdn gne) H := hP
    obtain ⟨hE1, hE2⟩ := exE_pass hE h
    exact vx_out (fun x9 hx9 => (htab x9 hx9).elim) hlocks hc1 hc2 hc3 (fun t h1 h2 => by rw [hxx]; exact ⟨_, hE2.symm, ⟨hE1, by rw [h1]; exact hP, va_K.moved h2 hK⟩, hS.F h1⟩) hS.2.2 (by decide) (by decide)
  obtain ⟨hw1, hw2⟩ := hw
  subst hw2
  rw [← hw1] at h
  dsimp only [xb] at h
  have hP : va_P (dC, dI) vwCl (w_X12_hedge cy a0 gg gvn gdn gne) H := hP
  have hD : va_D A (w_X12_hedge cy a0 gg gvn gdn gne) := hD
  refine lv_aload_n hx hb dX12_hedge_10 rfl (lv_at hl 0 rfl) ?_
  refine va_get (D := (dC, dI)) (ci := 10) (v := .ref (a0 50)) (C := RX12) (T := TX12) (N := 17) hx hb hts in_X12 hown hK hP 0 rfl rfl 13 (by decide) lk0 (fun _ h9 => h9) rfl dX12_hedge_11 ?_
  refine lv_aload_n hx hb dX12_hedge_14 rfl (lv_at hl 0 rfl) ?_
  refine va_get (D := (dC, dI)) (ci := 10) (v := .ref (a0 2)) (C := RX12) (T := TX12) (N := 17) hx hb hts in_X12 hown hK hP 0 rfl rfl 6 (by decide) lk1 (fun _ h9 => h9) rfl dX12_hedge_15 ?_
  obtain ⟨v5, hv6, h⟩ := ok_bind h
  refine cl_vv (w2 := fun (u : ((Nat → Nat → Int32) × (Nat → Nat → Int64))) => w_X12_hedge cy a0 gg gvn gdn u) (As := [.ref (a0 2)]) (rest := []) ⟨hx, hb, hml, hown, hts⟩ (c_X6_fill l dC dI cy (fun k => a0 (k + 50)) (fun k => a0 (k + 2)) gne gvn gdn H.size v5 hv6) (cwV 1 hts gX12_hedge_X6_fill rfl rfl rfl (by decide +kernel) ⟨Nat.le_of_ble_eq_true rfl, Nat.le_of_ble_eq_true rfl⟩) (va_recv hK hP (ci := 4) (q0 := 12) rfl rfl) cl_blind (cl_pre hK hP hD [12, 13, 14, 15, 16, 17, 18, 19, 20, 21, 22, 23, 24, 25, 26, 27, 28, 29, 1, 2, 3, 4, 5, 6] (by decide) rfl) hP hD hS hA [12, 13, 14, 15, 16, 17, 18, 19, 20, 21, 22, 23, 24, 25, 26, 27, 28, 29, 1, 2, 3, 4, 5, 6] rfl rfl hl.1 rfl (lv_room (Nat.le_of_ble_eq_true rfl)) dX12_hedge_18 ⟨Nat.le_of_ble_eq_true rfl, Nat.le_of_ble_eq_true rfl⟩ ⟨rfl, rfl⟩ (fun _ => updM [12, 13, 14, 15, 16, 17, 18, 19, 20, 21, 22, 23, 24, 25, 26, 27, 28, 29, 1, 2, 3, 4, 5, 6] [0, 7, 8, 9, 10, 11] [(a0 0, .inr (10, [.ref (a0 1), .int (gg.1), .int (gg.2.1), .int (gg.2.2.1), .int (gg.2.2.2.1), .int (gg.2.2.2.2.1), .ref (a0 2), .ref (a0 17), .ref (a0 32), .int (gg.2.2.2.2.2), .ref (a0 47), .ref (a0 48), .ref (a0 49), .ref (a0 50), .ref (a0 68), .ref (a0 78), .ref (a0 80)])), (a0 12, .inl (cy 1, 5, .inl (gvn.2.2.1))), (a0 13, .inl (cy 1, 5, .inl (gvn.2.2.2.1))), (a0 14, .inl (cy 1, 5, .inl (gvn.2.2.2.2.1))), (a0 15, .inl (cy 1, 5, .inl (gvn.2.2.2.2.2.1))), (a0 16, .inl (cy 1, 5, .inl (gvn.2.2.2.2.2.2)))] 30 rfl rfl rfl rfl rfl (by decide +kernel) (by decide +kernel) rfl) (fun u H locs hw hP hD hS => ?_)
  have hw := hw.symm
  subst hw
  have hP : va_P (dC, dI) vwCl (w_X12_hedge cy a0 gg gvn gdn v5) H := hP
  have hD : va_D A (w_X12_hedge cy a0 gg gvn gdn v5) := hD
  refine lv_aload_n hx hb dX12_hedge_21 rfl (lv_at hl 0 rfl) ?_
  refine va_get (D := (dC, dI)) (ci := 10) (v := .ref (a0 2)) (C := RX12) (T := TX12) (N := 17) hx hb hts in_X12 hown hK hP 0 rfl rfl 6 (by decide) lk1 (fun _ h9 => h9) rfl dX12_hedge_22 ?_
  refine va_get (D := (dC, dI)) (ci := 7) (v := .ref (a0 3)) (C := RX9) (T := TX9) (N := 9) hx hb hts in_X9 hown hK hP 1 rfl rfl 2 (by decide) lk2 (fun _ h9 => h9) rfl dX12_hedge_25 ?_
  refine lv_iload_n hx hb dX12_hedge_28 rfl (lv_at hl 1 rfl) ?_
  obtain ⟨v7, hv8, h⟩ := ok_bind h
  refine cl_vi (w2 := fun (_ : Unit) => w_X12_hedge cy a0 gg gvn gdn v5) (As := [.int x1]) (rest := []) ⟨hx, hb, hml, hown, hts⟩ (c_X4_bitsWithout l dC dI cy (fun k => a0 (k + 3)) gdn x1 H.size v7 hv8) (cwV 1 hts gX12_hedge_X4_bitsWithout rfl rfl rfl (by decide +kernel) ⟨Nat.le_of_ble_eq_true rfl, Nat.le_of_ble_eq_true rfl⟩) (va_recv hK hP (ci := 2) (q0 := 2) rfl rfl) cl_blind (cl_pre hK hP hD [2, 3, 4, 5, 6] (by decide) rfl) hP hD hS hA [2, 3, 4, 5, 6] rfl rfl hl.1 rfl (lv_room (Nat.le_of_ble_eq_true rfl)) dX12_hedge_29 ⟨Nat.le_of_ble_eq_true rfl, Nat.le_of_ble_eq_true rfl⟩ ⟨rfl, rfl⟩ (fun _ => updR [2, 3, 4, 5, 6] rfl) (fun r u H locs hw hP hD hS => ?_)
  have hw := hw.symm
  subst hw
  have hP : va_P (dC, dI) vwCl (w_X12_hedge cy a0 gg gvn gdn v5) H := hP
  have hD : va_D A (w_X12_hedge cy a0 gg gvn gdn v5) := hD
  refine lv_istore (lv' := [(5, .int v7), (0, .ref (a0 0)), (1, .int x1), (2, .int x2), (3, .int x3), (4, .int x4)]) hx hb dX12_hedge_32 hl (by decide) rfl (fun ls hl => ?_)
  refine lv_iconst (v := (-1 : Int32)) hx hb dX12_hedge_34 (by decide) ?_
  refine lv_istore (lv' := [(6, .int (-1 : Int32)), (5, .int v7), (0, .ref (a0 0)), (1, .int x1), (2, .int x2), (3, .int x3), (4, .int x4)]) hx hb dX12_hedge_35 hl (by decide) rfl (fun ls hl => ?_)
  refine lv_iconst (v := (0 : Int32)) hx hb dX12_hedge_37 (by decide) ?_
  refine lv_istore (lv' := [(7, .int (0 : Int32)), (6, .int (-1 : Int32)), (5, .int v7), (0, .ref (a0 0)), (1, .int x1), (2, .int x2), (3, .int x3), (4, .int x4)]) hx hb dX12_hedge_38 hl (by decide) rfl (fun ls hl => ?_)
  exact c40 fu v5 x1 x2 x3 x4 v7 (-1 : Int32) (0 : Int32) H locs ls h hP hD hS (lv_sub hl [3, 4, 5, 6, 7, 2, 1, 0] rfl)

abbrev w_X12_eases (cy : Nat → ClassId) (a0 : Nat → Nat) (gg : Int32 × Int32 × Int32 × Int32 × Int32 × Int32) (gvn : Int32 × Int32 × (Nat → Int32) × (Nat → Int32) × (Nat → Int32) × (Nat → Int32) × (Nat → Int32)) (gdn : Int32 × Int32 × (Nat → Int32) × (Nat → Int32) × (Nat → Int32) × (Nat → Int32)) (gne : (Nat → Nat → Int32) × (Nat → Nat → Int64)) : va_W := [(a0 0, .inr (10, [.ref (a0 1), .int (gg.1), .int (gg.2.1), .int (gg.2.2.1), .int (gg.2.2.2.1), .int (gg.2.2.2.2.1), .ref (a0 2), .ref (a0 17), .ref (a0 32), .int (gg.2.2.2.2.2), .ref (a0 47), .ref (a0 48), .ref (a0 49), .ref (a0 50), .ref (a0 68), .ref (a0 78), .ref (a0 80)])), (a0 2, .inr (7, [.int (gvn.1), .int (gvn.2.1), .ref (a0 3), .ref (a0 8), .ref (a0 12), .ref (a0 13), .ref (a0 14), .ref (a0 15), .ref (a0 16)])), (a0 3, .inr (2, [.int (gdn.1), .int (gdn.2.1), .ref (a0 4), .ref (a0 5), .ref (a0 6), .ref (a0 7)])), (a0 4, .inl (cy 1, 10, .inl (gdn.2.2.1))), (a0 5, .inl (cy 1, 10, .inl (gdn.2.2.2.1))), (a0 6, .inl (cy 1, 10, .inl (gdn.2.2.2.2.1))), (a0 7, .inl (cy 1, 50, .inl (gdn.2.2.2.2.2))), (a0 50, .inr (4, [.ref (a0 51), .ref (a0 62)])), (a0 51, .inl (cy 3, 10, .inr (.inr (.inr (.inr (fun i => some ([a0 52, a0 53, a0 54, a0 55, a0 56, a0 57, a0 58, a0 59, a0 60, a0 61].getD i 0))))))), (a0 52, .inl (cy 1, 41, .inl (gne.1 0))), (a0 53, .inl (cy 1, 41, .inl (gne.1 1))), (a0 54, .inl (cy 1, 41, .inl (gne.1 2))), (a0 55, .inl (cy 1, 41, .inl (gne.1 3))), (a0 56, .inl (cy 1, 41, .inl (gne.1 4))), (a0 57, .inl (cy 1, 41, .inl (gne.1 5))), (a0 58, .inl (cy 1, 41, .inl (gne.1 6))), (a0 59, .inl (cy 1, 41, .inl (gne.1 7))), (a0 60, .inl (cy 1, 41, .inl (gne.1 8))), (a0 61, .inl (cy 1, 41, .inl (gne.1 9))), (a0 62, .inl (cy 4, 5, .inr (.inr (.inr (.inr (fun i => some ([a0 63, a0 64, a0 65, a0 66, a0 67].getD i 0))))))), (a0 63, .inl (cy 2, 41, .inr (.inl (gne.2 0)))), (a0 64, .inl (cy 2, 41, .inr (.inl (gne.2 1)))), (a0 65, .inl (cy 2, 41, .inr (.inl (gne.2 2)))), (a0 66, .inl (cy 2, 41, .inr (.inl (gne.2 3)))), (a0 67, .inl (cy 2, 41, .inr (.inl (gne.2 4))))]
abbrev rm_X12_eases : Room := { frames := 4, cells := 0, slots := 0, locals := 101 }
set_option maxHeartbeats 1000000 in
set_option maxRecDepth 100000 in
theorem c_X12_eases (l : Launch) (dC : Nat → ClassId) (dI : Nat → Nat → Nat) (cy : Nat → ClassId) (a0 : Nat → Nat) (gg : Int32 × Int32 × Int32 × Int32 × Int32 × Int32) (gvn : Int32 × Int32 × (Nat → Int32) × (Nat → Int32) × (Nat → Int32) × (Nat → Int32) × (Nat → Int32)) (gdn : Int32 × Int32 × (Nat → Int32) × (Nat → Int32) × (Nat → Int32) × (Nat → Int32)) (gne : (Nat → Nat → Int32) × (Nat → Nat → Int64)) (x1 : Int32) (x2 : Int32) (x3 : Int32) (x4 : Int32) (sz : Nat) (R0 : Int32) (h : p_X12_eases gdn gne x1 x2 x3 x4 = some R0) : Met l yX12_eases wsX12_eases rm_X12_eases (va_Pc [.ref (a0 0), .int x1, .int x2, .int x3, .int x4] (prC dC dI cy (w_X12_eases cy a0 gg gvn gdn gne) sz)) (va_Qi (fun (r : Int32) (_ : Unit) => r = R0) (fun (_ : Unit) t => poC dC dI cy (w_X12_eases cy a0 gg gvn gdn gne) t) (va_A (w_X12_eases cy a0 gg gvn gdn gne) sz)) 0 0 (va_A (w_X12_eases cy a0 gg gvn gdn gne) sz) := by
  refine Met.ofW (cc := cX12_eases) (maxL := 6) (ret := (some .boolean)) (by decide) rfl ?_
  intro p e s m aa below meth c s₁ B hml hv
  obtain ⟨haa, hsz, hP, hK, hD0⟩ := hv
  have hx := B.exec
  have hb := B.bytes
  have hr := B.returns
  have hts := atoms_spec (ws := wsX12_eases) B.pre
  have hown : s.vm.findClass RX12 = some m.cls := findClass_of_methodNamed B.named
  have hlocks := B.notSynchronized
  subst hsz
  have hD := hD0.self (sz := s.heap.size)
  obtain ⟨qq, hqq⟩ : ∃ qq, qq = (va_Qi (fun (r : Int32) (_ : Unit) => r = R0) (fun (_ : Unit) t => poC dC dI cy (w_X12_eases cy a0 gg gvn gdn gne) t) (va_A (w_X12_eases cy a0 gg gvn gdn gne) s.heap.size)) := ⟨_, rfl⟩
  rw [← hqq]
  generalize hAe : va_A (w_X12_eases cy a0 gg gvn gdn gne) s.heap.size = A at hD hqq ⊢
  have hA : ∀ q : Nat, s.heap.size ≤ q → A q := fun q h => by rw [← hAe]; exact Or.inr h
  have hS : va_S A s.heap s.heap [] := va_S.rf
  have hl := lv_entry ([.ref (a0 0), .int x1, .int x2, .int x3, .int x4]) (n := 6) (Nat.le_of_ble_eq_true rfl)
  have hE : entryFrame m aa 6 = F0 m 0 ((lg_sl ([.ref (a0 0), .int x1, .int x2, .int x3, .int x4]) ++ List.replicate (6 - (lg_sl ([.ref (a0 0), .int x1, .int x2, .int x3, .int x4])).length) Slot.unset).toArray) [] := by rw [haa]; exact lg_entry_eq m _ 6
  refine W.eq hE ?_
  generalize (lg_sl ([.ref (a0 0), .int x1, .int x2, .int x3, .int x4]) ++ List.replicate (6 - (lg_sl ([.ref (a0 0), .int x1, .int x2, .int x3, .int x4])).length) Slot.unset).toArray = ls at hl ⊢
  have hl : lv_has ls 6 [(0, .ref (a0 0)), (1, .int x1), (2, .int x2), (3, .int x3), (4, .int x4)] := hl
  change W p l e rm_X12_eases s m aa below meth c s.heap [] 0 0 (MQ below qq aa s 0 0 A) (F0 m 0 ls [])
  have hS0 := hS
  have lk0 := hts (.fieldLink RX12 20 "GoatDoors" "now" "LGoatDoors$Village;") (by decide +kernel)
  have lk1 := hts (.fieldLink RX12 130 "GoatDoors$Village" "doors" "LGoatDoors$Doors;") (by decide +kernel)
  have lk2 := hts (.fieldLink RX12 58 "GoatDoors" "nets" "LGoatDoors$Nets;") (by decide +kernel)
  have in_X12 : ∀ w ∈ wsX120, w ∈ wsX12_eases := by decide +kernel
  have in_X9 : ∀ w ∈ wsX90, w ∈ wsX12_eases := by decide +kernel
  obtain ⟨H, hH⟩ : ∃ H : Heap, H = s.heap := ⟨_, rfl⟩
  obtain ⟨locs, hlocs⟩ : ∃ locs : List Loc, locs = [] := ⟨_, rfl⟩
  have hS : va_S A s.heap H locs := by rw [hH, hlocs]; exact hS
  rw [← hH] at hP
  suffices hg : W p l e rm_X12_eases s m aa below meth c H locs 0 0 (MQ below qq aa s 0 0 A) (F0 m 0 ls []) by subst hH; subst hlocs; exact hg
  unfold p_X12_eases at h
  refine lv_aload_n hx hb dX12_eases_0 rfl (lv_at hl 0 rfl) ?_
  refine va_get (D := (dC, dI)) (ci := 10) (v := .ref (a0 2)) (C := RX12) (T := TX12) (N := 17) hx hb hts in_X12 hown hK hP 0 rfl rfl 6 (by decide) lk0 (fun _ h9 => h9) rfl dX12_eases_1 ?_
  refine va_get (D := (dC, dI)) (ci := 7) (v := .ref (a0 3)) (C := RX9) (T := TX9) (N := 9) hx hb hts in_X9 hown hK hP 1 rfl rfl 2 (by decide) lk1 (fun _ h9 => h9) rfl dX12_eases_4 ?_
  refine lv_iload_n hx hb dX12_eases_7 rfl (lv_at hl 2 rfl) ?_
  obtain ⟨v1, hv2, h⟩ := ok_bind h
  refine cl_vi (w2 := fun (_ : Unit) => w_X12_eases cy a0 gg gvn gdn gne) (As := [.int x2]) (rest := []) ⟨hx, hb, hml, hown, hts⟩ (c_X4_lenderOf l dC dI cy (fun k => a0 (k + 3)) gdn x2 H.size v1 hv2) (cwV 1 hts gX12_eases_X4_lenderOf rfl rfl rfl (by decide +kernel) ⟨Nat.le_of_ble_eq_true rfl, Nat.le_of_ble_eq_true rfl⟩) (va_recv hK hP (ci := 2) (q0 := 2) rfl rfl) cl_blind (cl_pre hK hP hD [2, 3, 4, 5, 6] (by decide) rfl) hP hD hS hA [2, 3, 4, 5, 6] rfl rfl hl.1 rfl (lv_room (Nat.le_of_ble_eq_true rfl)) dX12_eases_8 ⟨Nat.le_of_ble_eq_true rfl, Nat.le_of_ble_eq_true rfl⟩ ⟨rfl, rfl⟩ (fun _ => updR [2, 3, 4, 5, 6] rfl) (fun r u H locs hw hP hD hS => ?_)
  have hw := hw.symm
  subst hw
  have hP : va_P (dC, dI) vwCl (w_X12_eases cy a0 gg gvn gdn gne) H := hP
  have hD : va_D A (w_X12_eases cy a0 gg gvn gdn gne) := hD
  refine lv_istore (lv' := [(5, .int v1), (0, .ref (a0 0)), (1, .int x1), (2, .int x2), (3, .int x3), (4, .int x4)]) hx hb dX12_eases_11 hl (by decide) rfl (fun ls hl => ?_)
  refine lv_aload_n hx hb dX12_eases_13 rfl (lv_at hl 1 rfl) ?_
  refine va_get (D := (dC, dI)) (ci := 10) (v := .ref (a0 2)) (C := RX12) (T := TX12) (N := 17) hx hb hts in_X12 hown hK hP 0 rfl rfl 6 (by decide) lk0 (fun _ h9 => h9) rfl dX12_eases_14 ?_
  refine va_get (D := (dC, dI)) (ci := 7) (v := .ref (a0 3)) (C := RX9) (T := TX9) (N := 9) hx hb hts in_X9 hown hK hP 1 rfl rfl 2 (by decide) lk1 (fun _ h9 => h9) rfl dX12_eases_17 ?_
  refine lv_iload_n hx hb dX12_eases_20 rfl (lv_at hl 2 rfl) ?_
  obtain ⟨v3, hv4, h⟩ := ok_bind h
  refine cl_vi (w2 := fun (_ : Unit) => w_X12_eases cy a0 gg gvn gdn gne) (As := [.int x1]) (rest := []) ⟨hx, hb, hml, hown, hts⟩ (c_X4_debtorOf l dC dI cy (fun k => a0 (k + 3)) gdn x1 H.size v3 hv4) (cwV 1 hts gX12_eases_X4_debtorOf rfl rfl rfl (by decide +kernel) ⟨Nat.le_of_ble_eq_true rfl, Nat.le_of_ble_eq_true rfl⟩) (va_recv hK hP (ci := 2) (q0 := 2) rfl rfl) cl_blind (cl_pre hK hP hD [2, 3, 4, 5, 6] (by decide) rfl) hP hD hS hA [2, 3, 4, 5, 6] rfl rfl hl.1 rfl (lv_room (Nat.le_of_ble_eq_true rfl)) dX12_eases_21 ⟨Nat.le_of_ble_eq_true rfl, Nat.le_of_ble_eq_true rfl⟩ ⟨rfl, rfl⟩ (fun _ => updR [2, 3, 4, 5, 6] rfl) (fun r u H locs hw hP hD hS => ?_)
  have hw := hw.symm
  subst hw
  have hP : va_P (dC, dI) vwCl (w_X12_eases cy a0 gg gvn gdn gne) H := hP
  have hD : va_D A (w_X12_eases cy a0 gg gvn gdn gne) := hD
  refine lv_iload hx hb dX12_eases_24 (lv_at hl 0 rfl) ?_
  refine lv_icmp_eq (tgt := 63) hx hb dX12_eases_26 (by decide) (fun c5 => ?_) (fun c5 => ?_)
  · rw [if_pos c5] at h
    refine lv_iconst (v := (0 : Int32)) hx hb dX12_eases_63 (by decide) ?_
    exact W.zret (v := (0 : Int32)) (ty := .boolean) hx hb hr rfl (fun t ht hW => by rw [hqq]; have hh := Option.some.inj h; exact ⟨⟨(0 : Int32), (()), rfl, Option.some.inj h, by rw [ht]; exact hP, va_K.moved hW.alike hK⟩, hS.F ht⟩) hS.2.2 dX12_eases_64
  · rw [if_neg c5] at h
    refine lv_aload_n hx hb dX12_eases_29 rfl (lv_at hl 1 rfl) ?_
    refine va_get (D := (dC, dI)) (ci := 10) (v := .ref (a0 50)) (C := RX12) (T := TX12) (N := 17) hx hb hts in_X12 hown hK hP 0 rfl rfl 13 (by decide) lk2 (fun _ h9 => h9) rfl dX12_eases_30 ?_
    refine lv_iload hx hb dX12_eases_33 (lv_at hl 0 rfl) ?_
    refine lv_iload_n hx hb dX12_eases_35 rfl (lv_at hl 3 rfl) ?_
    refine lv_iload_n hx hb dX12_eases_36 rfl (lv_at hl 2 rfl) ?_
    refine lv_iload_n hx hb dX12_eases_37 rfl (lv_at hl 4 rfl) ?_
    refine lv_iload hx hb dX12_eases_38 (lv_at hl 5 rfl) ?_
    obtain ⟨v6, hv7, h⟩ := ok_bind h
    refine cl_vl (w2 := fun (_ : Unit) => w_X12_eases cy a0 gg gvn gdn gne) (As := [.int v1, .int x2, .int x1, .int x3, .int x4]) (rest := []) ⟨hx, hb, hml, hown, hts⟩ (c_X6_spanWith l dC dI cy (fun k => a0 (k + 50)) gne v1 x2 x1 x3 x4 H.size v6 hv7) (cwV 5 hts gX12_eases_X6_spanWith rfl rfl rfl (by decide +kernel) ⟨Nat.le_of_ble_eq_true rfl, Nat.le_of_ble_eq_true rfl⟩) (va_recv hK hP (ci := 4) (q0 := 7) rfl rfl) cl_blind (cl_pre hK hP hD [7, 8, 9, 10, 11, 12, 13, 14, 15, 16, 17, 18, 19, 20, 21, 22, 23, 24] (by decide) rfl) hP hD hS hA [7, 8, 9, 10, 11, 12, 13, 14, 15, 16, 17, 18, 19, 20, 21, 22, 23, 24] rfl rfl hl.1 rfl (lv_room (Nat.le_of_ble_eq_true rfl)) dX12_eases_40 ⟨Nat.le_of_ble_eq_true rfl, Nat.le_of_ble_eq_true rfl⟩ ⟨rfl, rfl⟩ (fun _ => updR [7, 8, 9, 10, 11, 12, 13, 14, 15, 16, 17, 18, 19, 20, 21, 22, 23, 24] rfl) (fun r u H locs hw hP hD hS => ?_)
    have hw := hw.symm
    subst hw
    have hP : va_P (dC, dI) vwCl (w_X12_eases cy a0 gg gvn gdn gne) H := hP
    have hD : va_D A (w_X12_eases cy a0 gg gvn gdn gne) := hD
    refine lv_aload_n hx hb dX12_eases_43 rfl (lv_at hl 1 rfl) ?_
    refine va_get (D := (dC, dI)) (ci := 10) (v := .ref (a0 50)) (C := RX12) (T := TX12) (N := 17) hx hb hts in_X12 hown hK hP 0 rfl rfl 13 (by decide) lk2 (fun _ h9 => h9) rfl dX12_eases_44 ?_
    refine lv_iload hx hb dX12_eases_47 (lv_at hl 0 rfl) ?_
    refine lv_iload_n hx hb dX12_eases_49 rfl (lv_at hl 4 rfl) ?_
    refine lv_iload hx hb dX12_eases_50 (lv_at hl 5 rfl) ?_
    obtain ⟨v8, hv9, h⟩ := ok_bind h
    refine cl_vl (w2 := fun (_ : Unit) => w_X12_eases cy a0 gg gvn gdn gne) (As := [.int v1, .int x3, .int x4]) (rest := [.long v6]) ⟨hx, hb, hml, hown, hts⟩ (c_X6_spanOf l dC dI cy (fun k => a0 (k + 50)) gne v1 x3 x4 H.size v8 hv9) (cwV 3 hts gX12_eases_X6_spanOf rfl rfl rfl (by decide +kernel) ⟨Nat.le_of_ble_eq_true rfl, Nat.le_of_ble_eq_true rfl⟩) (va_recv hK hP (ci := 4) (q0 := 7) rfl rfl) cl_blind (cl_pre hK hP hD [7, 8, 9, 10, 11, 12, 13, 14, 15, 16, 17, 18, 19, 20, 21, 22, 23, 24] (by decide) rfl) hP hD hS hA [7, 8, 9, 10, 11, 12, 13, 14, 15, 16, 17, 18, 19, 20, 21, 22, 23, 24] rfl rfl hl.1 rfl (lv_room (Nat.le_of_ble_eq_true rfl)) dX12_eases_52 ⟨Nat.le_of_ble_eq_true rfl, Nat.le_of_ble_eq_true rfl⟩ ⟨rfl, rfl⟩ (fun _ => updR [7, 8, 9, 10, 11, 12, 13, 14, 15, 16, 17, 18, 19, 20, 21, 22, 23, 24] rfl) (fun r u H locs hw hP hD hS => ?_)
    have hw := hw.symm
    subst hw
    have hP : va_P (dC, dI) vwCl (w_X12_eases cy a0 gg gvn gdn gne) H := hP
    have hD : va_D A (w_X12_eases cy a0 gg gvn gdn gne) := hD
    refine W.lcmp hx hb dX12_eases_55 ?_
    refine lv_if_ge (tgt := 63) hx hb dX12_eases_56 (by decide) (fun c10 => ?_) (fun c10 => ?_)
    · rw [if_pos c10] at h
      refine lv_iconst (v := (0 : Int32)) hx hb dX12_eases_63 (by decide) ?_
      exact W.zret (v := (0 : Int32)) (ty := .boolean) hx hb hr rfl (fun t ht hW => by rw [hqq]; have hh := Option.some.inj h; exact ⟨⟨(0 : Int32), (()), rfl, Option.some.inj h, by rw [ht]; exact hP, va_K.moved hW.alike hK⟩, hS.F ht⟩) hS.2.2 dX12_eases_64
    · rw [if_neg c10] at h
      refine lv_iconst (v := (1 : Int32)) hx hb dX12_eases_59 (by decide) ?_
      refine lv_goto (tgt := 64) hx hb dX12_eases_60 (by decide) ?_
      exact W.zret (v := (1 : Int32)) (ty := .boolean) hx hb hr rfl (fun t ht hW => by rw [hqq]; have hh := Option.some.inj h; exact ⟨⟨(1 : Int32), (()), rfl, Option.some.inj h, by rw [ht]; exact hP, va_K.moved hW.alike hK⟩, hS.F ht⟩) hS.2.2 dX12_eases_64

abbrev w_X12_isSaferRing (cy : Nat → ClassId) (a0 : Nat → Nat) (gg : Int32 × Int32 × Int32 × Int32 × Int32 × Int32) (gvn : Int32 × Int32 × (Nat → Int32) × (Nat → Int32) × (Nat → Int32) × (Nat → Int32) × (Nat → Int32)) (gdn : Int32 × Int32 × (Nat → Int32) × (Nat → Int32) × (Nat → Int32) × (Nat → Int32)) (gne : (Nat → Nat → Int32) × (Nat → Nat → Int64)) : va_W := [(a0 0, .inr (10, [.ref (a0 1), .int (gg.1), .int (gg.2.1), .int (gg.2.2.1), .int (gg.2.2.2.1), .int (gg.2.2.2.2.1), .ref (a0 2), .ref (a0 17), .ref (a0 32), .int (gg.2.2.2.2.2), .ref (a0 47), .ref (a0 48), .ref (a0 49), .ref (a0 50), .ref (a0 68), .ref (a0 78), .ref (a0 80)])), (a0 2, .inr (7, [.int (gvn.1), .int (gvn.2.1), .ref (a0 3), .ref (a0 8), .ref (a0 12), .ref (a0 13), .ref (a0 14), .ref (a0 15), .ref (a0 16)])), (a0 3, .inr (2, [.int (gdn.1), .int (gdn.2.1), .ref (a0 4), .ref (a0 5), .ref (a0 6), .ref (a0 7)])), (a0 4, .inl (cy 1, 10, .inl (gdn.2.2.1))), (a0 5, .inl (cy 1, 10, .inl (gdn.2.2.2.1))), (a0 6, .inl (cy 1, 10, .inl (gdn.2.2.2.2.1))), (a0 7, .inl (cy 1, 50, .inl (gdn.2.2.2.2.2))), (a0 50, .inr (4, [.ref (a0 51), .ref (a0 62)])), (a0 51, .inl (cy 3, 10, .inr (.inr (.inr (.inr (fun i => some ([a0 52, a0 53, a0 54, a0 55, a0 56, a0 57, a0 58, a0 59, a0 60, a0 61].getD i 0))))))), (a0 52, .inl (cy 1, 41, .inl (gne.1 0))), (a0 53, .inl (cy 1, 41, .inl (gne.1 1))), (a0 54, .inl (cy 1, 41, .inl (gne.1 2))), (a0 55, .inl (cy 1, 41, .inl (gne.1 3))), (a0 56, .inl (cy 1, 41, .inl (gne.1 4))), (a0 57, .inl (cy 1, 41, .inl (gne.1 5))), (a0 58, .inl (cy 1, 41, .inl (gne.1 6))), (a0 59, .inl (cy 1, 41, .inl (gne.1 7))), (a0 60, .inl (cy 1, 41, .inl (gne.1 8))), (a0 61, .inl (cy 1, 41, .inl (gne.1 9))), (a0 62, .inl (cy 4, 5, .inr (.inr (.inr (.inr (fun i => some ([a0 63, a0 64, a0 65, a0 66, a0 67].getD i 0))))))), (a0 63, .inl (cy 2, 41, .inr (.inl (gne.2 0)))), (a0 64, .inl (cy 2, 41, .inr (.inl (gne.2 1)))), (a0 65, .inl (cy 2, 41, .inr (.inl (gne.2 2)))), (a0 66, .inl (cy 2, 41, .inr (.inl (gne.2 3)))), (a0 67, .inl (cy 2, 41, .inr (.inl (gne.2 4))))]
abbrev rm_X12_isSaferRing : Room := { frames := 5, cells := 0, slots := 0, locals := 126 }
set_option maxHeartbeats 1000000 in
set_option maxRecDepth 100000 in
theorem c_X12_isSaferRing (l : Launch) (dC : Nat → ClassId) (dI : Nat → Nat → Nat) (cy : Nat → ClassId) (a0 : Nat → Nat) (gg : Int32 × Int32 × Int32 × Int32 × Int32 × Int32) (gvn : Int32 × Int32 × (Nat → Int32) × (Nat → Int32) × (Nat → Int32) × (Nat → Int32) × (Nat → Int32)) (gdn : Int32 × Int32 × (Nat → Int32) × (Nat → Int32) × (Nat → Int32) × (Nat → Int32)) (gne : (Nat → Nat → Int32) × (Nat → Nat → Int64)) (x1 : Int32) (x2 : Int32) (x3 : Int32) (x4 : Int32) (x5 : Int32) (sz : Nat) (R0 : Int32) (h : p_X12_isSaferRing gdn gne x1 x2 x3 x4 x5 = some R0) : Met l yX12_isSaferRing wsX12_isSaferRing rm_X12_isSaferRing (va_Pc [.ref (a0 0), .int x1, .int x2, .int x3, .int x4, .int x5] (prC dC dI cy (w_X12_isSaferRing cy a0 gg gvn gdn gne) sz)) (va_Qi (fun (r : Int32) (_ : Unit) => r = R0) (fun (_ : Unit) t => poC dC dI cy (w_X12_isSaferRing cy a0 gg gvn gdn gne) t) (va_A (w_X12_isSaferRing cy a0 gg gvn gdn gne) sz)) 0 0 (va_A (w_X12_isSaferRing cy a0 gg gvn gdn gne) sz) := by
  refine Met.ofW (cc := cX12_isSaferRing) (maxL := 6) (ret := (some .boolean)) (by decide) rfl ?_
  intro p e s m aa below meth c s₁ B hml hv
  obtain ⟨haa, hsz, hP, hK, hD0⟩ := hv
  have hx := B.exec
  have hb := B.bytes
  have hr := B.returns
  have hts := atoms_spec (ws := wsX12_isSaferRing) B.pre
  have hown : s.vm.findClass RX12 = some m.cls := findClass_of_methodNamed B.named
  have hlocks := B.notSynchronized
  subst hsz
  have hD := hD0.self (sz := s.heap.size)
  obtain ⟨qq, hqq⟩ : ∃ qq, qq = (va_Qi (fun (r : Int32) (_ : Unit) => r = R0) (fun (_ : Unit) t => poC dC dI cy (w_X12_isSaferRing cy a0 gg gvn gdn gne) t) (va_A (w_X12_isSaferRing cy a0 gg gvn gdn gne) s.heap.size)) := ⟨_, rfl⟩
  rw [← hqq]
  generalize hAe : va_A (w_X12_isSaferRing cy a0 gg gvn gdn gne) s.heap.size = A at hD hqq ⊢
  have hA : ∀ q : Nat, s.heap.size ≤ q → A q := fun q h => by rw [← hAe]; exact Or.inr h
  have hS : va_S A s.heap s.heap [] := va_S.rf
  have hl := lv_entry ([.ref (a0 0), .int x1, .int x2, .int x3, .int x4, .int x5]) (n := 6) (Nat.le_of_ble_eq_true rfl)
  have hE : entryFrame m aa 6 = F0 m 0 ((lg_sl ([.ref (a0 0), .int x1, .int x2, .int x3, .int x4, .int x5]) ++ List.replicate (6 - (lg_sl ([.ref (a0 0), .int x1, .int x2, .int x3, .int x4, .int x5])).length) Slot.unset).toArray) [] := by rw [haa]; exact lg_entry_eq m _ 6
  refine W.eq hE ?_
  generalize (lg_sl ([.ref (a0 0), .int x1, .int x2, .int x3, .int x4, .int x5]) ++ List.replicate (6 - (lg_sl ([.ref (a0 0), .int x1, .int x2, .int x3, .int x4, .int x5])).length) Slot.unset).toArray = ls at hl ⊢
  have hl : lv_has ls 6 [(0, .ref (a0 0)), (1, .int x1), (2, .int x2), (3, .int x3), (4, .int x4), (5, .int x5)] := hl
  change W p l e rm_X12_isSaferRing s m aa below meth c s.heap [] 0 0 (MQ below qq aa s 0 0 A) (F0 m 0 ls [])
  have hS0 := hS
  obtain ⟨H, hH⟩ : ∃ H : Heap, H = s.heap := ⟨_, rfl⟩
  obtain ⟨locs, hlocs⟩ : ∃ locs : List Loc, locs = [] := ⟨_, rfl⟩
  have hS : va_S A s.heap H locs := by rw [hH, hlocs]; exact hS
  rw [← hH] at hP
  suffices hg : W p l e rm_X12_isSaferRing s m aa below meth c H locs 0 0 (MQ below qq aa s 0 0 A) (F0 m 0 ls []) by subst hH; subst hlocs; exact hg
  unfold p_X12_isSaferRing at h
  refine lv_aload_n hx hb dX12_isSaferRing_0 rfl (lv_at hl 0 rfl) ?_
  refine lv_iload_n hx hb dX12_isSaferRing_1 rfl (lv_at hl 1 rfl) ?_
  refine lv_iload_n hx hb dX12_isSaferRing_2 rfl (lv_at hl 2 rfl) ?_
  obtain ⟨v1, hv2, h⟩ := ok_bind h
  refine cl_vi (w2 := fun (_ : Unit) => w_X12_isSaferRing cy a0 gg gvn gdn gne) (As := [.int x1, .int x2]) (rest := []) ⟨hx, hb, hml, hown, hts⟩ (c_X12_areOwedApart l dC dI cy a0 gg gvn gdn x1 x2 H.size v1 hv2) (cwV 2 hts gX12_isSaferRing_X12_areOwedApart rfl rfl rfl (by decide +kernel) ⟨Nat.le_of_ble_eq_true rfl, Nat.le_of_ble_eq_true rfl⟩) (va_recv hK hP (ci := 10) (q0 := 0) rfl rfl) cl_blind (cl_pre hK hP hD [0, 1, 2, 3, 4, 5, 6] (by decide) rfl) hP hD hS hA [0, 1, 2, 3, 4, 5, 6] rfl rfl hl.1 rfl (lv_room (Nat.le_of_ble_eq_true rfl)) dX12_isSaferRing_3 ⟨Nat.le_of_ble_eq_true rfl, Nat.le_of_ble_eq_true rfl⟩ ⟨rfl, rfl⟩ (fun _ => updR [0, 1, 2, 3, 4, 5, 6] rfl) (fun r u H locs hw hP hD hS => ?_)
  have hw := hw.symm
  subst hw
  have hP : va_P (dC, dI) vwCl (w_X12_isSaferRing cy a0 gg gvn gdn gne) H := hP
  have hD : va_D A (w_X12_isSaferRing cy a0 gg gvn gdn gne) := hD
  refine lv_if_eq (tgt := 70) hx hb dX12_isSaferRing_6 (by decide) (fun c3 => ?_) (fun c3 => ?_)
  · rw [if_pos c3] at h
    refine lv_iconst (v := (0 : Int32)) hx hb dX12_isSaferRing_70 (by decide) ?_
    exact W.zret (v := (0 : Int32)) (ty := .boolean) hx hb hr rfl (fun t ht hW => by rw [hqq]; have hh := Option.some.inj h; exact ⟨⟨(0 : Int32), (()), rfl, Option.some.inj h, by rw [ht]; exact hP, va_K.moved hW.alike hK⟩, hS.F ht⟩) hS.2.2 dX12_isSaferRing_71
  · rw [if_neg c3] at h
    refine lv_aload_n hx hb dX12_isSaferRing_9 rfl (lv_at hl 0 rfl) ?_
    refine lv_iload_n hx hb dX12_isSaferRing_10 rfl (lv_at hl 2 rfl) ?_
    refine lv_iload_n hx hb dX12_isSaferRing_11 rfl (lv_at hl 3 rfl) ?_
    obtain ⟨v4, hv5, h⟩ := ok_bind h
    refine cl_vi (w2 := fun (_ : Unit) => w_X12_isSaferRing cy a0 gg gvn gdn gne) (As := [.int x2, .int x3]) (rest := []) ⟨hx, hb, hml, hown, hts⟩ (c_X12_areOwedApart l dC dI cy a0 gg gvn gdn x2 x3 H.size v4 hv5) (cwV 2 hts gX12_isSaferRing_X12_areOwedApart rfl rfl rfl (by decide +kernel) ⟨Nat.le_of_ble_eq_true rfl, Nat.le_of_ble_eq_true rfl⟩) (va_recv hK hP (ci := 10) (q0 := 0) rfl rfl) cl_blind (cl_pre hK hP hD [0, 1, 2, 3, 4, 5, 6] (by decide) rfl) hP hD hS hA [0, 1, 2, 3, 4, 5, 6] rfl rfl hl.1 rfl (lv_room (Nat.le_of_ble_eq_true rfl)) dX12_isSaferRing_12 ⟨Nat.le_of_ble_eq_true rfl, Nat.le_of_ble_eq_true rfl⟩ ⟨rfl, rfl⟩ (fun _ => updR [0, 1, 2, 3, 4, 5, 6] rfl) (fun r u H locs hw hP hD hS => ?_)
    have hw := hw.symm
    subst hw
    have hP : va_P (dC, dI) vwCl (w_X12_isSaferRing cy a0 gg gvn gdn gne) H := hP
    have hD : va_D A (w_X12_isSaferRing cy a0 gg gvn gdn gne) := hD
    refine lv_if_eq (tgt := 70) hx hb dX12_isSaferRing_15 (by decide) (fun c6 => ?_) (fun c6 => ?_)
    · rw [if_pos c6] at h
      refine lv_iconst (v := (0 : Int32)) hx hb dX12_isSaferRing_70 (by decide) ?_
      exact W.zret (v := (0 : Int32)) (ty := .boolean) hx hb hr rfl (fun t ht hW => by rw [hqq]; have hh := Option.some.inj h; exact ⟨⟨(0 : Int32), (()), rfl, Option.some.inj h, by rw [ht]; exact hP, va_K.moved hW.alike hK⟩, hS.F ht⟩) hS.2.2 dX12_isSaferRing_71
    · rw [if_neg c6] at h
      refine lv_aload_n hx hb dX12_isSaferRing_18 rfl (lv_at hl 0 rfl) ?_
      refine lv_iload_n hx hb dX12_isSaferRing_19 rfl (lv_at hl 3 rfl) ?_
      refine lv_iload_n hx hb dX12_isSaferRing_20 rfl (lv_at hl 1 rfl) ?_
      obtain ⟨v7, hv8, h⟩ := ok_bind h
      refine cl_vi (w2 := fun (_ : Unit) => w_X12_isSaferRing cy a0 gg gvn gdn gne) (As := [.int x3, .int x1]) (rest := []) ⟨hx, hb, hml, hown, hts⟩ (c_X12_areOwedApart l dC dI cy a0 gg gvn gdn x3 x1 H.size v7 hv8) (cwV 2 hts gX12_isSaferRing_X12_areOwedApart rfl rfl rfl (by decide +kernel) ⟨Nat.le_of_ble_eq_true rfl, Nat.le_of_ble_eq_true rfl⟩) (va_recv hK hP (ci := 10) (q0 := 0) rfl rfl) cl_blind (cl_pre hK hP hD [0, 1, 2, 3, 4, 5, 6] (by decide) rfl) hP hD hS hA [0, 1, 2, 3, 4, 5, 6] rfl rfl hl.1 rfl (lv_room (Nat.le_of_ble_eq_true rfl)) dX12_isSaferRing_21 ⟨Nat.le_of_ble_eq_true rfl, Nat.le_of_ble_eq_true rfl⟩ ⟨rfl, rfl⟩ (fun _ => updR [0, 1, 2, 3, 4, 5, 6] rfl) (fun r u H locs hw hP hD hS => ?_)
      have hw := hw.symm
      subst hw
      have hP : va_P (dC, dI) vwCl (w_X12_isSaferRing cy a0 gg gvn gdn gne) H := hP
      have hD : va_D A (w_X12_isSaferRing cy a0 gg gvn gdn gne) := hD
      refine lv_if_eq (tgt := 70) hx hb dX12_isSaferRing_24 (by decide) (fun c9 => ?_) (fun c9 => ?_)
      · rw [if_pos c9] at h
        refine lv_iconst (v := (0 : Int32)) hx hb dX12_isSaferRing_70 (by decide) ?_
        exact W.zret (v := (0 : Int32)) (ty := .boolean) hx hb hr rfl (fun t ht hW => by rw [hqq]; have hh := Option.some.inj h; exact ⟨⟨(0 : Int32), (()), rfl, Option.some.inj h, by rw [ht]; exact hP, va_K.moved hW.alike hK⟩, hS.F ht⟩) hS.2.2 dX12_isSaferRing_71
      · rw [if_neg c9] at h
        refine lv_aload_n hx hb dX12_isSaferRing_27 rfl (lv_at hl 0 rfl) ?_
        refine lv_iload_n hx hb dX12_isSaferRing_28 rfl (lv_at hl 1 rfl) ?_
        refine lv_iload_n hx hb dX12_isSaferRing_29 rfl (lv_at hl 2 rfl) ?_
        refine lv_iload hx hb dX12_isSaferRing_30 (lv_at hl 4 rfl) ?_
        refine lv_iload hx hb dX12_isSaferRing_32 (lv_at hl 5 rfl) ?_
        obtain ⟨v10, hv11, h⟩ := ok_bind h
        refine cl_vi (w2 := fun (_ : Unit) => w_X12_isSaferRing cy a0 gg gvn gdn gne) (As := [.int x1, .int x2, .int x4, .int x5]) (rest := []) ⟨hx, hb, hml, hown, hts⟩ (c_X12_eases l dC dI cy a0 gg gvn gdn gne x1 x2 x4 x5 H.size v10 hv11) (cwV 4 hts gX12_isSaferRing_X12_eases rfl rfl rfl (by decide +kernel) ⟨Nat.le_of_ble_eq_true rfl, Nat.le_of_ble_eq_true rfl⟩) (va_recv hK hP (ci := 10) (q0 := 0) rfl rfl) cl_blind (cl_pre hK hP hD [0, 1, 2, 3, 4, 5, 6, 7, 8, 9, 10, 11, 12, 13, 14, 15, 16, 17, 18, 19, 20, 21, 22, 23, 24] (by decide) rfl) hP hD hS hA [0, 1, 2, 3, 4, 5, 6, 7, 8, 9, 10, 11, 12, 13, 14, 15, 16, 17, 18, 19, 20, 21, 22, 23, 24] rfl rfl hl.1 rfl (lv_room (Nat.le_of_ble_eq_true rfl)) dX12_isSaferRing_34 ⟨Nat.le_of_ble_eq_true rfl, Nat.le_of_ble_eq_true rfl⟩ ⟨rfl, rfl⟩ (fun _ => updR [0, 1, 2, 3, 4, 5, 6, 7, 8, 9, 10, 11, 12, 13, 14, 15, 16, 17, 18, 19, 20, 21, 22, 23, 24] rfl) (fun r u H locs hw hP hD hS => ?_)
        have hw := hw.symm
        subst hw
        have hP : va_P (dC, dI) vwCl (w_X12_isSaferRing cy a0 gg gvn gdn gne) H := hP
        have hD : va_D A (w_X12_isSaferRing cy a0 gg gvn gdn gne) := hD
        refine lv_if_eq (tgt := 70) hx hb dX12_isSaferRing_37 (by decide) (fun c12 => ?_) (fun c12 => ?_)
        · rw [if_pos c12] at h
          refine lv_iconst (v := (0 : Int32)) hx hb dX12_isSaferRing_70 (by decide) ?_
          exact W.zret (v := (0 : Int32)) (ty := .boolean) hx hb hr rfl (fun t ht hW => by rw [hqq]; have hh := Option.some.inj h; exact ⟨⟨(0 : Int32), (()), rfl, Option.some.inj h, by rw [ht]; exact hP, va_K.moved hW.alike hK⟩, hS.F ht⟩) hS.2.2 dX12_isSaferRing_71
        · rw [if_neg c12] at h
          refine lv_aload_n hx hb dX12_isSaferRing_40 rfl (lv_at hl 0 rfl) ?_
          refine lv_iload_n hx hb dX12_isSaferRing_41 rfl (lv_at hl 2 rfl) ?_
          refine lv_iload_n hx hb dX12_isSaferRing_42 rfl (lv_at hl 3 rfl) ?_
          refine lv_iload hx hb dX12_isSaferRing_43 (lv_at hl 4 rfl) ?_
          refine lv_iload hx hb dX12_isSaferRing_45 (lv_at hl 5 rfl) ?_
          obtain ⟨v13, hv14, h⟩ := ok_bind h
          refine cl_vi (w2 := fun (_ : Unit) => w_X12_isSaferRing cy a0 gg gvn gdn gne) (As := [.int x2, .int x3, .int x4, .int x5]) (rest := []) ⟨hx, hb, hml, hown, hts⟩ (c_X12_eases l dC dI cy a0 gg gvn gdn gne x2 x3 x4 x5 H.size v13 hv14) (cwV 4 hts gX12_isSaferRing_X12_eases rfl rfl rfl (by decide +kernel) ⟨Nat.le_of_ble_eq_true rfl, Nat.le_of_ble_eq_true rfl⟩) (va_recv hK hP (ci := 10) (q0 := 0) rfl rfl) cl_blind (cl_pre hK hP hD [0, 1, 2, 3, 4, 5, 6, 7, 8, 9, 10, 11, 12, 13, 14, 15, 16, 17, 18, 19, 20, 21, 22, 23, 24] (by decide) rfl) hP hD hS hA [0, 1, 2, 3, 4, 5, 6, 7, 8, 9, 10, 11, 12, 13, 14, 15, 16, 17, 18, 19, 20, 21, 22, 23, 24] rfl rfl hl.1 rfl (lv_room (Nat.le_of_ble_eq_true rfl)) dX12_isSaferRing_47 ⟨Nat.le_of_ble_eq_true rfl, Nat.le_of_ble_eq_true rfl⟩ ⟨rfl, rfl⟩ (fun _ => updR [0, 1, 2, 3, 4, 5, 6, 7, 8, 9, 10, 11, 12, 13, 14, 15, 16, 17, 18, 19, 20, 21, 22, 23, 24] rfl) (fun r u H locs hw hP hD hS => ?_)
          have hw := hw.symm
          subst hw
          have hP : va_P (dC, dI) vwCl (w_X12_isSaferRing cy a0 gg gvn gdn gne) H := hP
          have hD : va_D A (w_X12_isSaferRing cy a0 gg gvn gdn gne) := hD
          refine lv_if_eq (tgt := 70) hx hb dX12_isSaferRing_50 (by decide) (fun c15 => ?_) (fun c15 => ?_)
          · rw [if_pos c15] at h
            refine lv_iconst (v := (0 : Int32)) hx hb dX12_isSaferRing_70 (by decide) ?_
            exact W.zret (v := (0 : Int32)) (ty := .boolean) hx hb hr rfl (fun t ht hW => by rw [hqq]; have hh := Option.some.inj h; exact ⟨⟨(0 : Int32), (()), rfl, Option.some.inj h, by rw [ht]; exact hP, va_K.moved hW.alike hK⟩, hS.F ht⟩) hS.2.2 dX12_isSaferRing_71
          · rw [if_neg c15] at h
            refine lv_aload_n hx hb dX12_isSaferRing_53 rfl (lv_at hl 0 rfl) ?_
            refine lv_iload_n hx hb dX12_isSaferRing_54 rfl (lv_at hl 3 rfl) ?_
            refine lv_iload_n hx hb dX12_isSaferRing_55 rfl (lv_at hl 1 rfl) ?_
            refine lv_iload hx hb dX12_isSaferRing_56 (lv_at hl 4 rfl) ?_
            refine lv_iload hx hb dX12_isSaferRing_58 (lv_at hl 5 rfl) ?_
            obtain ⟨v16, hv17, h⟩ := ok_bind h
            refine cl_vi (w2 := fun (_ : Unit) => w_X12_isSaferRing cy a0 gg gvn gdn gne) (As := [.int x3, .int x1, .int x4, .int x5]) (rest := []) ⟨hx, hb, hml, hown, hts⟩ (c_X12_eases l dC dI cy a0 gg gvn gdn gne x3 x1 x4 x5 H.size v16 hv17) (cwV 4 hts gX12_isSaferRing_X12_eases rfl rfl rfl (by decide +kernel) ⟨Nat.le_of_ble_eq_true rfl, Nat.le_of_ble_eq_true rfl⟩) (va_recv hK hP (ci := 10) (q0 := 0) rfl rfl) cl_blind (cl_pre hK hP hD [0, 1, 2, 3, 4, 5, 6, 7, 8, 9, 10, 11, 12, 13, 14, 15, 16, 17, 18, 19, 20, 21, 22, 23, 24] (by decide) rfl) hP hD hS hA [0, 1, 2, 3, 4, 5, 6, 7, 8, 9, 10, 11, 12, 13, 14, 15, 16, 17, 18, 19, 20, 21, 22, 23, 24] rfl rfl hl.1 rfl (lv_room (Nat.le_of_ble_eq_true rfl)) dX12_isSaferRing_60 ⟨Nat.le_of_ble_eq_true rfl, Nat.le_of_ble_eq_true rfl⟩ ⟨rfl, rfl⟩ (fun _ => updR [0, 1, 2, 3, 4, 5, 6, 7, 8, 9, 10, 11, 12, 13, 14, 15, 16, 17, 18, 19, 20, 21, 22, 23, 24] rfl) (fun r u H locs hw hP hD hS => ?_)
            have hw := hw.symm
            subst hw
            have hP : va_P (dC, dI) vwCl (w_X12_isSaferRing cy a0 gg gvn gdn gne) H := hP
            have hD : va_D A (w_X12_isSaferRing cy a0 gg gvn gdn gne) := hD
            refine lv_if_eq (tgt := 70) hx hb dX12_isSaferRing_63 (by decide) (fun c18 => ?_) (fun c18 => ?_)
            · rw [if_pos c18] at h
              refine lv_iconst (v := (0 : Int32)) hx hb dX12_isSaferRing_70 (by decide) ?_
              exact W.zret (v := (0 : Int32)) (ty := .boolean) hx hb hr rfl (fun t ht hW => by rw [hqq]; have hh := Option.some.inj h; exact ⟨⟨(0 : Int32), (()), rfl, Option.some.inj h, by rw [ht]; exact hP, va_K.moved hW.alike hK⟩, hS.F ht⟩) hS.2.2 dX12_isSaferRing_71
            · rw [if_neg c18] at h
              refine lv_iconst (v := (1 : Int32)) hx hb dX12_isSaferRing_66 (by decide) ?_
              refine lv_goto (tgt := 71) hx hb dX12_isSaferRing_67 (by decide) ?_
              exact W.zret (v := (1 : Int32)) (ty := .boolean) hx hb hr rfl (fun t ht hW => by rw [hqq]; have hh := Option.some.inj h; exact ⟨⟨(1 : Int32), (()), rfl, Option.some.inj h, by rw [ht]; exact hP, va_K.moved hW.alike hK⟩, hS.F ht⟩) hS.2.2 dX12_isSaferRing_71

abbrev w_X12_saferRings (cy : Nat → ClassId) (a0 : Nat → Nat) (gg : Int32 × Int32 × Int32 × Int32 × Int32 × Int32) (gvn : Int32 × Int32 × (Nat → Int32) × (Nat → Int32) × (Nat → Int32) × (Nat → Int32) × (Nat → Int32)) (gdn : Int32 × Int32 × (Nat → Int32) × (Nat → Int32) × (Nat → Int32) × (Nat → Int32)) (gne : (Nat → Nat → Int32) × (Nat → Nat → Int64)) : va_W := [(a0 0, .inr (10, [.ref (a0 1), .int (gg.1), .int (gg.2.1), .int (gg.2.2.1), .int (gg.2.2.2.1), .int (gg.2.2.2.2.1), .ref (a0 2), .ref (a0 17), .ref (a0 32), .int (gg.2.2.2.2.2), .ref (a0 47), .ref (a0 48), .ref (a0 49), .ref (a0 50), .ref (a0 68), .ref (a0 78), .ref (a0 80)])), (a0 2, .inr (7, [.int (gvn.1), .int (gvn.2.1), .ref (a0 3), .ref (a0 8), .ref (a0 12), .ref (a0 13), .ref (a0 14), .ref (a0 15), .ref (a0 16)])), (a0 3, .inr (2, [.int (gdn.1), .int (gdn.2.1), .ref (a0 4), .ref (a0 5), .ref (a0 6), .ref (a0 7)])), (a0 4, .inl (cy 1, 10, .inl (gdn.2.2.1))), (a0 5, .inl (cy 1, 10, .inl (gdn.2.2.2.1))), (a0 6, .inl (cy 1, 10, .inl (gdn.2.2.2.2.1))), (a0 7, .inl (cy 1, 50, .inl (gdn.2.2.2.2.2))), (a0 50, .inr (4, [.ref (a0 51), .ref (a0 62)])), (a0 51, .inl (cy 3, 10, .inr (.inr (.inr (.inr (fun i => some ([a0 52, a0 53, a0 54, a0 55, a0 56, a0 57, a0 58, a0 59, a0 60, a0 61].getD i 0))))))), (a0 52, .inl (cy 1, 41, .inl (gne.1 0))), (a0 53, .inl (cy 1, 41, .inl (gne.1 1))), (a0 54, .inl (cy 1, 41, .inl (gne.1 2))), (a0 55, .inl (cy 1, 41, .inl (gne.1 3))), (a0 56, .inl (cy 1, 41, .inl (gne.1 4))), (a0 57, .inl (cy 1, 41, .inl (gne.1 5))), (a0 58, .inl (cy 1, 41, .inl (gne.1 6))), (a0 59, .inl (cy 1, 41, .inl (gne.1 7))), (a0 60, .inl (cy 1, 41, .inl (gne.1 8))), (a0 61, .inl (cy 1, 41, .inl (gne.1 9))), (a0 62, .inl (cy 4, 5, .inr (.inr (.inr (.inr (fun i => some ([a0 63, a0 64, a0 65, a0 66, a0 67].getD i 0))))))), (a0 63, .inl (cy 2, 41, .inr (.inl (gne.2 0)))), (a0 64, .inl (cy 2, 41, .inr (.inl (gne.2 1)))), (a0 65, .inl (cy 2, 41, .inr (.inl (gne.2 2)))), (a0 66, .inl (cy 2, 41, .inr (.inl (gne.2 3)))), (a0 67, .inl (cy 2, 41, .inr (.inl (gne.2 4))))]
abbrev rm_X12_saferRings : Room := { frames := 6, cells := 0, slots := 0, locals := 151 }
set_option maxHeartbeats 1000000 in
set_option maxRecDepth 100000 in
theorem c_X12_saferRings (l : Launch) (dC : Nat → ClassId) (dI : Nat → Nat → Nat) (cy : Nat → ClassId) (a0 : Nat → Nat) (gg : Int32 × Int32 × Int32 × Int32 × Int32 × Int32) (gvn : Int32 × Int32 × (Nat → Int32) × (Nat → Int32) × (Nat → Int32) × (Nat → Int32) × (Nat → Int32)) (gdn : Int32 × Int32 × (Nat → Int32) × (Nat → Int32) × (Nat → Int32) × (Nat → Int32)) (gne : (Nat → Nat → Int32) × (Nat → Nat → Int64)) (x1 : Int32) (x2 : Int32) (x3 : Int32) (sz : Nat) (R0 : Int32) (h : p_X12_saferRings gdn gne x1 x2 x3 = some R0) : Met l yX12_saferRings wsX12_saferRings rm_X12_saferRings (va_Pc [.ref (a0 0), .int x1, .int x2, .int x3] (prC dC dI cy (w_X12_saferRings cy a0 gg gvn gdn gne) sz)) (va_Qi (fun (r : Int32) (_ : Unit) => r = R0) (fun (_ : Unit) t => poC dC dI cy (w_X12_saferRings cy a0 gg gvn gdn gne) t) (va_A (w_X12_saferRings cy a0 gg gvn gdn gne) sz)) 0 0 (va_A (w_X12_saferRings cy a0 gg gvn gdn gne) sz) := by
  refine Met.ofW (cc := cX12_saferRings) (maxL := 8) (ret := (some .int)) (by decide) rfl ?_
  intro p e s m aa below meth c s₁ B hml hv
  obtain ⟨haa, hsz, hP, hK, hD0⟩ := hv
  have hx := B.exec
  have hb := B.bytes
  have hr := B.returns
  have hts := atoms_spec (ws := wsX12_saferRings) B.pre
  have hown : s.vm.findClass RX12 = some m.cls := findClass_of_methodNamed B.named
  have hlocks := B.notSynchronized
  subst hsz
  have hD := hD0.self (sz := s.heap.size)
  obtain ⟨qq, hqq⟩ : ∃ qq, qq = (va_Qi (fun (r : Int32) (_ : Unit) => r = R0) (fun (_ : Unit) t => poC dC dI cy (w_X12_saferRings cy a0 gg gvn gdn gne) t) (va_A (w_X12_saferRings cy a0 gg gvn gdn gne) s.heap.size)) := ⟨_, rfl⟩
  rw [← hqq]
  generalize hAe : va_A (w_X12_saferRings cy a0 gg gvn gdn gne) s.heap.size = A at hD hqq ⊢
  have hA : ∀ q : Nat, s.heap.size ≤ q → A q := fun q h => by rw [← hAe]; exact Or.inr h
  have hS : va_S A s.heap s.heap [] := va_S.rf
  have hl := lv_entry ([.ref (a0 0), .int x1, .int x2, .int x3]) (n := 8) (Nat.le_of_ble_eq_true rfl)
  have hE : entryFrame m aa 8 = F0 m 0 ((lg_sl ([.ref (a0 0), .int x1, .int x2, .int x3]) ++ List.replicate (8 - (lg_sl ([.ref (a0 0), .int x1, .int x2, .int x3])).length) Slot.unset).toArray) [] := by rw [haa]; exact lg_entry_eq m _ 8
  refine W.eq hE ?_
  generalize (lg_sl ([.ref (a0 0), .int x1, .int x2, .int x3]) ++ List.replicate (8 - (lg_sl ([.ref (a0 0), .int x1, .int x2, .int x3])).length) Slot.unset).toArray = ls at hl ⊢
  have hl : lv_has ls 8 [(0, .ref (a0 0)), (1, .int x1), (2, .int x2), (3, .int x3)] := hl
  change W p l e rm_X12_saferRings s m aa below meth c s.heap [] 0 0 (MQ below qq aa s 0 0 A) (F0 m 0 ls [])
  have hS0 := hS
  have c77 : ∀ (k6 : Int32 → Int32 → Int32 → Int32 → Int32 → Option (Int32)) (hk6 : ∀ (x1 : Int32) (x2 : Int32) (x3 : Int32) (x4 : Int32) (x5 : Int32) (H : Heap) (locs : List Loc) (ls : Array Slot), k6 x1 x2 x3 x4 x5 = some R0 → va_P (dC, dI) vwCl (w_X12_saferRings cy a0 gg gvn gdn gne) H → va_D A (w_X12_saferRings cy a0 gg gvn gdn gne) → va_S A s.heap H locs → lv_has ls 8 [(0, .ref (a0 0)), (1, .int x1), (2, .int x2), (3, .int x3), (4, .int x4), (5, .int x5)] → W p l e rm_X12_saferRings s m aa below meth c H locs 0 0 (MQ below qq aa s 0 0 A) (F0 m 6 ls [])) (k19 : Int32 → Int32 → Int32 → Int32 → Int32 → Int32 → Option (Int32)) (hk19 : ∀ (x1 : Int32) (x2 : Int32) (x3 : Int32) (x4 : Int32) (x5 : Int32) (x6 : Int32) (H : Heap) (locs : List Loc) (ls : Array Slot), k19 x1 x2 x3 x4 x5 x6 = some R0 → va_P (dC, dI) vwCl (w_X12_saferRings cy a0 gg gvn gdn gne) H → va_D A (w_X12_saferRings cy a0 gg gvn gdn gne) → va_S A s.heap H locs → lv_has ls 8 [(0, .ref (a0 0)), (1, .int x1), (2, .int x2), (3, .int x3), (4, .int x4), (5, .int x5), (6, .int x6)] → W p l e rm_X12_saferRings s m aa below meth c H locs 0 0 (MQ below qq aa s 0 0 A) (F0 m 19 ls [])) (k32 : Int32 → Int32 → Int32 → Int32 → Int32 → Int32 → Int32 → Option (Int32)) (hk32 : ∀ (x1 : Int32) (x2 : Int32) (x3 : Int32) (x4 : Int32) (x5 : Int32) (x6 : Int32) (x7 : Int32) (H : Heap) (locs : List Loc) (ls : Array Slot), k32 x1 x2 x3 x4 x5 x6 x7 = some R0 → va_P (dC, dI) vwCl (w_X12_saferRings cy a0 gg gvn gdn gne) H → va_D A (w_X12_saferRings cy a0 gg gvn gdn gne) → va_S A s.heap H locs → lv_has ls 8 [(0, .ref (a0 0)), (1, .int x1), (2, .int x2), (3, .int x3), (4, .int x4), (5, .int x5), (6, .int x6), (7, .int x7)] → W p l e rm_X12_saferRings s m aa below meth c H locs 0 0 (MQ below qq aa s 0 0 A) (F0 m 32 ls [])), ∀ (x1 : Int32) (x2 : Int32) (x3 : Int32) (x4 : Int32) (x5 : Int32) (x6 : Int32) (x7 : Int32) (H : Heap) (locs : List Loc) (ls : Array Slot), p_X12_saferRings_77 k6 k19 k32 gdn gne x1 x2 x3 x4 x5 x6 x7 = some R0 → va_P (dC, dI) vwCl (w_X12_saferRings cy a0 gg gvn gdn gne) H → va_D A (w_X12_saferRings cy a0 gg gvn gdn gne) → va_S A s.heap H locs → lv_has ls 8 [(0, .ref (a0 0)), (1, .int x1), (2, .int x2), (3, .int x3), (4, .int x4), (5, .int x5), (6, .int x6), (7, .int x7)] → W p l e rm_X12_saferRings s m aa below meth c H locs 0 0 (MQ below qq aa s 0 0 A) (F0 m 77 ls []) := by
    intro k6 hk6 k19 hk19 k32 hk32 x1 x2 x3 x4 x5 x6 x7 H locs ls h hP hD hS hl
    unfold p_X12_saferRings_77 at h
    refine lv_iinc (v := (x7 + (1 : Int32))) (lv' := [(7, .int (x7 + (1 : Int32))), (0, .ref (a0 0)), (1, .int x1), (2, .int x2), (3, .int x3), (4, .int x4), (5, .int x5), (6, .int x6)]) hx hb dX12_saferRings_77 hl (k := 7) rfl rfl (by decide) rfl (fun ls hl => ?_)
    refine lv_goto (tgt := 32) hx hb dX12_saferRings_80 (by decide) ?_
    exact hk32 x1 x2 x3 x4 x5 x6 (x7 + (1 : Int32)) H locs ls h hP hD hS (lv_sub hl [1, 2, 3, 4, 5, 6, 7, 0] rfl)
  have c32 : ∀ (k6 : Int32 → Int32 → Int32 → Int32 → Int32 → Option (Int32)) (hk6 : ∀ (x1 : Int32) (x2 : Int32) (x3 : Int32) (x4 : Int32) (x5 : Int32) (H : Heap) (locs : List Loc) (ls : Array Slot), k6 x1 x2 x3 x4 x5 = some R0 → va_P (dC, dI) vwCl (w_X12_saferRings cy a0 gg gvn gdn gne) H → va_D A (w_X12_saferRings cy a0 gg gvn gdn gne) → va_S A s.heap H locs → lv_has ls 8 [(0, .ref (a0 0)), (1, .int x1), (2, .int x2), (3, .int x3), (4, .int x4), (5, .int x5)] → W p l e rm_X12_saferRings s m aa below meth c H locs 0 0 (MQ below qq aa s 0 0 A) (F0 m 6 ls [])) (k19 : Int32 → Int32 → Int32 → Int32 → Int32 → Int32 → Option (Int32)) (hk19 : ∀ (x1 : Int32) (x2 : Int32) (x3 : Int32) (x4 : Int32) (x5 : Int32) (x6 : Int32) (H : Heap) (locs : List Loc) (ls : Array Slot), k19 x1 x2 x3 x4 x5 x6 = some R0 → va_P (dC, dI) vwCl (w_X12_saferRings cy a0 gg gvn gdn gne) H → va_D A (w_X12_saferRings cy a0 gg gvn gdn gne) → va_S A s.heap H locs → lv_has ls 8 [(0, .ref (a0 0)), (1, .int x1), (2, .int x2), (3, .int x3), (4, .int x4), (5, .int x5), (6, .int x6)] → W p l e rm_X12_saferRings s m aa below meth c H locs 0 0 (MQ below qq aa s 0 0 A) (F0 m 19 ls [])) (n : Nat), ∀ (x1 : Int32) (x2 : Int32) (x3 : Int32) (x4 : Int32) (x5 : Int32) (x6 : Int32) (x7 : Int32) (H : Heap) (locs : List Loc) (ls : Array Slot), p_X12_saferRings_32 k6 k19 gdn gne n x1 x2 x3 x4 x5 x6 x7 = some R0 → va_P (dC, dI) vwCl (w_X12_saferRings cy a0 gg gvn gdn gne) H → va_D A (w_X12_saferRings cy a0 gg gvn gdn gne) → va_S A s.heap H locs → lv_has ls 8 [(0, .ref (a0 0)), (1, .int x1), (2, .int x2), (3, .int x3), (4, .int x4), (5, .int x5), (6, .int x6), (7, .int x7)] → W p l e rm_X12_saferRings s m aa below meth c H locs 0 0 (MQ below qq aa s 0 0 A) (F0 m 32 ls []) := by
    intro k6 hk6 k19 hk19 n
    induction n with
    | zero => intro x1 x2 x3 x4 x5 x6 x7 H locs ls h; exact no_some h
    | succ n ih =>
      intro x1 x2 x3 x4 x5 x6 x7 H locs ls h hP hD hS hl
      rw [p_X12_saferRings_32.eq_2] at h
      refine lv_iload hx hb dX12_saferRings_32 (lv_at hl 7 rfl) ?_
      refine lv_bipush (v := (10 : Int32)) hx hb dX12_saferRings_34 (by decide) ?_
      refine lv_icmp_ge (tgt := 83) hx hb dX12_saferRings_36 (by decide) (fun c1 => ?_) (fun c1 => ?_)
      · rw [if_pos c1] at h
        refine lv_iinc (v := (x6 + (1 : Int32))) (lv' := [(6, .int (x6 + (1 : Int32))), (0, .ref (a0 0)), (1, .int x1), (2, .int x2), (3, .int x3), (4, .int x4), (5, .int x5), (7, .int x7)]) hx hb dX12_saferRings_83 hl (k := 6) rfl rfl (by decide) rfl (fun ls hl => ?_)
        refine lv_goto (tgt := 19) hx hb dX12_saferRings_86 (by decide) ?_
        exact hk19 x1 x2 x3 x4 x5 (x6 + (1 : Int32)) H locs ls h hP hD hS (lv_sub hl [1, 2, 3, 4, 5, 6, 0] rfl)
      · rw [if_neg c1] at h
        refine lv_aload_n hx hb dX12_saferRings_39 rfl (lv_at hl 0 rfl) ?_
        refine lv_iload hx hb dX12_saferRings_40 (lv_at hl 5 rfl) ?_
        refine lv_iload hx hb dX12_saferRings_42 (lv_at hl 6 rfl) ?_
        refine lv_iload hx hb dX12_saferRings_44 (lv_at hl 7 rfl) ?_
        refine lv_iload_n hx hb dX12_saferRings_46 rfl (lv_at hl 1 rfl) ?_
        refine lv_iload_n hx hb dX12_saferRings_47 rfl (lv_at hl 2 rfl) ?_
        obtain ⟨v2, hv3, h⟩ := ok_bind h
        refine cl_vi (w2 := fun (_ : Unit) => w_X12_saferRings cy a0 gg gvn gdn gne) (As := [.int x5, .int x6, .int x7, .int x1, .int x2]) (rest := []) ⟨hx, hb, hml, hown, hts⟩ (c_X12_isSaferRing l dC dI cy a0 gg gvn gdn gne x5 x6 x7 x1 x2 H.size v2 hv3) (cwV 5 hts gX12_saferRings_X12_isSaferRing rfl rfl rfl (by decide +kernel) ⟨Nat.le_of_ble_eq_true rfl, Nat.le_of_ble_eq_true rfl⟩) (va_recv hK hP (ci := 10) (q0 := 0) rfl rfl) cl_blind (cl_pre hK hP hD [0, 1, 2, 3, 4, 5, 6, 7, 8, 9, 10, 11, 12, 13, 14, 15, 16, 17, 18, 19, 20, 21, 22, 23, 24] (by decide) rfl) hP hD hS hA [0, 1, 2, 3, 4, 5, 6, 7, 8, 9, 10, 11, 12, 13, 14, 15, 16, 17, 18, 19, 20, 21, 22, 23, 24] rfl rfl hl.1 rfl (lv_room (Nat.le_of_ble_eq_true rfl)) dX12_saferRings_48 ⟨Nat.le_of_ble_eq_true rfl, Nat.le_of_ble_eq_true rfl⟩ ⟨rfl, rfl⟩ (fun _ => updR [0, 1, 2, 3, 4, 5, 6, 7, 8, 9, 10, 11, 12, 13, 14, 15, 16, 17, 18, 19, 20, 21, 22, 23, 24] rfl) (fun r u H locs hw hP hD hS => ?_)
        have hw := hw.symm
        subst hw
        have hP : va_P (dC, dI) vwCl (w_X12_saferRings cy a0 gg gvn gdn gne) H := hP
        have hD : va_D A (w_X12_saferRings cy a0 gg gvn gdn gne) := hD
        refine lv_if_eq (tgt := 77) hx hb dX12_saferRings_51 (by decide) (fun c4 => ?_) (fun c4 => ?_)
        · rw [if_pos c4] at h
          exact c77 k6 hk6 k19 hk19 (p_X12_saferRings_32 k6 k19 gdn gne n) ih x1 x2 x3 x4 x5 x6 x7 H locs ls h hP hD hS (lv_sub hl [0, 1, 2, 3, 4, 5, 6, 7] rfl)
        · rw [if_neg c4] at h
          refine lv_iload_n hx hb dX12_saferRings_54 rfl (lv_at hl 3 rfl) ?_
          refine lv_if_ne (tgt := 74) hx hb dX12_saferRings_55 (by decide) (fun c5 => ?_) (fun c5 => ?_)
          · rw [if_neg c5] at h
            refine lv_iinc (v := (x4 + (1 : Int32))) (lv' := [(4, .int (x4 + (1 : Int32))), (0, .ref (a0 0)), (1, .int x1), (2, .int x2), (3, .int x3), (5, .int x5), (6, .int x6), (7, .int x7)]) hx hb dX12_saferRings_74 hl (k := 4) rfl rfl (by decide) rfl (fun ls hl => ?_)
            exact c77 k6 hk6 k19 hk19 (p_X12_saferRings_32 k6 k19 gdn gne n) ih x1 x2 x3 (x4 + (1 : Int32)) x5 x6 x7 H locs ls h hP hD hS (lv_sub hl [1, 2, 3, 4, 0, 5, 6, 7] rfl)
          · rw [if_pos c5] at h
            refine lv_sipush (v := (256 : Int32)) hx hb dX12_saferRings_58 (by decide) ?_
            refine lv_iload hx hb dX12_saferRings_61 (lv_at hl 5 rfl) ?_
            refine lv_imul hx hb dX12_saferRings_63 ?_
            refine lv_bipush (v := (16 : Int32)) hx hb dX12_saferRings_64 (by decide) ?_
            refine lv_iload hx hb dX12_saferRings_66 (lv_at hl 6 rfl) ?_
            refine lv_imul hx hb dX12_saferRings_68 ?_
            refine lv_iadd hx hb dX12_saferRings_69 ?_
            refine lv_iload hx hb dX12_saferRings_70 (lv_at hl 7 rfl) ?_
            refine lv_iadd hx hb dX12_saferRings_72 ?_
            exact W.iret (v := ((((256 : Int32) * x5) + ((16 : Int32) * x6)) + x7)) hx hb hr (fun t ht hW => by rw [hqq]; have hh := Option.some.inj h; exact ⟨⟨((((256 : Int32) * x5) + ((16 : Int32) * x6)) + x7), (()), rfl, Option.some.inj h, by rw [ht]; exact hP, va_K.moved hW.alike hK⟩, hS.F ht⟩) hS.2.2 dX12_saferRings_73
  have c19 : ∀ (k6 : Int32 → Int32 → Int32 → Int32 → Int32 → Option (Int32)) (hk6 : ∀ (x1 : Int32) (x2 : Int32) (x3 : Int32) (x4 : Int32) (x5 : Int32) (H : Heap) (locs : List Loc) (ls : Array Slot), k6 x1 x2 x3 x4 x5 = some R0 → va_P (dC, dI) vwCl (w_X12_saferRings cy a0 gg gvn gdn gne) H → va_D A (w_X12_saferRings cy a0 gg gvn gdn gne) → va_S A s.heap H locs → lv_has ls 8 [(0, .ref (a0 0)), (1, .int x1), (2, .int x2), (3, .int x3), (4, .int x4), (5, .int x5)] → W p l e rm_X12_saferRings s m aa below meth c H locs 0 0 (MQ below qq aa s 0 0 A) (F0 m 6 ls [])) (n : Nat), ∀ (x1 : Int32) (x2 : Int32) (x3 : Int32) (x4 : Int32) (x5 : Int32) (x6 : Int32) (H : Heap) (locs : List Loc) (ls : Array Slot), p_X12_saferRings_19 k6 gdn gne n x1 x2 x3 x4 x5 x6 = some R0 → va_P (dC, dI) vwCl (w_X12_saferRings cy a0 gg gvn gdn gne) H → va_D A (w_X12_saferRings cy a0 gg gvn gdn gne) → va_S A s.heap H locs → lv_has ls 8 [(0, .ref (a0 0)), (1, .int x1), (2, .int x2), (3, .int x3), (4, .int x4), (5, .int x5), (6, .int x6)] → W p l e rm_X12_saferRings s m aa below meth c H locs 0 0 (MQ below qq aa s 0 0 A) (F0 m 19 ls []) := by
    intro k6 hk6 n
    induction n with
    | zero => intro x1 x2 x3 x4 x5 x6 H locs ls h; exact no_some h
    | succ n ih =>
      intro x1 x2 x3 x4 x5 x6 H locs ls h hP hD hS hl
      rw [p_X12_saferRings_19.eq_2] at h
      refine lv_iload hx hb dX12_saferRings_19 (lv_at hl 6 rfl) ?_
      refine lv_bipush (v := (10 : Int32)) hx hb dX12_saferRings_21 (by decide) ?_
      refine lv_icmp_ge (tgt := 89) hx hb dX12_saferRings_23 (by decide) (fun c1 => ?_) (fun c1 => ?_)
      · rw [if_pos c1] at h
        refine lv_iinc (v := (x5 + (1 : Int32))) (lv' := [(5, .int (x5 + (1 : Int32))), (0, .ref (a0 0)), (1, .int x1), (2, .int x2), (3, .int x3), (4, .int x4), (6, .int x6)]) hx hb dX12_saferRings_89 hl (k := 5) rfl rfl (by decide) rfl (fun ls hl => ?_)
        refine lv_goto (tgt := 6) hx hb dX12_saferRings_92 (by decide) ?_
        exact hk6 x1 x2 x3 x4 (x5 + (1 : Int32)) H locs ls h hP hD hS (lv_sub hl [1, 2, 3, 4, 5, 0] rfl)
      · rw [if_neg c1] at h
        refine lv_iload hx hb dX12_saferRings_26 (lv_at hl 5 rfl) ?_
        refine lv_iconst (v := (1 : Int32)) hx hb dX12_saferRings_28 (by decide) ?_
        refine lv_iadd hx hb dX12_saferRings_29 ?_
        refine lv_istore (lv' := [(7, .int (x5 + (1 : Int32))), (0, .ref (a0 0)), (1, .int x1), (2, .int x2), (3, .int x3), (4, .int x4), (5, .int x5), (6, .int x6)]) hx hb dX12_saferRings_30 hl (by decide) rfl (fun ls hl => ?_)
        exact c32 k6 hk6 (p_X12_saferRings_19 k6 gdn gne n) ih fu x1 x2 x3 x4 x5 x6 (x5 + (1 : Int32)) H locs ls h hP hD hS (lv_sub hl [1, 2, 3, 4, 5, 6, 7, 0] rfl)
  have c6 : ∀ (n : Nat), ∀ (x1 : Int32) (x2 : Int32) (x3 : Int32) (x4 : Int32) (x5 : Int32) (H : Heap) (locs : List Loc) (ls : Array Slot), p_X12_saferRings_6 gdn gne n x1 x2 x3 x4 x5 = some R0 → va_P (dC, dI) vwCl (w_X12_saferRings cy a0 gg gvn gdn gne) H → va_D A (w_X12_saferRings cy a0 gg gvn gdn gne) → va_S A s.heap H locs → lv_has ls 8 [(0, .ref (a0 0)), (1, .int x1), (2, .int x2), (3, .int x3), (4, .int x4), (5, .int x5)] → W p l e rm_X12_saferRings s m aa below meth c H locs 0 0 (MQ below qq aa s 0 0 A) (F0 m 6 ls []) := by
    intro  n
    induction n with
    | zero => intro x1 x2 x3 x4 x5 H locs ls h; exact no_some h
    | succ n ih =>
      intro x1 x2 x3 x4 x5 H locs ls h hP hD hS hl
      rw [p_X12_saferRings_6.eq_2] at h
      refine lv_iload hx hb dX12_saferRings_6 (lv_at hl 5 rfl) ?_
      refine lv_bipush (v := (10 : Int32)) hx hb dX12_saferRings_8 (by decide) ?_
      refine lv_icmp_ge (tgt := 95) hx hb dX12_saferRings_10 (by decide) (fun c1 => ?_) (fun c1 => ?_)
      · rw [if_pos c1] at h
        refine lv_iload_n hx hb dX12_saferRings_95 rfl (lv_at hl 3 rfl) ?_
        refine lv_if_eq (tgt := 104) hx hb dX12_saferRings_96 (by decide) (fun c2 => ?_) (fun c2 => ?_)
        · rw [if_pos c2] at h
          refine lv_iconst (v := (-1 : Int32)) hx hb dX12_saferRings_104 (by decide) ?_
          exact W.iret (v := (-1 : Int32)) hx hb hr (fun t ht hW => by rw [hqq]; have hh := Option.some.inj h; exact ⟨⟨(-1 : Int32), (()), rfl, Option.some.inj h, by rw [ht]; exact hP, va_K.moved hW.alike hK⟩, hS.F ht⟩) hS.2.2 dX12_saferRings_105
        · rw [if_neg c2] at h
          refine lv_iload hx hb dX12_saferRings_99 (lv_at hl 4 rfl) ?_
          refine lv_goto (tgt := 105) hx hb dX12_saferRings_101 (by decide) ?_
          exact W.iret (v := x4) hx hb hr (fun t ht hW => by rw [hqq]; have hh := Option.some.inj h; exact ⟨⟨x4, (()), rfl, Option.some.inj h, by rw [ht]; exact hP, va_K.moved hW.alike hK⟩, hS.F ht⟩) hS.2.2 dX12_saferRings_105
      · rw [if_neg c1] at h
        refine lv_iload hx hb dX12_saferRings_13 (lv_at hl 5 rfl) ?_
        refine lv_iconst (v := (1 : Int32)) hx hb dX12_saferRings_15 (by decide) ?_
        refine lv_iadd hx hb dX12_saferRings_16 ?_
        refine lv_istore (lv' := [(6, .int (x5 + (1 : Int32))), (0, .ref (a0 0)), (1, .int x1), (2, .int x2), (3, .int x3), (4, .int x4), (5, .int x5)]) hx hb dX12_saferRings_17 hl (by decide) rfl (fun ls hl => ?_)
        exact c19 (p_X12_saferRings_6 gdn gne n) ih fu x1 x2 x3 x4 x5 (x5 + (1 : Int32)) H locs ls h hP hD hS (lv_sub hl [1, 2, 3, 4, 5, 6, 0] rfl)
  obtain ⟨H, hH⟩ : ∃ H : Heap, H = s.heap := ⟨_, rfl⟩
  obtain ⟨locs, hlocs⟩ : ∃ locs : List Loc, locs = [] := ⟨_, rfl⟩
  have hS : va_S A s.heap H locs := by rw [hH, hlocs]; exact hS
  rw [← hH] at hP
  suffices hg : W p l e rm_X12_saferRings s m aa below meth c H locs 0 0 (MQ below qq aa s 0 0 A) (F0 m 0 ls []) by subst hH; subst hlocs; exact hg
  unfold p_X12_saferRings at h
  refine lv_iconst (v := (0 : Int32)) hx hb dX12_saferRings_0 (by decide) ?_
  refine lv_istore (lv' := [(4, .int (0 : Int32)), (0, .ref (a0 0)), (1, .int x1), (2, .int x2), (3, .int x3)]) hx hb dX12_saferRings_1 hl (by decide) rfl (fun ls hl => ?_)
  refine lv_iconst (v := (0 : Int32)) hx hb dX12_saferRings_3 (by decide) ?_
  refine lv_istore (lv' := [(5, .int (0 : Int32)), (4, .int (0 : Int32)), (0, .ref (a0 0)), (1, .int x1), (2, .int x2), (3, .int x3)]) hx hb dX12_saferRings_4 hl (by decide) rfl (fun ls hl => ?_)
  exact c6 fu x1 x2 x3 (0 : Int32) (0 : Int32) H locs ls h hP hD hS (lv_sub hl [2, 3, 4, 5, 1, 0] rfl)
