abbrev w_X12_count (cy : Nat → ClassId) (a0 : Nat → Nat) (gg : Int32 × Int32 × Int32 × Int32 × Int32 × Int32) (gvn : Int32 × Int32 × (Nat → Int32) × (Nat → Int32) × (Nat → Int32) × (Nat → Int32) × (Nat → Int32)) (gdn : Int32 × Int32 × (Nat → Int32) × (Nat → Int32) × (Nat → Int32) × (Nat → Int32)) (gcn : Int32 × (Nat → Int32) × (Nat → Int32) × (Nat → Int32)) : va_W := [(a0 0, .inr (10, [.ref (a0 1), .int (gg.1), .int (gg.2.1), .int (gg.2.2.1), .int (gg.2.2.2.1), .int (gg.2.2.2.2.1), .ref (a0 2), .ref (a0 17), .ref (a0 32), .int (gg.2.2.2.2.2), .ref (a0 47), .ref (a0 48), .ref (a0 49), .ref (a0 50), .ref (a0 68), .ref (a0 78), .ref (a0 80)])), (a0 2, .inr (7, [.int (gvn.1), .int (gvn.2.1), .ref (a0 3), .ref (a0 8), .ref (a0 12), .ref (a0 13), .ref (a0 14), .ref (a0 15), .ref (a0 16)])), (a0 3, .inr (2, [.int (gdn.1), .int (gdn.2.1), .ref (a0 4), .ref (a0 5), .ref (a0 6), .ref (a0 7)])), (a0 4, .inl (cy 1, 10, .inl (gdn.2.2.1))), (a0 5, .inl (cy 1, 10, .inl (gdn.2.2.2.1))), (a0 6, .inl (cy 1, 10, .inl (gdn.2.2.2.2.1))), (a0 7, .inl (cy 1, 50, .inl (gdn.2.2.2.2.2))), (a0 8, .inr (6, [.int (gcn.1), .ref (a0 9), .ref (a0 10), .ref (a0 11)])), (a0 9, .inl (cy 1, 12, .inl (gcn.2.1))), (a0 10, .inl (cy 1, 12, .inl (gcn.2.2.1))), (a0 11, .inl (cy 1, 12, .inl (gcn.2.2.2))), (a0 12, .inl (cy 1, 5, .inl (gvn.2.2.1))), (a0 13, .inl (cy 1, 5, .inl (gvn.2.2.2.1))), (a0 14, .inl (cy 1, 5, .inl (gvn.2.2.2.2.1))), (a0 15, .inl (cy 1, 5, .inl (gvn.2.2.2.2.2.1))), (a0 16, .inl (cy 1, 5, .inl (gvn.2.2.2.2.2.2)))]
abbrev rm_X12_count : Room := { frames := 6, cells := 1, slots := 6, locals := 90 }
set_option maxHeartbeats 1000000 in
set_option maxRecDepth 100000 in
theorem c_X12_count (l : Launch) (dC : Nat → ClassId) (dI : Nat → Nat → Nat) (cy : Nat → ClassId) (z : Nat → Nat) (hl9 : l.stackTraces = false) (a0 : Nat → Nat) (gg : Int32 × Int32 × Int32 × Int32 × Int32 × Int32) (gvn : Int32 × Int32 × (Nat → Int32) × (Nat → Int32) × (Nat → Int32) × (Nat → Int32) × (Nat → Int32)) (gdn : Int32 × Int32 × (Nat → Int32) × (Nat → Int32) × (Nat → Int32) × (Nat → Int32)) (gcn : Int32 × (Nat → Int32) × (Nat → Int32) × (Nat → Int32)) (x1 : Int32) (sz : Nat) (R0 : (Int32 ⊕ Nat) × (Unit)) (h : p_X12_count gg gvn gdn gcn x1 = some R0) : vx_Met l yX12_count wsX12_count rm_X12_count (va_Pc [.ref (a0 0), .int x1] (prS dC dI cy z (w_X12_count cy a0 gg gvn gdn gcn) sz)) (va_Qi (fun (r : Int32) (u : Unit) => Sum.inl r = R0.1 ∧ u = R0.2) (fun (_ : Unit) t => poC dC dI cy (w_X12_count cy a0 gg gvn gdn gcn) t) (va_A (w_X12_count cy a0 gg gvn gdn gcn) sz)) (vx_X (fun (u : Unit) => u = R0.2) (fun E (_ : Unit) t => exE E R0.1 ∧ poC dC dI cy (w_X12_count cy a0 gg gvn gdn gcn) t) (va_A (w_X12_count cy a0 gg gvn gdn gcn) sz)) 1 6 (va_A (w_X12_count cy a0 gg gvn gdn gcn) sz) := by
  refine vx_ofW (cc := cX12_count) (maxL := 2) (ret := (some .int)) (by decide) rfl ?_
  intro p e s m aa below meth c s₁ B hml htab hv
  obtain ⟨haa, ⟨hsz, hP, hK, hD0⟩, hX⟩ := hv
  have hx := B.exec
  have hb := B.bytes
  have hr := B.returns
  have hts := atoms_spec (ws := wsX12_count) B.pre
  have hown : s.vm.findClass RX12 = some m.cls := findClass_of_methodNamed B.named
  have hlocks := B.notSynchronized
  subst hsz
  have hD := hD0.self (sz := s.heap.size)
  obtain ⟨qq, hqq⟩ : ∃ qq, qq = (va_Qi (fun (r : Int32) (u : Unit) => Sum.inl r = R0.1 ∧ u = R0.2) (fun (_ : Unit) t => poC dC dI cy (w_X12_count cy a0 gg gvn gdn gcn) t) (va_A (w_X12_count cy a0 gg gvn gdn gcn) s.heap.size)) := ⟨_, rfl⟩
  obtain ⟨xx, hxx⟩ : ∃ xx, xx = (vx_X (fun (u : Unit) => u = R0.2) (fun E (_ : Unit) t => exE E R0.1 ∧ poC dC dI cy (w_X12_count cy a0 gg gvn gdn gcn) t) (va_A (w_X12_count cy a0 gg gvn gdn gcn) s.heap.size)) := ⟨_, rfl⟩
  rw [← hqq, ← hxx]
  generalize hAe : va_A (w_X12_count cy a0 gg gvn gdn gcn) s.heap.size = A at hD hqq hxx hX ⊢
  have hA : ∀ q : Nat, s.heap.size ≤ q → A q := fun q h => by rw [← hAe]; exact Or.inr h
  have hS : va_S A s.heap s.heap [] := va_S.rf
  have hl := lv_entry ([.ref (a0 0), .int x1]) (n := 2) (Nat.le_of_ble_eq_true rfl)
  have hE : entryFrame m aa 2 = F0 m 0 ((lg_sl ([.ref (a0 0), .int x1]) ++ List.replicate (2 - (lg_sl ([.ref (a0 0), .int x1])).length) Slot.unset).toArray) [] := by rw [haa]; exact lg_entry_eq m _ 2
  refine W.eq hE ?_
  generalize (lg_sl ([.ref (a0 0), .int x1]) ++ List.replicate (2 - (lg_sl ([.ref (a0 0), .int x1])).length) Slot.unset).toArray = ls at hl ⊢
  have hl : lv_has ls 2 [(0, .ref (a0 0)), (1, .int x1)] := hl
  change W p l e rm_X12_count s m aa below meth c s.heap [] 0 0 (vx_MQ below qq xx aa s 1 6 A) (F0 m 0 ls [])
  have hS0 := hS
  have lk0 := hts (.fieldLink RX12 20 "GoatDoors" "now" "LGoatDoors$Village;") (by decide +kernel)
  have lk1 := hts (.fieldLink RX12 114 "GoatDoors$Village" "owners" "I") (by decide +kernel)
  have lk2 := hts (.fieldLink RX12 130 "GoatDoors$Village" "doors" "LGoatDoors$Doors;") (by decide +kernel)
  have lk3 := hts (.fieldLink RX12 134 "GoatDoors$Doors" "bits" "I") (by decide +kernel)
  have lk4 := hts (.fieldLink RX12 139 "GoatDoors$Doors" "law" "I") (by decide +kernel)
  have lk5 := hts (.fieldLink RX12 142 "GoatDoors$Village" "base" "I") (by decide +kernel)
  have lk6 := hts (.fieldLink RX12 149 "GoatDoors$Village" "receipts" "LGoatDoors$Receipts;") (by decide +kernel)
  have lk7 := hts (.fieldLink RX12 153 "GoatDoors$Receipts" "size" "I") (by decide +kernel)
  have lk8 := hts (.fieldLink RX12 83 "GoatDoors" "tapeLength" "I") (by decide +kernel)
  have lk9 := hts (.fieldLink RX12 100 "GoatDoors" "refusedTexts" "I") (by decide +kernel)
  have lk10 := hts (.fieldLink RX12 127 "GoatDoors" "refusedDays" "I") (by decide +kernel)
  have lk11 := hts (.fieldLink RX12 158 "GoatDoors" "refusedReceipts" "I") (by decide +kernel)
  have lk12 := hts (.classLink RX12 161 "java/util/NoSuchElementException") (by decide +kernel)
  have lk13 := hts (.initialized "java/util/NoSuchElementException") (by decide +kernel)
  have in_X12 : ∀ w ∈ wsX120, w ∈ wsX12_count := by decide +kernel
  have in_X9 : ∀ w ∈ wsX90, w ∈ wsX12_count := by decide +kernel
  have in_X4 : ∀ w ∈ wsX40, w ∈ wsX12_count := by decide +kernel
  have in_X8 : ∀ w ∈ wsX80, w ∈ wsX12_count := by decide +kernel
  have gd165 : ∀ w ∈ (vx_atS RX12 165 "java/util/NoSuchElementException" ["java/lang/RuntimeException", "java/lang/Exception"]).filter goodWord, w.before aa s = true := fun w hw => hts w ((show ∀ w ∈ (vx_atS RX12 165 "java/util/NoSuchElementException" ["java/lang/RuntimeException", "java/lang/Exception"]).filter goodWord, w ∈ wsX12_count by decide +kernel) w hw)
  obtain ⟨H, hH⟩ : ∃ H : Heap, H = s.heap := ⟨_, rfl⟩
  obtain ⟨locs, hlocs⟩ : ∃ locs : List Loc, locs = [] := ⟨_, rfl⟩
  have hS : va_S A s.heap H locs := by rw [hH, hlocs]; exact hS
  rw [← hH] at hP
  suffices hg : W p l e rm_X12_count s m aa below meth c H locs 0 0 (vx_MQ below qq xx aa s 1 6 A) (F0 m 0 ls []) by subst hH; subst hlocs; exact hg
  unfold p_X12_count at h
  refine lv_iload_n hx hb dX12_count_0 rfl (lv_at hl 1 rfl) ?_
  by_cases c1 : x1 = (0 : Int32)
  · rw [if_pos c1] at h
    refine lv_tableIn (off := 55) (tgt := 56) hx hb dX12_count_1 (by rw [c1]; decide) (by rw [c1]; decide) (by rw [c1]; decide) (by decide) ?_
    refine lv_aload_n hx hb dX12_count_56 rfl (lv_at hl 0 rfl) ?_
    refine va_get (D := (dC, dI)) (ci := 10) (v := .ref (a0 2)) (C := RX12) (T := TX12) (N := 17) hx hb hts in_X12 hown hK hP 0 rfl rfl 6 (by decide) lk0 (fun _ h9 => h9) rfl dX12_count_57 ?_
    refine va_get (D := (dC, dI)) (ci := 7) (v := .int gvn.1) (C := RX9) (T := TX9) (N := 9) hx hb hts in_X9 hown hK hP 1 rfl rfl 0 (by decide) lk1 (fun _ h9 => h9) rfl dX12_count_60 ?_
    refine vx_ret ?_
    refine W.widen (k := 1) (n := 6) (by decide) (by decide) ?_
    exact W.iret (v := gvn.1) hx hb hr (fun t ht hW => by rw [hqq]; have hh := Option.some.inj h; exact ⟨⟨gvn.1, (()), rfl, ⟨fst_of hh, snd_of hh⟩, by rw [ht]; exact hP, va_K.moved hW.alike hK⟩, hS.F ht⟩) hS.2.2 dX12_count_63
  rw [if_neg c1] at h
  by_cases c2 : x1 = (1 : Int32)
  · rw [if_pos c2] at h
    refine lv_tableIn (off := 63) (tgt := 64) hx hb dX12_count_1 (by rw [c2]; decide) (by rw [c2]; decide) (by rw [c2]; decide) (by decide) ?_
    refine lv_aload_n hx hb dX12_count_64 rfl (lv_at hl 0 rfl) ?_
    refine va_get (D := (dC, dI)) (ci := 10) (v := .ref (a0 2)) (C := RX12) (T := TX12) (N := 17) hx hb hts in_X12 hown hK hP 0 rfl rfl 6 (by decide) lk0 (fun _ h9 => h9) rfl dX12_count_65 ?_
    refine va_get (D := (dC, dI)) (ci := 7) (v := .ref (a0 3)) (C := RX9) (T := TX9) (N := 9) hx hb hts in_X9 hown hK hP 1 rfl rfl 2 (by decide) lk2 (fun _ h9 => h9) rfl dX12_count_68 ?_
    refine va_get (D := (dC, dI)) (ci := 2) (v := .int gdn.2.1) (C := RX4) (T := TX4) (N := 6) hx hb hts in_X4 hown hK hP 2 rfl rfl 1 (by decide) lk3 (fun _ h9 => h9) rfl dX12_count_71 ?_
    refine vx_ret ?_
    refine W.widen (k := 1) (n := 6) (by decide) (by decide) ?_
    exact W.iret (v := gdn.2.1) hx hb hr (fun t ht hW => by rw [hqq]; have hh := Option.some.inj h; exact ⟨⟨gdn.2.1, (()), rfl, ⟨fst_of hh, snd_of hh⟩, by rw [ht]; exact hP, va_K.moved hW.alike hK⟩, hS.F ht⟩) hS.2.2 dX12_count_74
  rw [if_neg c2] at h
  by_cases c3 : x1 = (2 : Int32)
  · rw [if_pos c3] at h
    refine lv_tableIn (off := 74) (tgt := 75) hx hb dX12_count_1 (by rw [c3]; decide) (by rw [c3]; decide) (by rw [c3]; decide) (by decide) ?_
    refine lv_aload_n hx hb dX12_count_75 rfl (lv_at hl 0 rfl) ?_
    refine va_get (D := (dC, dI)) (ci := 10) (v := .ref (a0 2)) (C := RX12) (T := TX12) (N := 17) hx hb hts in_X12 hown hK hP 0 rfl rfl 6 (by decide) lk0 (fun _ h9 => h9) rfl dX12_count_76 ?_
    refine va_get (D := (dC, dI)) (ci := 7) (v := .ref (a0 3)) (C := RX9) (T := TX9) (N := 9) hx hb hts in_X9 hown hK hP 1 rfl rfl 2 (by decide) lk2 (fun _ h9 => h9) rfl dX12_count_79 ?_
    refine va_get (D := (dC, dI)) (ci := 2) (v := .int gdn.1) (C := RX4) (T := TX4) (N := 6) hx hb hts in_X4 hown hK hP 2 rfl rfl 0 (by decide) lk4 (fun _ h9 => h9) rfl dX12_count_82 ?_
    refine vx_ret ?_
    refine W.widen (k := 1) (n := 6) (by decide) (by decide) ?_
    exact W.iret (v := gdn.1) hx hb hr (fun t ht hW => by rw [hqq]; have hh := Option.some.inj h; exact ⟨⟨gdn.1, (()), rfl, ⟨fst_of hh, snd_of hh⟩, by rw [ht]; exact hP, va_K.moved hW.alike hK⟩, hS.F ht⟩) hS.2.2 dX12_count_85
  rw [if_neg c3] at h
  by_cases c4 : x1 = (3 : Int32)
  · rw [if_pos c4] at h
    refine lv_tableIn (off := 85) (tgt := 86) hx hb dX12_count_1 (by rw [c4]; decide) (by rw [c4]; decide) (by rw [c4]; decide) (by decide) ?_
    refine lv_aload_n hx hb dX12_count_86 rfl (lv_at hl 0 rfl) ?_
    refine va_get (D := (dC, dI)) (ci := 10) (v := .ref (a0 2)) (C := RX12) (T := TX12) (N := 17) hx hb hts in_X12 hown hK hP 0 rfl rfl 6 (by decide) lk0 (fun _ h9 => h9) rfl dX12_count_87 ?_
    refine va_get (D := (dC, dI)) (ci := 7) (v := .int gvn.2.1) (C := RX9) (T := TX9) (N := 9) hx hb hts in_X9 hown hK hP 1 rfl rfl 1 (by decide) lk5 (fun _ h9 => h9) rfl dX12_count_90 ?_
    refine vx_ret ?_
    refine W.widen (k := 1) (n := 6) (by decide) (by decide) ?_
    exact W.iret (v := gvn.2.1) hx hb hr (fun t ht hW => by rw [hqq]; have hh := Option.some.inj h; exact ⟨⟨gvn.2.1, (()), rfl, ⟨fst_of hh, snd_of hh⟩, by rw [ht]; exact hP, va_K.moved hW.alike hK⟩, hS.F ht⟩) hS.2.2 dX12_count_93
  rw [if_neg c4] at h
  by_cases c5 : x1 = (4 : Int32)
  · rw [if_pos c5] at h
    refine lv_tableIn (off := 93) (tgt := 94) hx hb dX12_count_1 (by rw [c5]; decide) (by rw [c5]; decide) (by rw [c5]; decide) (by decide) ?_
    refine lv_aload_n hx hb dX12_count_94 rfl (lv_at hl 0 rfl) ?_
    refine va_get (D := (dC, dI)) (ci := 10) (v := .ref (a0 2)) (C := RX12) (T := TX12) (N := 17) hx hb hts in_X12 hown hK hP 0 rfl rfl 6 (by decide) lk0 (fun _ h9 => h9) rfl dX12_count_95 ?_
    obtain ⟨v6, hv7, h⟩ := ok_bind h
    refine cl_vi (w2 := fun (_ : Unit) => w_X12_count cy a0 gg gvn gdn gcn) (As := []) (rest := []) ⟨hx, hb, hml, hown, hts⟩ (c_X9_allGoats l dC dI cy (fun k => a0 (k + 2)) gvn H.size v6 hv7) (cwV 0 hts gX12_count_X9_allGoats rfl rfl rfl (by decide +kernel) ⟨Nat.le_of_ble_eq_true rfl, Nat.le_of_ble_eq_true rfl⟩) (va_recv hK hP (ci := 7) (q0 := 1) rfl rfl) cl_blind (cl_pre hK hP hD [1, 11, 12, 13, 14, 15] (by decide) rfl) hP hD hS hA [1, 11, 12, 13, 14, 15] rfl rfl hl.1 rfl (lv_room (Nat.le_of_ble_eq_true rfl)) dX12_count_98 ⟨Nat.le_of_ble_eq_true rfl, Nat.le_of_ble_eq_true rfl⟩ ⟨rfl, rfl⟩ (fun _ => updR [1, 11, 12, 13, 14, 15] rfl) (fun r u H locs hw hP hD hS => ?_)
    have hw := hw.symm
    subst hw
    have hP : va_P (dC, dI) vwCl (w_X12_count cy a0 gg gvn gdn gcn) H := hP
    have hD : va_D A (w_X12_count cy a0 gg gvn gdn gcn) := hD
    refine vx_ret ?_
    refine W.widen (k := 1) (n := 6) (by decide) (by decide) ?_
    exact W.iret (v := v6) hx hb hr (fun t ht hW => by rw [hqq]; have hh := Option.some.inj h; exact ⟨⟨v6, (()), rfl, ⟨fst_of hh, snd_of hh⟩, by rw [ht]; exact hP, va_K.moved hW.alike hK⟩, hS.F ht⟩) hS.2.2 dX12_count_101
  rw [if_neg c5] at h
  by_cases c8 : x1 = (5 : Int32)
  · rw [if_pos c8] at h
    refine lv_tableIn (off := 101) (tgt := 102) hx hb dX12_count_1 (by rw [c8]; decide) (by rw [c8]; decide) (by rw [c8]; decide) (by decide) ?_
    refine lv_aload_n hx hb dX12_count_102 rfl (lv_at hl 0 rfl) ?_
    refine va_get (D := (dC, dI)) (ci := 10) (v := .ref (a0 2)) (C := RX12) (T := TX12) (N := 17) hx hb hts in_X12 hown hK hP 0 rfl rfl 6 (by decide) lk0 (fun _ h9 => h9) rfl dX12_count_103 ?_
    refine va_get (D := (dC, dI)) (ci := 7) (v := .ref (a0 8)) (C := RX9) (T := TX9) (N := 9) hx hb hts in_X9 hown hK hP 1 rfl rfl 3 (by decide) lk6 (fun _ h9 => h9) rfl dX12_count_106 ?_
    refine va_get (D := (dC, dI)) (ci := 6) (v := .int gcn.1) (C := RX8) (T := TX8) (N := 4) hx hb hts in_X8 hown hK hP 7 rfl rfl 0 (by decide) lk7 (fun _ h9 => h9) rfl dX12_count_109 ?_
    refine vx_ret ?_
    refine W.widen (k := 1) (n := 6) (by decide) (by decide) ?_
    exact W.iret (v := gcn.1) hx hb hr (fun t ht hW => by rw [hqq]; have hh := Option.some.inj h; exact ⟨⟨gcn.1, (()), rfl, ⟨fst_of hh, snd_of hh⟩, by rw [ht]; exact hP, va_K.moved hW.alike hK⟩, hS.F ht⟩) hS.2.2 dX12_count_112
  rw [if_neg c8] at h
  by_cases c9 : x1 = (6 : Int32)
  · rw [if_pos c9] at h
    refine lv_tableIn (off := 112) (tgt := 113) hx hb dX12_count_1 (by rw [c9]; decide) (by rw [c9]; decide) (by rw [c9]; decide) (by decide) ?_
    refine lv_aload_n hx hb dX12_count_113 rfl (lv_at hl 0 rfl) ?_
    refine va_get (D := (dC, dI)) (ci := 10) (v := .int gg.1) (C := RX12) (T := TX12) (N := 17) hx hb hts in_X12 hown hK hP 0 rfl rfl 1 (by decide) lk8 (fun _ h9 => h9) rfl dX12_count_114 ?_
    refine vx_ret ?_
    refine W.widen (k := 1) (n := 6) (by decide) (by decide) ?_
    exact W.iret (v := gg.1) hx hb hr (fun t ht hW => by rw [hqq]; have hh := Option.some.inj h; exact ⟨⟨gg.1, (()), rfl, ⟨fst_of hh, snd_of hh⟩, by rw [ht]; exact hP, va_K.moved hW.alike hK⟩, hS.F ht⟩) hS.2.2 dX12_count_117
  rw [if_neg c9] at h
  by_cases c10 : x1 = (7 : Int32)
  · rw [if_pos c10] at h
    refine lv_tableIn (off := 117) (tgt := 118) hx hb dX12_count_1 (by rw [c10]; decide) (by rw [c10]; decide) (by rw [c10]; decide) (by decide) ?_
    refine lv_aload_n hx hb dX12_count_118 rfl (lv_at hl 0 rfl) ?_
    refine va_get (D := (dC, dI)) (ci := 10) (v := .int gg.2.2.1) (C := RX12) (T := TX12) (N := 17) hx hb hts in_X12 hown hK hP 0 rfl rfl 3 (by decide) lk9 (fun _ h9 => h9) rfl dX12_count_119 ?_
    refine vx_ret ?_
    refine W.widen (k := 1) (n := 6) (by decide) (by decide) ?_
    exact W.iret (v := gg.2.2.1) hx hb hr (fun t ht hW => by rw [hqq]; have hh := Option.some.inj h; exact ⟨⟨gg.2.2.1, (()), rfl, ⟨fst_of hh, snd_of hh⟩, by rw [ht]; exact hP, va_K.moved hW.alike hK⟩, hS.F ht⟩) hS.2.2 dX12_count_122
  rw [if_neg c10] at h
  by_cases c11 : x1 = (8 : Int32)
  · rw [if_pos c11] at h
    refine lv_tableIn (off := 122) (tgt := 123) hx hb dX12_count_1 (by rw [c11]; decide) (by rw [c11]; decide) (by rw [c11]; decide) (by decide) ?_
    refine lv_aload_n hx hb dX12_count_123 rfl (lv_at hl 0 rfl) ?_
    refine va_get (D := (dC, dI)) (ci := 10) (v := .int gg.2.2.2.1) (C := RX12) (T := TX12) (N := 17) hx hb hts in_X12 hown hK hP 0 rfl rfl 4 (by decide) lk10 (fun _ h9 => h9) rfl dX12_count_124 ?_
    refine vx_ret ?_
    refine W.widen (k := 1) (n := 6) (by decide) (by decide) ?_
    exact W.iret (v := gg.2.2.2.1) hx hb hr (fun t ht hW => by rw [hqq]; have hh := Option.some.inj h; exact ⟨⟨gg.2.2.2.1, (()), rfl, ⟨fst_of hh, snd_of hh⟩, by rw [ht]; exact hP, va_K.moved hW.alike hK⟩, hS.F ht⟩) hS.2.2 dX12_count_127
  rw [if_neg c11] at h
  by_cases c12 : x1 = (9 : Int32)
  · rw [if_pos c12] at h
    refine lv_tableIn (off := 127) (tgt := 128) hx hb dX12_count_1 (by rw [c12]; decide) (by rw [c12]; decide) (by rw [c12]; decide) (by decide) ?_
    refine lv_aload_n hx hb dX12_count_128 rfl (lv_at hl 0 rfl) ?_
    refine va_get (D := (dC, dI)) (ci := 10) (v := .int gg.2.2.2.2.1) (C := RX12) (T := TX12) (N := 17) hx hb hts in_X12 hown hK hP 0 rfl rfl 5 (by decide) lk11 (fun _ h9 => h9) rfl dX12_count_129 ?_
    refine vx_ret ?_
    refine W.widen (k := 1) (n := 6) (by decide) (by decide) ?_
    exact W.iret (v := gg.2.2.2.2.1) hx hb hr (fun t ht hW => by rw [hqq]; have hh := Option.some.inj h; exact ⟨⟨gg.2.2.2.2.1, (()), rfl, ⟨fst_of hh, snd_of hh⟩, by rw [ht]; exact hP, va_K.moved hW.alike hK⟩, hS.F ht⟩) hS.2.2 dX12_count_132
  rw [if_neg c12] at h
  refine lv_tableOut (tgt := 133) hx hb dX12_count_1 (tab_out (fun k h1 h2 e => by rcases (show k = 0 ∨ k = 1 ∨ k = 2 ∨ k = 3 ∨ k = 4 ∨ k = 5 ∨ k = 6 ∨ k = 7 ∨ k = 8 ∨ k = 9 by omega) with rfl | rfl | rfl | rfl | rfl | rfl | rfl | rfl | rfl | rfl <;> first | exact c1 (Int32.toInt_inj.mp (e.trans (by decide))) | exact c2 (Int32.toInt_inj.mp (e.trans (by decide))) | exact c3 (Int32.toInt_inj.mp (e.trans (by decide))) | exact c4 (Int32.toInt_inj.mp (e.trans (by decide))) | exact c5 (Int32.toInt_inj.mp (e.trans (by decide))) | exact c8 (Int32.toInt_inj.mp (e.trans (by decide))) | exact c9 (Int32.toInt_inj.mp (e.trans (by decide))) | exact c10 (Int32.toInt_inj.mp (e.trans (by decide))) | exact c11 (Int32.toInt_inj.mp (e.trans (by decide))) | exact c12 (Int32.toInt_inj.mp (e.trans (by decide))))) (by decide) ?_
  refine vx_throwS (XC := xx) (text := "no such count") (names := ["java/lang/RuntimeException", "java/lang/Exception"]) hx hb hl9 hown (by decide) (by decide) lk12 lk13 (hX.tx 163 "no such count" (by decide)) (ex_at165 gd165 hX) (by decide +kernel) hX.us hX.ss hS (by rw [hml]; exact hl.1) dX12_count_133 dX12_count_136 dX12_count_137 dX12_count_139 dX12_count_142 (fun x9 hx9 => (htab x9 hx9).elim) (Nat.le_of_ble_eq_true rfl) (Nat.le_of_ble_eq_true rfl) (Nat.le_of_ble_eq_true rfl) (Nat.le_of_ble_eq_true rfl) hlocks (fun t h1 h2 h3 => by rw [hxx]; have hh := Option.some.inj h; exact ⟨(()), snd_of hh, ⟨exE_1 (fst_of hh).symm, ex_po hP hK h1 h3⟩, ex_F hS h2 h3⟩) hS.2.2 (by decide) (by decide)

abbrev w_X12_figureOf (cy : Nat → ClassId) (a0 : Nat → Nat) (gg : Int32 × Int32 × Int32 × Int32 × Int32 × Int32) (gvn : Int32 × Int32 × (Nat → Int32) × (Nat → Int32) × (Nat → Int32) × (Nat → Int32) × (Nat → Int32)) (gdn : Int32 × Int32 × (Nat → Int32) × (Nat → Int32) × (Nat → Int32) × (Nat → Int32)) : va_W := [(a0 0, .inr (10, [.ref (a0 1), .int (gg.1), .int (gg.2.1), .int (gg.2.2.1), .int (gg.2.2.2.1), .int (gg.2.2.2.2.1), .ref (a0 2), .ref (a0 17), .ref (a0 32), .int (gg.2.2.2.2.2), .ref (a0 47), .ref (a0 48), .ref (a0 49), .ref (a0 50), .ref (a0 68), .ref (a0 78), .ref (a0 80)])), (a0 2, .inr (7, [.int (gvn.1), .int (gvn.2.1), .ref (a0 3), .ref (a0 8), .ref (a0 12), .ref (a0 13), .ref (a0 14), .ref (a0 15), .ref (a0 16)])), (a0 3, .inr (2, [.int (gdn.1), .int (gdn.2.1), .ref (a0 4), .ref (a0 5), .ref (a0 6), .ref (a0 7)])), (a0 4, .inl (cy 1, 10, .inl (gdn.2.2.1))), (a0 5, .inl (cy 1, 10, .inl (gdn.2.2.2.1))), (a0 6, .inl (cy 1, 10, .inl (gdn.2.2.2.2.1))), (a0 7, .inl (cy 1, 50, .inl (gdn.2.2.2.2.2)))]
abbrev rm_X12_figureOf : Room := { frames := 6, cells := 1, slots := 6, locals := 90 }
set_option maxHeartbeats 1000000 in
set_option maxRecDepth 100000 in
theorem c_X12_figureOf (l : Launch) (dC : Nat → ClassId) (dI : Nat → Nat → Nat) (cy : Nat → ClassId) (z : Nat → Nat) (hl9 : l.stackTraces = false) (a0 : Nat → Nat) (gg : Int32 × Int32 × Int32 × Int32 × Int32 × Int32) (gvn : Int32 × Int32 × (Nat → Int32) × (Nat → Int32) × (Nat → Int32) × (Nat → Int32) × (Nat → Int32)) (gdn : Int32 × Int32 × (Nat → Int32) × (Nat → Int32) × (Nat → Int32) × (Nat → Int32)) (x1 : Int32) (x2 : Int32) (sz : Nat) (R0 : (Int32 ⊕ Nat) × (Unit)) (h : p_X12_figureOf gdn x1 x2 = some R0) : vx_Met l yX12_figureOf wsX12_figureOf rm_X12_figureOf (va_Pc [.ref (a0 0), .int x1, .int x2] (prS dC dI cy z (w_X12_figureOf cy a0 gg gvn gdn) sz)) (va_Qi (fun (r : Int32) (u : Unit) => Sum.inl r = R0.1 ∧ u = R0.2) (fun (_ : Unit) t => poC dC dI cy (w_X12_figureOf cy a0 gg gvn gdn) t) (va_A (w_X12_figureOf cy a0 gg gvn gdn) sz)) (vx_X (fun (u : Unit) => u = R0.2) (fun E (_ : Unit) t => exE E R0.1 ∧ poC dC dI cy (w_X12_figureOf cy a0 gg gvn gdn) t) (va_A (w_X12_figureOf cy a0 gg gvn gdn) sz)) 1 6 (va_A (w_X12_figureOf cy a0 gg gvn gdn) sz) := by
  refine vx_ofW (cc := cX12_figureOf) (maxL := 3) (ret := (some .int)) (by decide) rfl ?_
  intro p e s m aa below meth c s₁ B hml htab hv
  obtain ⟨haa, ⟨hsz, hP, hK, hD0⟩, hX⟩ := hv
  have hx := B.exec
  have hb := B.bytes
  have hr := B.returns
  have hts := atoms_spec (ws := wsX12_figureOf) B.pre
  have hown : s.vm.findClass RX12 = some m.cls := findClass_of_methodNamed B.named
  have hlocks := B.notSynchronized
  subst hsz
  have hD := hD0.self (sz := s.heap.size)
  obtain ⟨qq, hqq⟩ : ∃ qq, qq = (va_Qi (fun (r : Int32) (u : Unit) => Sum.inl r = R0.1 ∧ u = R0.2) (fun (_ : Unit) t => poC dC dI cy (w_X12_figureOf cy a0 gg gvn gdn) t) (va_A (w_X12_figureOf cy a0 gg gvn gdn) s.heap.size)) := ⟨_, rfl⟩
  obtain ⟨xx, hxx⟩ : ∃ xx, xx = (vx_X (fun (u : Unit) => u = R0.2) (fun E (_ : Unit) t => exE E R0.1 ∧ poC dC dI cy (w_X12_figureOf cy a0 gg gvn gdn) t) (va_A (w_X12_figureOf cy a0 gg gvn gdn) s.heap.size)) := ⟨_, rfl⟩
  rw [← hqq, ← hxx]
  generalize hAe : va_A (w_X12_figureOf cy a0 gg gvn gdn) s.heap.size = A at hD hqq hxx hX ⊢
  have hA : ∀ q : Nat, s.heap.size ≤ q → A q := fun q h => by rw [← hAe]; exact Or.inr h
  have hS : va_S A s.heap s.heap [] := va_S.rf
  have hl := lv_entry ([.ref (a0 0), .int x1, .int x2]) (n := 3) (Nat.le_of_ble_eq_true rfl)
  have hE : entryFrame m aa 3 = F0 m 0 ((lg_sl ([.ref (a0 0), .int x1, .int x2]) ++ List.replicate (3 - (lg_sl ([.ref (a0 0), .int x1, .int x2])).length) Slot.unset).toArray) [] := by rw [haa]; exact lg_entry_eq m _ 3
  refine W.eq hE ?_
  generalize (lg_sl ([.ref (a0 0), .int x1, .int x2]) ++ List.replicate (3 - (lg_sl ([.ref (a0 0), .int x1, .int x2])).length) Slot.unset).toArray = ls at hl ⊢
  have hl : lv_has ls 3 [(0, .ref (a0 0)), (1, .int x1), (2, .int x2)] := hl
  change W p l e rm_X12_figureOf s m aa below meth c s.heap [] 0 0 (vx_MQ below qq xx aa s 1 6 A) (F0 m 0 ls [])
  have hS0 := hS
  have lk0 := hts (.classLink RX12 161 "java/util/NoSuchElementException") (by decide +kernel)
  have lk1 := hts (.initialized "java/util/NoSuchElementException") (by decide +kernel)
  have lk2 := hts (.fieldLink RX12 20 "GoatDoors" "now" "LGoatDoors$Village;") (by decide +kernel)
  have lk3 := hts (.fieldLink RX12 130 "GoatDoors$Village" "doors" "LGoatDoors$Doors;") (by decide +kernel)
  have in_X12 : ∀ w ∈ wsX120, w ∈ wsX12_figureOf := by decide +kernel
  have in_X9 : ∀ w ∈ wsX90, w ∈ wsX12_figureOf := by decide +kernel
  have gd165 : ∀ w ∈ (vx_atS RX12 165 "java/util/NoSuchElementException" ["java/lang/RuntimeException", "java/lang/Exception"]).filter goodWord, w.before aa s = true := fun w hw => hts w ((show ∀ w ∈ (vx_atS RX12 165 "java/util/NoSuchElementException" ["java/lang/RuntimeException", "java/lang/Exception"]).filter goodWord, w ∈ wsX12_figureOf by decide +kernel) w hw)
  obtain ⟨H, hH⟩ : ∃ H : Heap, H = s.heap := ⟨_, rfl⟩
  obtain ⟨locs, hlocs⟩ : ∃ locs : List Loc, locs = [] := ⟨_, rfl⟩
  have hS : va_S A s.heap H locs := by rw [hH, hlocs]; exact hS
  rw [← hH] at hP
  suffices hg : W p l e rm_X12_figureOf s m aa below meth c H locs 0 0 (vx_MQ below qq xx aa s 1 6 A) (F0 m 0 ls []) by subst hH; subst hlocs; exact hg
  unfold p_X12_figureOf at h
  refine lv_iload_n hx hb dX12_figureOf_0 rfl (lv_at hl 2 rfl) ?_
  refine lv_if_lt (tgt := 19) hx hb dX12_figureOf_1 (by decide) (fun c1 => ?_) (fun c1 => ?_)
  · rw [if_pos c1] at h
    refine vx_throwS (XC := xx) (text := "nothing such is told of a door") (names := ["java/lang/RuntimeException", "java/lang/Exception"]) hx hb hl9 hown (by decide) (by decide) lk0 lk1 (hX.tx 215 "nothing such is told of a door" (by decide)) (ex_at165 gd165 hX) (by decide +kernel) hX.us hX.ss hS (by rw [hml]; exact hl.1) dX12_figureOf_19 dX12_figureOf_22 dX12_figureOf_23 dX12_figureOf_25 dX12_figureOf_28 (fun x9 hx9 => (htab x9 hx9).elim) (Nat.le_of_ble_eq_true rfl) (Nat.le_of_ble_eq_true rfl) (Nat.le_of_ble_eq_true rfl) (Nat.le_of_ble_eq_true rfl) hlocks (fun t h1 h2 h3 => by rw [hxx]; have hh := Option.some.inj h; exact ⟨(()), snd_of hh, ⟨exE_1 (fst_of hh).symm, ex_po hP hK h1 h3⟩, ex_F hS h2 h3⟩) hS.2.2 (by decide) (by decide)
  · rw [if_neg c1] at h
    refine lv_iload_n hx hb dX12_figureOf_4 rfl (lv_at hl 2 rfl) ?_
    refine lv_aload_n hx hb dX12_figureOf_5 rfl (lv_at hl 0 rfl) ?_
    refine va_get (D := (dC, dI)) (ci := 10) (v := .ref (a0 2)) (C := RX12) (T := TX12) (N := 17) hx hb hts in_X12 hown hK hP 0 rfl rfl 6 (by decide) lk2 (fun _ h9 => h9) rfl dX12_figureOf_6 ?_
    refine va_get (D := (dC, dI)) (ci := 7) (v := .ref (a0 3)) (C := RX9) (T := TX9) (N := 9) hx hb hts in_X9 hown hK hP 1 rfl rfl 2 (by decide) lk3 (fun _ h9 => h9) rfl dX12_figureOf_9 ?_
    refine lv_iload_n hx hb dX12_figureOf_12 rfl (lv_at hl 1 rfl) ?_
    obtain ⟨v2, hv3, h⟩ := ok_bind h
    refine cl_vi (w2 := fun (_ : Unit) => w_X12_figureOf cy a0 gg gvn gdn) (As := [.int x1]) (rest := [.int x2]) ⟨hx, hb, hml, hown, hts⟩ (c_X4_lengthOf l dC dI cy (fun k => a0 (k + 3)) gdn x1 H.size v2 hv3) (cwV 1 hts gX12_figureOf_X4_lengthOf rfl rfl rfl (by decide +kernel) ⟨Nat.le_of_ble_eq_true rfl, Nat.le_of_ble_eq_true rfl⟩) (va_recv hK hP (ci := 2) (q0 := 2) rfl rfl) cl_blind (cl_pre hK hP hD [2, 3, 4, 5, 6] (by decide) rfl) hP hD hS hA [2, 3, 4, 5, 6] rfl rfl hl.1 rfl (lv_room (Nat.le_of_ble_eq_true rfl)) dX12_figureOf_13 ⟨Nat.le_of_ble_eq_true rfl, Nat.le_of_ble_eq_true rfl⟩ ⟨rfl, rfl⟩ (fun _ => updR [2, 3, 4, 5, 6] rfl) (fun r u H locs hw hP hD hS => ?_)
    have hw := hw.symm
    subst hw
    have hP : va_P (dC, dI) vwCl (w_X12_figureOf cy a0 gg gvn gdn) H := hP
    have hD : va_D A (w_X12_figureOf cy a0 gg gvn gdn) := hD
    refine lv_icmp_lt (tgt := 29) hx hb dX12_figureOf_16 (by decide) (fun c4 => ?_) (fun c4 => ?_)
    · rw [if_pos c4] at h
      refine lv_aload_n hx hb dX12_figureOf_29 rfl (lv_at hl 0 rfl) ?_
      refine va_get (D := (dC, dI)) (ci := 10) (v := .ref (a0 2)) (C := RX12) (T := TX12) (N := 17) hx hb hts in_X12 hown hK hP 0 rfl rfl 6 (by decide) lk2 (fun _ h9 => h9) rfl dX12_figureOf_30 ?_
      refine va_get (D := (dC, dI)) (ci := 7) (v := .ref (a0 3)) (C := RX9) (T := TX9) (N := 9) hx hb hts in_X9 hown hK hP 1 rfl rfl 2 (by decide) lk3 (fun _ h9 => h9) rfl dX12_figureOf_33 ?_
      refine lv_iload_n hx hb dX12_figureOf_36 rfl (lv_at hl 1 rfl) ?_
      refine lv_iload_n hx hb dX12_figureOf_37 rfl (lv_at hl 2 rfl) ?_
      obtain ⟨v5, hv6, h⟩ := ok_bind h
      refine cl_vi (w2 := fun (_ : Unit) => w_X12_figureOf cy a0 gg gvn gdn) (As := [.int x1, .int x2]) (rest := []) ⟨hx, hb, hml, hown, hts⟩ (c_X4_figureAt l dC dI cy (fun k => a0 (k + 3)) gdn x1 x2 H.size v5 hv6) (cwV 2 hts gX12_figureOf_X4_figureAt rfl rfl rfl (by decide +kernel) ⟨Nat.le_of_ble_eq_true rfl, Nat.le_of_ble_eq_true rfl⟩) (va_recv hK hP (ci := 2) (q0 := 2) rfl rfl) cl_blind (cl_pre hK hP hD [2, 3, 4, 5, 6] (by decide) rfl) hP hD hS hA [2, 3, 4, 5, 6] rfl rfl hl.1 rfl (lv_room (Nat.le_of_ble_eq_true rfl)) dX12_figureOf_38 ⟨Nat.le_of_ble_eq_true rfl, Nat.le_of_ble_eq_true rfl⟩ ⟨rfl, rfl⟩ (fun _ => updR [2, 3, 4, 5, 6] rfl) (fun r u H locs hw hP hD hS => ?_)
      have hw := hw.symm
      subst hw
      have hP : va_P (dC, dI) vwCl (w_X12_figureOf cy a0 gg gvn gdn) H := hP
      have hD : va_D A (w_X12_figureOf cy a0 gg gvn gdn) := hD
      refine vx_ret ?_
      refine W.widen (k := 1) (n := 6) (by decide) (by decide) ?_
      exact W.iret (v := v5) hx hb hr (fun t ht hW => by rw [hqq]; have hh := Option.some.inj h; exact ⟨⟨v5, (()), rfl, ⟨fst_of hh, snd_of hh⟩, by rw [ht]; exact hP, va_K.moved hW.alike hK⟩, hS.F ht⟩) hS.2.2 dX12_figureOf_41
    · rw [if_neg c4] at h
      refine vx_throwS (XC := xx) (text := "nothing such is told of a door") (names := ["java/lang/RuntimeException", "java/lang/Exception"]) hx hb hl9 hown (by decide) (by decide) lk0 lk1 (hX.tx 215 "nothing such is told of a door" (by decide)) (ex_at165 gd165 hX) (by decide +kernel) hX.us hX.ss hS (by rw [hml]; exact hl.1) dX12_figureOf_19 dX12_figureOf_22 dX12_figureOf_23 dX12_figureOf_25 dX12_figureOf_28 (fun x9 hx9 => (htab x9 hx9).elim) (Nat.le_of_ble_eq_true rfl) (Nat.le_of_ble_eq_true rfl) (Nat.le_of_ble_eq_true rfl) (Nat.le_of_ble_eq_true rfl) hlocks (fun t h1 h2 h3 => by rw [hxx]; have hh := Option.some.inj h; exact ⟨(()), snd_of hh, ⟨exE_1 (fst_of hh).symm, ex_po hP hK h1 h3⟩, ex_F hS h2 h3⟩) hS.2.2 (by decide) (by decide)

abbrev w_X12_door (cy : Nat → ClassId) (a0 : Nat → Nat) (gg : Int32 × Int32 × Int32 × Int32 × Int32 × Int32) (gvn : Int32 × Int32 × (Nat → Int32) × (Nat → Int32) × (Nat → Int32) × (Nat → Int32) × (Nat → Int32)) (gdn : Int32 × Int32 × (Nat → Int32) × (Nat → Int32) × (Nat → Int32) × (Nat → Int32)) : va_W := [(a0 0, .inr (10, [.ref (a0 1), .int (gg.1), .int (gg.2.1), .int (gg.2.2.1), .int (gg.2.2.2.1), .int (gg.2.2.2.2.1), .ref (a0 2), .ref (a0 17), .ref (a0 32), .int (gg.2.2.2.2.2), .ref (a0 47), .ref (a0 48), .ref (a0 49), .ref (a0 50), .ref (a0 68), .ref (a0 78), .ref (a0 80)])), (a0 2, .inr (7, [.int (gvn.1), .int (gvn.2.1), .ref (a0 3), .ref (a0 8), .ref (a0 12), .ref (a0 13), .ref (a0 14), .ref (a0 15), .ref (a0 16)])), (a0 3, .inr (2, [.int (gdn.1), .int (gdn.2.1), .ref (a0 4), .ref (a0 5), .ref (a0 6), .ref (a0 7)])), (a0 4, .inl (cy 1, 10, .inl (gdn.2.2.1))), (a0 5, .inl (cy 1, 10, .inl (gdn.2.2.2.1))), (a0 6, .inl (cy 1, 10, .inl (gdn.2.2.2.2.1))), (a0 7, .inl (cy 1, 50, .inl (gdn.2.2.2.2.2)))]
abbrev rm_X12_door : Room := { frames := 7, cells := 2, slots := 12, locals := 112 }
set_option maxHeartbeats 1000000 in
set_option maxRecDepth 100000 in
theorem c_X12_door (l : Launch) (dC : Nat → ClassId) (dI : Nat → Nat → Nat) (cy : Nat → ClassId) (z : Nat → Nat) (hl9 : l.stackTraces = false) (a0 : Nat → Nat) (gg : Int32 × Int32 × Int32 × Int32 × Int32 × Int32) (gvn : Int32 × Int32 × (Nat → Int32) × (Nat → Int32) × (Nat → Int32) × (Nat → Int32) × (Nat → Int32)) (gdn : Int32 × Int32 × (Nat → Int32) × (Nat → Int32) × (Nat → Int32) × (Nat → Int32)) (x1 : Int32) (x2 : Int32) (sz : Nat) (R0 : (Int32 ⊕ Nat) × (Unit)) (h : p_X12_door gdn x1 x2 = some R0) : vx_Met l yX12_door wsX12_door rm_X12_door (va_Pc [.ref (a0 0), .int x1, .int x2] (prS dC dI cy z (w_X12_door cy a0 gg gvn gdn) sz)) (va_Qi (fun (r : Int32) (u : Unit) => Sum.inl r = R0.1 ∧ u = R0.2) (fun (_ : Unit) t => poC dC dI cy (w_X12_door cy a0 gg gvn gdn) t) (va_A (w_X12_door cy a0 gg gvn gdn) sz)) (vx_X (fun (u : Unit) => u = R0.2) (fun E (_ : Unit) t => exE E R0.1 ∧ poC dC dI cy (w_X12_door cy a0 gg gvn gdn) t) (va_A (w_X12_door cy a0 gg gvn gdn) sz)) 2 12 (va_A (w_X12_door cy a0 gg gvn gdn) sz) := by
  refine vx_ofW (cc := cX12_door) (maxL := 3) (ret := (some .int)) (by decide) rfl ?_
  intro p e s m aa below meth c s₁ B hml htab hv
  obtain ⟨haa, ⟨hsz, hP, hK, hD0⟩, hX⟩ := hv
  have hx := B.exec
  have hb := B.bytes
  have hr := B.returns
  have hts := atoms_spec (ws := wsX12_door) B.pre
  have hown : s.vm.findClass RX12 = some m.cls := findClass_of_methodNamed B.named
  have hlocks := B.notSynchronized
  subst hsz
  have hD := hD0.self (sz := s.heap.size)
  obtain ⟨qq, hqq⟩ : ∃ qq, qq = (va_Qi (fun (r : Int32) (u : Unit) => Sum.inl r = R0.1 ∧ u = R0.2) (fun (_ : Unit) t => poC dC dI cy (w_X12_door cy a0 gg gvn gdn) t) (va_A (w_X12_door cy a0 gg gvn gdn) s.heap.size)) := ⟨_, rfl⟩
  obtain ⟨xx, hxx⟩ : ∃ xx, xx = (vx_X (fun (u : Unit) => u = R0.2) (fun E (_ : Unit) t => exE E R0.1 ∧ poC dC dI cy (w_X12_door cy a0 gg gvn gdn) t) (va_A (w_X12_door cy a0 gg gvn gdn) s.heap.size)) := ⟨_, rfl⟩
  rw [← hqq, ← hxx]
  generalize hAe : va_A (w_X12_door cy a0 gg gvn gdn) s.heap.size = A at hD hqq hxx hX ⊢
  have hA : ∀ q : Nat, s.heap.size ≤ q → A q := fun q h => by rw [← hAe]; exact Or.inr h
  have hS : va_S A s.heap s.heap [] := va_S.rf
  have hl := lv_entry ([.ref (a0 0), .int x1, .int x2]) (n := 3) (Nat.le_of_ble_eq_true rfl)
  have hE : entryFrame m aa 3 = F0 m 0 ((lg_sl ([.ref (a0 0), .int x1, .int x2]) ++ List.replicate (3 - (lg_sl ([.ref (a0 0), .int x1, .int x2])).length) Slot.unset).toArray) [] := by rw [haa]; exact lg_entry_eq m _ 3
  refine W.eq hE ?_
  generalize (lg_sl ([.ref (a0 0), .int x1, .int x2]) ++ List.replicate (3 - (lg_sl ([.ref (a0 0), .int x1, .int x2])).length) Slot.unset).toArray = ls at hl ⊢
  have hl : lv_has ls 3 [(0, .ref (a0 0)), (1, .int x1), (2, .int x2)] := hl
  change W p l e rm_X12_door s m aa below meth c s.heap [] 0 0 (vx_MQ below qq xx aa s 2 12 A) (F0 m 0 ls [])
  have hS0 := hS
  have lk0 := hts (.fieldLink RX12 20 "GoatDoors" "now" "LGoatDoors$Village;") (by decide +kernel)
  have lk1 := hts (.fieldLink RX12 130 "GoatDoors$Village" "doors" "LGoatDoors$Doors;") (by decide +kernel)
  have in_X12 : ∀ w ∈ wsX120, w ∈ wsX12_door := by decide +kernel
  have in_X9 : ∀ w ∈ wsX90, w ∈ wsX12_door := by decide +kernel
  obtain ⟨H, hH⟩ : ∃ H : Heap, H = s.heap := ⟨_, rfl⟩
  obtain ⟨locs, hlocs⟩ : ∃ locs : List Loc, locs = [] := ⟨_, rfl⟩
  have hS : va_S A s.heap H locs := by rw [hH, hlocs]; exact hS
  rw [← hH] at hP
  suffices hg : W p l e rm_X12_door s m aa below meth c H locs 0 0 (vx_MQ below qq xx aa s 2 12 A) (F0 m 0 ls []) by subst hH; subst hlocs; exact hg
  unfold p_X12_door at h
  refine lv_aload_n hx hb dX12_door_0 rfl (lv_at hl 0 rfl) ?_
  refine lv_iload_n hx hb dX12_door_1 rfl (lv_at hl 1 rfl) ?_
  obtain ⟨v1, hv2, h⟩ := ok_bind h
  refine cx_vv (w2 := fun (_ : Unit) => w_X12_door cy a0 gg gvn gdn) (w2x := fun (_ : Unit) => w_X12_door cy a0 gg gvn gdn) (As := [.int x1]) (rest := []) ⟨hx, hb, hml, hown, hts⟩ (c_X12_needDoor l dC dI cy z hl9 a0 gg gvn gdn x1 H.size v1 hv2) (cwV 1 hts gX12_door_X12_needDoor rfl rfl rfl (by decide +kernel) ⟨Nat.le_of_ble_eq_true rfl, Nat.le_of_ble_eq_true rfl⟩) (va_recv hK hP (ci := 10) (q0 := 0) rfl rfl) cl_blindS (cl_preS hK hP hD hS hA hX [0, 1, 2, 3, 4, 5, 6] (by decide) rfl) hP hD hS hA [0, 1, 2, 3, 4, 5, 6] rfl rfl hl.1 rfl (lv_room (Nat.le_of_ble_eq_true rfl)) dX12_door_2 ⟨Nat.le_of_ble_eq_true rfl, Nat.le_of_ble_eq_true rfl⟩ (cells' := 1) (slots' := 6) ⟨rfl, rfl⟩ (fun _ => updR [0, 1, 2, 3, 4, 5, 6] rfl) (fun _ => updR [0, 1, 2, 3, 4, 5, 6] rfl) (fun E ce q9 u H locs hw hE hP hD hS hc1 hc2 hc3 => ?_) (fun u H locs hw hP hD hS => ?_)
  · subst hw
    have hP : va_P (dC, dI) vwCl (w_X12_door cy a0 gg gvn gdn) H := hP
    obtain ⟨hE1, hE2⟩ := exE_pass hE h
    exact vx_out (fun x9 hx9 => (htab x9 hx9).elim) hlocks hc1 hc2 hc3 (fun t h1 h2 => by rw [hxx]; exact ⟨_, hE2.symm, ⟨hE1, by rw [h1]; exact hP, va_K.moved h2 hK⟩, hS.F h1⟩) hS.2.2 (by decide) (by decide)
  obtain ⟨hw1, hw2⟩ := hw
  subst hw2
  rw [← hw1] at h
  dsimp only [xb] at h
  have hP : va_P (dC, dI) vwCl (w_X12_door cy a0 gg gvn gdn) H := hP
  have hD : va_D A (w_X12_door cy a0 gg gvn gdn) := hD
  refine lv_iload_n hx hb dX12_door_5 rfl (lv_at hl 2 rfl) ?_
  by_cases c3 : x2 = (0 : Int32)
  · rw [if_pos c3] at h
    refine lv_tableIn (off := 26) (tgt := 32) hx hb dX12_door_6 (by rw [c3]; decide) (by rw [c3]; decide) (by rw [c3]; decide) (by decide) ?_
    refine lv_aload_n hx hb dX12_door_32 rfl (lv_at hl 0 rfl) ?_
    refine va_get (D := (dC, dI)) (ci := 10) (v := .ref (a0 2)) (C := RX12) (T := TX12) (N := 17) hx hb hts in_X12 hown hK hP 0 rfl rfl 6 (by decide) lk0 (fun _ h9 => h9) rfl dX12_door_33 ?_
    refine va_get (D := (dC, dI)) (ci := 7) (v := .ref (a0 3)) (C := RX9) (T := TX9) (N := 9) hx hb hts in_X9 hown hK hP 1 rfl rfl 2 (by decide) lk1 (fun _ h9 => h9) rfl dX12_door_36 ?_
    refine lv_iload_n hx hb dX12_door_39 rfl (lv_at hl 1 rfl) ?_
    obtain ⟨v4, hv5, h⟩ := ok_bind h
    refine cl_vi (w2 := fun (_ : Unit) => w_X12_door cy a0 gg gvn gdn) (As := [.int x1]) (rest := []) ⟨hx, hb, hml, hown, hts⟩ (c_X4_debtorOf l dC dI cy (fun k => a0 (k + 3)) gdn x1 H.size v4 hv5) (cwV 1 hts gX12_door_X4_debtorOf rfl rfl rfl (by decide +kernel) ⟨Nat.le_of_ble_eq_true rfl, Nat.le_of_ble_eq_true rfl⟩) (va_recv hK hP (ci := 2) (q0 := 2) rfl rfl) cl_blind (cl_pre hK hP hD [2, 3, 4, 5, 6] (by decide) rfl) hP hD hS hA [2, 3, 4, 5, 6] rfl rfl hl.1 rfl (lv_room (Nat.le_of_ble_eq_true rfl)) dX12_door_40 ⟨Nat.le_of_ble_eq_true rfl, Nat.le_of_ble_eq_true rfl⟩ ⟨rfl, rfl⟩ (fun _ => updR [2, 3, 4, 5, 6] rfl) (fun r u H locs hw hP hD hS => ?_)
    have hw := hw.symm
    subst hw
    have hP : va_P (dC, dI) vwCl (w_X12_door cy a0 gg gvn gdn) H := hP
    have hD : va_D A (w_X12_door cy a0 gg gvn gdn) := hD
    refine vx_ret ?_
    refine W.widen (k := 2) (n := 12) (by decide) (by decide) ?_
    exact W.iret (v := v4) hx hb hr (fun t ht hW => by rw [hqq]; have hh := Option.some.inj h; exact ⟨⟨v4, (()), rfl, ⟨fst_of hh, snd_of hh⟩, by rw [ht]; exact hP, va_K.moved hW.alike hK⟩, hS.F ht⟩) hS.2.2 dX12_door_43
  rw [if_neg c3] at h
  by_cases c6 : x2 = (1 : Int32)
  · rw [if_pos c6] at h
    refine lv_tableIn (off := 38) (tgt := 44) hx hb dX12_door_6 (by rw [c6]; decide) (by rw [c6]; decide) (by rw [c6]; decide) (by decide) ?_
    refine lv_aload_n hx hb dX12_door_44 rfl (lv_at hl 0 rfl) ?_
    refine va_get (D := (dC, dI)) (ci := 10) (v := .ref (a0 2)) (C := RX12) (T := TX12) (N := 17) hx hb hts in_X12 hown hK hP 0 rfl rfl 6 (by decide) lk0 (fun _ h9 => h9) rfl dX12_door_45 ?_
    refine va_get (D := (dC, dI)) (ci := 7) (v := .ref (a0 3)) (C := RX9) (T := TX9) (N := 9) hx hb hts in_X9 hown hK hP 1 rfl rfl 2 (by decide) lk1 (fun _ h9 => h9) rfl dX12_door_48 ?_
    refine lv_iload_n hx hb dX12_door_51 rfl (lv_at hl 1 rfl) ?_
    obtain ⟨v7, hv8, h⟩ := ok_bind h
    refine cl_vi (w2 := fun (_ : Unit) => w_X12_door cy a0 gg gvn gdn) (As := [.int x1]) (rest := []) ⟨hx, hb, hml, hown, hts⟩ (c_X4_lenderOf l dC dI cy (fun k => a0 (k + 3)) gdn x1 H.size v7 hv8) (cwV 1 hts gX12_door_X4_lenderOf rfl rfl rfl (by decide +kernel) ⟨Nat.le_of_ble_eq_true rfl, Nat.le_of_ble_eq_true rfl⟩) (va_recv hK hP (ci := 2) (q0 := 2) rfl rfl) cl_blind (cl_pre hK hP hD [2, 3, 4, 5, 6] (by decide) rfl) hP hD hS hA [2, 3, 4, 5, 6] rfl rfl hl.1 rfl (lv_room (Nat.le_of_ble_eq_true rfl)) dX12_door_52 ⟨Nat.le_of_ble_eq_true rfl, Nat.le_of_ble_eq_true rfl⟩ ⟨rfl, rfl⟩ (fun _ => updR [2, 3, 4, 5, 6] rfl) (fun r u H locs hw hP hD hS => ?_)
    have hw := hw.symm
    subst hw
    have hP : va_P (dC, dI) vwCl (w_X12_door cy a0 gg gvn gdn) H := hP
    have hD : va_D A (w_X12_door cy a0 gg gvn gdn) := hD
    refine vx_ret ?_
    refine W.widen (k := 2) (n := 12) (by decide) (by decide) ?_
    exact W.iret (v := v7) hx hb hr (fun t ht hW => by rw [hqq]; have hh := Option.some.inj h; exact ⟨⟨v7, (()), rfl, ⟨fst_of hh, snd_of hh⟩, by rw [ht]; exact hP, va_K.moved hW.alike hK⟩, hS.F ht⟩) hS.2.2 dX12_door_55
  rw [if_neg c6] at h
  by_cases c9 : x2 = (2 : Int32)
  · rw [if_pos c9] at h
    refine lv_tableIn (off := 50) (tgt := 56) hx hb dX12_door_6 (by rw [c9]; decide) (by rw [c9]; decide) (by rw [c9]; decide) (by decide) ?_
    refine lv_aload_n hx hb dX12_door_56 rfl (lv_at hl 0 rfl) ?_
    refine va_get (D := (dC, dI)) (ci := 10) (v := .ref (a0 2)) (C := RX12) (T := TX12) (N := 17) hx hb hts in_X12 hown hK hP 0 rfl rfl 6 (by decide) lk0 (fun _ h9 => h9) rfl dX12_door_57 ?_
    refine va_get (D := (dC, dI)) (ci := 7) (v := .ref (a0 3)) (C := RX9) (T := TX9) (N := 9) hx hb hts in_X9 hown hK hP 1 rfl rfl 2 (by decide) lk1 (fun _ h9 => h9) rfl dX12_door_60 ?_
    refine lv_iload_n hx hb dX12_door_63 rfl (lv_at hl 1 rfl) ?_
    obtain ⟨v10, hv11, h⟩ := ok_bind h
    refine cl_vi (w2 := fun (_ : Unit) => w_X12_door cy a0 gg gvn gdn) (As := [.int x1]) (rest := []) ⟨hx, hb, hml, hown, hts⟩ (c_X4_lengthOf l dC dI cy (fun k => a0 (k + 3)) gdn x1 H.size v10 hv11) (cwV 1 hts gX12_door_X4_lengthOf rfl rfl rfl (by decide +kernel) ⟨Nat.le_of_ble_eq_true rfl, Nat.le_of_ble_eq_true rfl⟩) (va_recv hK hP (ci := 2) (q0 := 2) rfl rfl) cl_blind (cl_pre hK hP hD [2, 3, 4, 5, 6] (by decide) rfl) hP hD hS hA [2, 3, 4, 5, 6] rfl rfl hl.1 rfl (lv_room (Nat.le_of_ble_eq_true rfl)) dX12_door_64 ⟨Nat.le_of_ble_eq_true rfl, Nat.le_of_ble_eq_true rfl⟩ ⟨rfl, rfl⟩ (fun _ => updR [2, 3, 4, 5, 6] rfl) (fun r u H locs hw hP hD hS => ?_)
    have hw := hw.symm
    subst hw
    have hP : va_P (dC, dI) vwCl (w_X12_door cy a0 gg gvn gdn) H := hP
    have hD : va_D A (w_X12_door cy a0 gg gvn gdn) := hD
    refine vx_ret ?_
    refine W.widen (k := 2) (n := 12) (by decide) (by decide) ?_
    exact W.iret (v := v10) hx hb hr (fun t ht hW => by rw [hqq]; have hh := Option.some.inj h; exact ⟨⟨v10, (()), rfl, ⟨fst_of hh, snd_of hh⟩, by rw [ht]; exact hP, va_K.moved hW.alike hK⟩, hS.F ht⟩) hS.2.2 dX12_door_67
  rw [if_neg c9] at h
  refine lv_tableOut (tgt := 68) hx hb dX12_door_6 (tab_out (fun k h1 h2 e => by rcases (show k = 0 ∨ k = 1 ∨ k = 2 by omega) with rfl | rfl | rfl <;> first | exact c3 (Int32.toInt_inj.mp (e.trans (by decide))) | exact c6 (Int32.toInt_inj.mp (e.trans (by decide))) | exact c9 (Int32.toInt_inj.mp (e.trans (by decide))))) (by decide) ?_
  refine lv_aload_n hx hb dX12_door_68 rfl (lv_at hl 0 rfl) ?_
  refine lv_iload_n hx hb dX12_door_69 rfl (lv_at hl 1 rfl) ?_
  refine lv_iload_n hx hb dX12_door_70 rfl (lv_at hl 2 rfl) ?_
  refine lv_bipush (v := (10 : Int32)) hx hb dX12_door_71 (by decide) ?_
  refine lv_isub hx hb dX12_door_73 ?_
  obtain ⟨v12, hv13, h⟩ := ok_bind h
  refine cx_vi (w2 := fun (_ : Unit) => w_X12_door cy a0 gg gvn gdn) (w2x := fun (_ : Unit) => w_X12_door cy a0 gg gvn gdn) (As := [.int x1, .int (x2 - (10 : Int32))]) (rest := []) ⟨hx, hb, hml, hown, hts⟩ (c_X12_figureOf l dC dI cy z hl9 a0 gg gvn gdn x1 (x2 - (10 : Int32)) H.size v12 hv13) (cwV 2 hts gX12_door_X12_figureOf rfl rfl rfl (by decide +kernel) ⟨Nat.le_of_ble_eq_true rfl, Nat.le_of_ble_eq_true rfl⟩) (va_recv hK hP (ci := 10) (q0 := 0) rfl rfl) cl_blindS (cl_preS hK hP hD hS hA hX [0, 1, 2, 3, 4, 5, 6] (by decide) rfl) hP hD hS hA [0, 1, 2, 3, 4, 5, 6] rfl rfl hl.1 rfl (lv_room (Nat.le_of_ble_eq_true rfl)) dX12_door_74 ⟨Nat.le_of_ble_eq_true rfl, Nat.le_of_ble_eq_true rfl⟩ (cells' := 2) (slots' := 12) ⟨rfl, rfl⟩ (fun _ => updR [0, 1, 2, 3, 4, 5, 6] rfl) (fun _ => updR [0, 1, 2, 3, 4, 5, 6] rfl) (fun E ce q9 u H locs hw hE hP hD hS hc1 hc2 hc3 => ?_) (fun r14 u H locs hw hP hD hS => ?_)
  · subst hw
    have hP : va_P (dC, dI) vwCl (w_X12_door cy a0 gg gvn gdn) H := hP
    obtain ⟨hE1, hE2⟩ := exE_pass hE h
    exact vx_out (fun x9 hx9 => (htab x9 hx9).elim) hlocks hc1 hc2 hc3 (fun t h1 h2 => by rw [hxx]; exact ⟨_, hE2.symm, ⟨hE1, by rw [h1]; exact hP, va_K.moved h2 hK⟩, hS.F h1⟩) hS.2.2 (by decide) (by decide)
  obtain ⟨hw1, hw2⟩ := hw
  subst hw2
  rw [← hw1] at h
  dsimp only [xb] at h
  have hP : va_P (dC, dI) vwCl (w_X12_door cy a0 gg gvn gdn) H := hP
  have hD : va_D A (w_X12_door cy a0 gg gvn gdn) := hD
  refine vx_ret ?_
  exact W.iret (v := r14) hx hb hr (fun t ht hW => by rw [hqq]; have hh := Option.some.inj h; exact ⟨⟨r14, (()), rfl, ⟨fst_of hh, snd_of hh⟩, by rw [ht]; exact hP, va_K.moved hW.alike hK⟩, hS.F ht⟩) hS.2.2 dX12_door_77

abbrev w_X12_worth (cy : Nat → ClassId) (a0 : Nat → Nat) (gg : Int32 × Int32 × Int32 × Int32 × Int32 × Int32) (gvn : Int32 × Int32 × (Nat → Int32) × (Nat → Int32) × (Nat → Int32) × (Nat → Int32) × (Nat → Int32)) (gdn : Int32 × Int32 × (Nat → Int32) × (Nat → Int32) × (Nat → Int32) × (Nat → Int32)) : va_W := [(a0 0, .inr (10, [.ref (a0 1), .int (gg.1), .int (gg.2.1), .int (gg.2.2.1), .int (gg.2.2.2.1), .int (gg.2.2.2.2.1), .ref (a0 2), .ref (a0 17), .ref (a0 32), .int (gg.2.2.2.2.2), .ref (a0 47), .ref (a0 48), .ref (a0 49), .ref (a0 50), .ref (a0 68), .ref (a0 78), .ref (a0 80)])), (a0 2, .inr (7, [.int (gvn.1), .int (gvn.2.1), .ref (a0 3), .ref (a0 8), .ref (a0 12), .ref (a0 13), .ref (a0 14), .ref (a0 15), .ref (a0 16)])), (a0 3, .inr (2, [.int (gdn.1), .int (gdn.2.1), .ref (a0 4), .ref (a0 5), .ref (a0 6), .ref (a0 7)])), (a0 4, .inl (cy 1, 10, .inl (gdn.2.2.1))), (a0 5, .inl (cy 1, 10, .inl (gdn.2.2.2.1))), (a0 6, .inl (cy 1, 10, .inl (gdn.2.2.2.2.1))), (a0 7, .inl (cy 1, 50, .inl (gdn.2.2.2.2.2)))]
abbrev rm_X12_worth : Room := { frames := 7, cells := 2, slots := 12, locals := 111 }
set_option maxHeartbeats 1000000 in
set_option maxRecDepth 100000 in
theorem c_X12_worth (l : Launch) (dC : Nat → ClassId) (dI : Nat → Nat → Nat) (cy : Nat → ClassId) (z : Nat → Nat) (hl9 : l.stackTraces = false) (a0 : Nat → Nat) (gg : Int32 × Int32 × Int32 × Int32 × Int32 × Int32) (gvn : Int32 × Int32 × (Nat → Int32) × (Nat → Int32) × (Nat → Int32) × (Nat → Int32) × (Nat → Int32)) (gdn : Int32 × Int32 × (Nat → Int32) × (Nat → Int32) × (Nat → Int32) × (Nat → Int32)) (x1 : Int32) (x2 : Int32) (sz : Nat) (R0 : (Int32 ⊕ Nat) × (Unit)) (h : p_X12_worth gdn x1 x2 = some R0) : vx_Met l yX12_worth wsX12_worth rm_X12_worth (va_Pc [.ref (a0 0), .int x1, .int x2] (prS dC dI cy z (w_X12_worth cy a0 gg gvn gdn) sz)) (va_Qi (fun (r : Int32) (u : Unit) => Sum.inl r = R0.1 ∧ u = R0.2) (fun (_ : Unit) t => poC dC dI cy (w_X12_worth cy a0 gg gvn gdn) t) (va_A (w_X12_worth cy a0 gg gvn gdn) sz)) (vx_X (fun (u : Unit) => u = R0.2) (fun E (_ : Unit) t => exE E R0.1 ∧ poC dC dI cy (w_X12_worth cy a0 gg gvn gdn) t) (va_A (w_X12_worth cy a0 gg gvn gdn) sz)) 2 12 (va_A (w_X12_worth cy a0 gg gvn gdn) sz) := by
  refine vx_ofW (cc := cX12_worth) (maxL := 3) (ret := (some .int)) (by decide) rfl ?_
  intro p e s m aa below meth c s₁ B hml htab hv
  obtain ⟨haa, ⟨hsz, hP, hK, hD0⟩, hX⟩ := hv
  have hx := B.exec
  have hb := B.bytes
  have hr := B.returns
  have hts := atoms_spec (ws := wsX12_worth) B.pre
  have hown : s.vm.findClass RX12 = some m.cls := findClass_of_methodNamed B.named
  have hlocks := B.notSynchronized
  subst hsz
  have hD := hD0.self (sz := s.heap.size)
  obtain ⟨qq, hqq⟩ : ∃ qq, qq = (va_Qi (fun (r : Int32) (u : Unit) => Sum.inl r = R0.1 ∧ u = R0.2) (fun (_ : Unit) t => poC dC dI cy (w_X12_worth cy a0 gg gvn gdn) t) (va_A (w_X12_worth cy a0 gg gvn gdn) s.heap.size)) := ⟨_, rfl⟩
  obtain ⟨xx, hxx⟩ : ∃ xx, xx = (vx_X (fun (u : Unit) => u = R0.2) (fun E (_ : Unit) t => exE E R0.1 ∧ poC dC dI cy (w_X12_worth cy a0 gg gvn gdn) t) (va_A (w_X12_worth cy a0 gg gvn gdn) s.heap.size)) := ⟨_, rfl⟩
  rw [← hqq, ← hxx]
  generalize hAe : va_A (w_X12_worth cy a0 gg gvn gdn) s.heap.size = A at hD hqq hxx hX ⊢
  have hA : ∀ q : Nat, s.heap.size ≤ q → A q := fun q h => by rw [← hAe]; exact Or.inr h
  have hS : va_S A s.heap s.heap [] := va_S.rf
  have hl := lv_entry ([.ref (a0 0), .int x1, .int x2]) (n := 3) (Nat.le_of_ble_eq_true rfl)
  have hE : entryFrame m aa 3 = F0 m 0 ((lg_sl ([.ref (a0 0), .int x1, .int x2]) ++ List.replicate (3 - (lg_sl ([.ref (a0 0), .int x1, .int x2])).length) Slot.unset).toArray) [] := by rw [haa]; exact lg_entry_eq m _ 3
  refine W.eq hE ?_
  generalize (lg_sl ([.ref (a0 0), .int x1, .int x2]) ++ List.replicate (3 - (lg_sl ([.ref (a0 0), .int x1, .int x2])).length) Slot.unset).toArray = ls at hl ⊢
  have hl : lv_has ls 3 [(0, .ref (a0 0)), (1, .int x1), (2, .int x2)] := hl
  change W p l e rm_X12_worth s m aa below meth c s.heap [] 0 0 (vx_MQ below qq xx aa s 2 12 A) (F0 m 0 ls [])
  have hS0 := hS
  have lk0 := hts (.fieldLink RX12 20 "GoatDoors" "now" "LGoatDoors$Village;") (by decide +kernel)
  have lk1 := hts (.fieldLink RX12 130 "GoatDoors$Village" "doors" "LGoatDoors$Doors;") (by decide +kernel)
  have in_X12 : ∀ w ∈ wsX120, w ∈ wsX12_worth := by decide +kernel
  have in_X9 : ∀ w ∈ wsX90, w ∈ wsX12_worth := by decide +kernel
  obtain ⟨H, hH⟩ : ∃ H : Heap, H = s.heap := ⟨_, rfl⟩
  obtain ⟨locs, hlocs⟩ : ∃ locs : List Loc, locs = [] := ⟨_, rfl⟩
  have hS : va_S A s.heap H locs := by rw [hH, hlocs]; exact hS
  rw [← hH] at hP
  suffices hg : W p l e rm_X12_worth s m aa below meth c H locs 0 0 (vx_MQ below qq xx aa s 2 12 A) (F0 m 0 ls []) by subst hH; subst hlocs; exact hg
  unfold p_X12_worth at h
  refine lv_aload_n hx hb dX12_worth_0 rfl (lv_at hl 0 rfl) ?_
  refine lv_iload_n hx hb dX12_worth_1 rfl (lv_at hl 1 rfl) ?_
  obtain ⟨v1, hv2, h⟩ := ok_bind h
  refine cx_vv (w2 := fun (_ : Unit) => w_X12_worth cy a0 gg gvn gdn) (w2x := fun (_ : Unit) => w_X12_worth cy a0 gg gvn gdn) (As := [.int x1]) (rest := []) ⟨hx, hb, hml, hown, hts⟩ (c_X12_needDoor l dC dI cy z hl9 a0 gg gvn gdn x1 H.size v1 hv2) (cwV 1 hts gX12_worth_X12_needDoor rfl rfl rfl (by decide +kernel) ⟨Nat.le_of_ble_eq_true rfl, Nat.le_of_ble_eq_true rfl⟩) (va_recv hK hP (ci := 10) (q0 := 0) rfl rfl) cl_blindS (cl_preS hK hP hD hS hA hX [0, 1, 2, 3, 4, 5, 6] (by decide) rfl) hP hD hS hA [0, 1, 2, 3, 4, 5, 6] rfl rfl hl.1 rfl (lv_room (Nat.le_of_ble_eq_true rfl)) dX12_worth_2 ⟨Nat.le_of_ble_eq_true rfl, Nat.le_of_ble_eq_true rfl⟩ (cells' := 1) (slots' := 6) ⟨rfl, rfl⟩ (fun _ => updR [0, 1, 2, 3, 4, 5, 6] rfl) (fun _ => updR [0, 1, 2, 3, 4, 5, 6] rfl) (fun E ce q9 u H locs hw hE hP hD hS hc1 hc2 hc3 => ?_) (fun u H locs hw hP hD hS => ?_)
  · subst hw
    have hP : va_P (dC, dI) vwCl (w_X12_worth cy a0 gg gvn gdn) H := hP
    obtain ⟨hE1, hE2⟩ := exE_pass hE h
    exact vx_out (fun x9 hx9 => (htab x9 hx9).elim) hlocks hc1 hc2 hc3 (fun t h1 h2 => by rw [hxx]; exact ⟨_, hE2.symm, ⟨hE1, by rw [h1]; exact hP, va_K.moved h2 hK⟩, hS.F h1⟩) hS.2.2 (by decide) (by decide)
  obtain ⟨hw1, hw2⟩ := hw
  subst hw2
  rw [← hw1] at h
  dsimp only [xb] at h
  have hP : va_P (dC, dI) vwCl (w_X12_worth cy a0 gg gvn gdn) H := hP
  have hD : va_D A (w_X12_worth cy a0 gg gvn gdn) := hD
  refine lv_iload_n hx hb dX12_worth_5 rfl (lv_at hl 2 rfl) ?_
  obtain ⟨v3, hv4, h⟩ := ok_bind h
  refine cx_sv (w2 := fun (_ : Unit) => w_X12_worth cy a0 gg gvn gdn) (w2x := fun (_ : Unit) => w_X12_worth cy a0 gg gvn gdn) (As := [.int x2]) (rest := []) ⟨hx, hb, hml, hown, hts⟩ (c_X12_needBase l dC dI cy z hl9  x2 H.size v3 hv4) (va_cwS 1 hts gX12_worth_X12_needBase rfl rfl rfl (by decide +kernel) ⟨Nat.le_of_ble_eq_true rfl, Nat.le_of_ble_eq_true rfl⟩) cl_blindS (cl_preS hK hP hD hS hA hX [] (by decide) rfl) hP hD hS hA [] rfl rfl hl.1 rfl (lv_room (Nat.le_of_ble_eq_true rfl)) dX12_worth_6 ⟨Nat.le_of_ble_eq_true rfl, Nat.le_of_ble_eq_true rfl⟩ (cells' := 2) (slots' := 12) ⟨rfl, rfl⟩ (fun _ => updR [] rfl) (fun _ => updR [] rfl) (fun E ce q9 u H locs hw hE hP hD hS hc1 hc2 hc3 => ?_) (fun u H locs hw hP hD hS => ?_)
  · subst hw
    have hP : va_P (dC, dI) vwCl (w_X12_worth cy a0 gg gvn gdn) H := hP
    obtain ⟨hE1, hE2⟩ := exE_pass hE h
    exact vx_out (fun x9 hx9 => (htab x9 hx9).elim) hlocks hc1 hc2 hc3 (fun t h1 h2 => by rw [hxx]; exact ⟨_, hE2.symm, ⟨hE1, by rw [h1]; exact hP, va_K.moved h2 hK⟩, hS.F h1⟩) hS.2.2 (by decide) (by decide)
  obtain ⟨hw1, hw2⟩ := hw
  subst hw2
  rw [← hw1] at h
  dsimp only [xb] at h
  have hP : va_P (dC, dI) vwCl (w_X12_worth cy a0 gg gvn gdn) H := hP
  have hD : va_D A (w_X12_worth cy a0 gg gvn gdn) := hD
  refine lv_aload_n hx hb dX12_worth_9 rfl (lv_at hl 0 rfl) ?_
  refine va_get (D := (dC, dI)) (ci := 10) (v := .ref (a0 2)) (C := RX12) (T := TX12) (N := 17) hx hb hts in_X12 hown hK hP 0 rfl rfl 6 (by decide) lk0 (fun _ h9 => h9) rfl dX12_worth_10 ?_
  refine va_get (D := (dC, dI)) (ci := 7) (v := .ref (a0 3)) (C := RX9) (T := TX9) (N := 9) hx hb hts in_X9 hown hK hP 1 rfl rfl 2 (by decide) lk1 (fun _ h9 => h9) rfl dX12_worth_13 ?_
  refine lv_iload_n hx hb dX12_worth_16 rfl (lv_at hl 1 rfl) ?_
  refine lv_iload_n hx hb dX12_worth_17 rfl (lv_at hl 2 rfl) ?_
  obtain ⟨v5, hv6, h⟩ := ok_bind h
  refine cl_vi (w2 := fun (_ : Unit) => w_X12_worth cy a0 gg gvn gdn) (As := [.int x1, .int x2]) (rest := []) ⟨hx, hb, hml, hown, hts⟩ (c_X4_worthIn l dC dI cy (fun k => a0 (k + 3)) gdn x1 x2 H.size v5 hv6) (cwV 2 hts gX12_worth_X4_worthIn rfl rfl rfl (by decide +kernel) ⟨Nat.le_of_ble_eq_true rfl, Nat.le_of_ble_eq_true rfl⟩) (va_recv hK hP (ci := 2) (q0 := 2) rfl rfl) cl_blind (cl_pre hK hP hD [2, 3, 4, 5, 6] (by decide) rfl) hP hD hS hA [2, 3, 4, 5, 6] rfl rfl hl.1 rfl (lv_room (Nat.le_of_ble_eq_true rfl)) dX12_worth_18 ⟨Nat.le_of_ble_eq_true rfl, Nat.le_of_ble_eq_true rfl⟩ ⟨rfl, rfl⟩ (fun _ => updR [2, 3, 4, 5, 6] rfl) (fun r u H locs hw hP hD hS => ?_)
  have hw := hw.symm
  subst hw
  have hP : va_P (dC, dI) vwCl (w_X12_worth cy a0 gg gvn gdn) H := hP
  have hD : va_D A (w_X12_worth cy a0 gg gvn gdn) := hD
  refine vx_ret ?_
  exact W.iret (v := v5) hx hb hr (fun t ht hW => by rw [hqq]; have hh := Option.some.inj h; exact ⟨⟨v5, (()), rfl, ⟨fst_of hh, snd_of hh⟩, by rw [ht]; exact hP, va_K.moved hW.alike hK⟩, hS.F ht⟩) hS.2.2 dX12_worth_21

abbrev w_X12_needWhat (cy : Nat → ClassId)   : va_W := []
abbrev rm_X12_needWhat : Room := { frames := 6, cells := 1, slots := 6, locals := 90 }
set_option maxHeartbeats 1000000 in
set_option maxRecDepth 100000 in
theorem c_X12_needWhat (l : Launch) (dC : Nat → ClassId) (dI : Nat → Nat → Nat) (cy : Nat → ClassId) (z : Nat → Nat) (hl9 : l.stackTraces = false)   (x0 : Int32) (x1 : Int32) (sz : Nat) (R0 : (Unit ⊕ Nat) × (Unit)) (h : p_X12_needWhat x0 x1 = some R0) : vx_Met l yX12_needWhat wsX12_needWhat rm_X12_needWhat (va_Pc [.int x0, .int x1] (prS dC dI cy z (w_X12_needWhat cy  ) sz)) (va_Qv (fun (u : Unit) => Sum.inl () = R0.1 ∧ u = R0.2) (fun (_ : Unit) t => poC dC dI cy (w_X12_needWhat cy  ) t) (va_A (w_X12_needWhat cy  ) sz)) (vx_X (fun (u : Unit) => u = R0.2) (fun E (_ : Unit) t => exE E R0.1 ∧ poC dC dI cy (w_X12_needWhat cy  ) t) (va_A (w_X12_needWhat cy  ) sz)) 1 6 (va_A (w_X12_needWhat cy  ) sz) := by
  refine vx_ofW (cc := cX12_needWhat) (maxL := 2) (ret := none) (by decide) rfl ?_
  intro p e s m aa below meth c s₁ B hml htab hv
  obtain ⟨haa, ⟨hsz, hP, hK, hD0⟩, hX⟩ := hv
  have hx := B.exec
  have hb := B.bytes
  have hr := B.returns
  have hts := atoms_spec (ws := wsX12_needWhat) B.pre
  have hown : s.vm.findClass RX12 = some m.cls := findClass_of_methodNamed B.named
  have hlocks := B.notSynchronized
  subst hsz
  have hD := hD0.self (sz := s.heap.size)
  obtain ⟨qq, hqq⟩ : ∃ qq, qq = (va_Qv (fun (u : Unit) => Sum.inl () = R0.1 ∧ u = R0.2) (fun (_ : Unit) t => poC dC dI cy (w_X12_needWhat cy  ) t) (va_A (w_X12_needWhat cy  ) s.heap.size)) := ⟨_, rfl⟩
  obtain ⟨xx, hxx⟩ : ∃ xx, xx = (vx_X (fun (u : Unit) => u = R0.2) (fun E (_ : Unit) t => exE E R0.1 ∧ poC dC dI cy (w_X12_needWhat cy  ) t) (va_A (w_X12_needWhat cy  ) s.heap.size)) := ⟨_, rfl⟩
  rw [← hqq, ← hxx]
  generalize hAe : va_A (w_X12_needWhat cy  ) s.heap.size = A at hD hqq hxx hX ⊢
  have hA : ∀ q : Nat, s.heap.size ≤ q → A q := fun q h => by rw [← hAe]; exact Or.inr h
  have hS : va_S A s.heap s.heap [] := va_S.rf
  have hl := lv_entry ([.int x0, .int x1]) (n := 2) (Nat.le_of_ble_eq_true rfl)
  have hE : entryFrame m aa 2 = F0 m 0 ((lg_sl ([.int x0, .int x1]) ++ List.replicate (2 - (lg_sl ([.int x0, .int x1])).length) Slot.unset).toArray) [] := by rw [haa]; exact lg_entry_eq m _ 2
  refine W.eq hE ?_
  generalize (lg_sl ([.int x0, .int x1]) ++ List.replicate (2 - (lg_sl ([.int x0, .int x1])).length) Slot.unset).toArray = ls at hl ⊢
  have hl : lv_has ls 2 [(0, .int x0), (1, .int x1)] := hl
  change W p l e rm_X12_needWhat s m aa below meth c s.heap [] 0 0 (vx_MQ below qq xx aa s 1 6 A) (F0 m 0 ls [])
  have hS0 := hS
  have lk0 := hts (.classLink RX12 161 "java/util/NoSuchElementException") (by decide +kernel)
  have lk1 := hts (.initialized "java/util/NoSuchElementException") (by decide +kernel)
  have gd165 : ∀ w ∈ (vx_atS RX12 165 "java/util/NoSuchElementException" ["java/lang/RuntimeException", "java/lang/Exception"]).filter goodWord, w.before aa s = true := fun w hw => hts w ((show ∀ w ∈ (vx_atS RX12 165 "java/util/NoSuchElementException" ["java/lang/RuntimeException", "java/lang/Exception"]).filter goodWord, w ∈ wsX12_needWhat by decide +kernel) w hw)
  obtain ⟨H, hH⟩ : ∃ H : Heap, H = s.heap := ⟨_, rfl⟩
  obtain ⟨locs, hlocs⟩ : ∃ locs : List Loc, locs = [] := ⟨_, rfl⟩
  have hS : va_S A s.heap H locs := by rw [hH, hlocs]; exact hS
  rw [← hH] at hP
  suffices hg : W p l e rm_X12_needWhat s m aa below meth c H locs 0 0 (vx_MQ below qq xx aa s 1 6 A) (F0 m 0 ls []) by subst hH; subst hlocs; exact hg
  unfold p_X12_needWhat at h
  refine lv_iload_n hx hb dX12_needWhat_0 rfl (lv_at hl 0 rfl) ?_
  refine lv_if_lt (tgt := 9) hx hb dX12_needWhat_1 (by decide) (fun c1 => ?_) (fun c1 => ?_)
  · rw [if_pos c1] at h
    refine vx_throwSW (XC := xx) (text := "nothing such is told") (names := ["java/lang/RuntimeException", "java/lang/Exception"]) hx hb hl9 hown (by decide) (by decide) lk0 lk1 (hX.tx 367 "nothing such is told" (by decide)) (ex_at165 gd165 hX) (by decide +kernel) hX.us hX.ss hS (by rw [hml]; exact hl.1) dX12_needWhat_9 dX12_needWhat_12 dX12_needWhat_13 dX12_needWhat_16 dX12_needWhat_19 (fun x9 hx9 => (htab x9 hx9).elim) (Nat.le_of_ble_eq_true rfl) (Nat.le_of_ble_eq_true rfl) (Nat.le_of_ble_eq_true rfl) (Nat.le_of_ble_eq_true rfl) hlocks (fun t h1 h2 h3 => by rw [hxx]; have hh := Option.some.inj h; exact ⟨(()), snd_of hh, ⟨exE_1 (fst_of hh).symm, ex_po hP hK h1 h3⟩, ex_F hS h2 h3⟩) hS.2.2 (by decide) (by decide)
  · rw [if_neg c1] at h
    refine lv_iload_n hx hb dX12_needWhat_4 rfl (lv_at hl 0 rfl) ?_
    refine lv_iload_n hx hb dX12_needWhat_5 rfl (lv_at hl 1 rfl) ?_
    refine lv_icmp_le (tgt := 20) hx hb dX12_needWhat_6 (by decide) (fun c2 => ?_) (fun c2 => ?_)
    · rw [if_pos c2] at h
      refine vx_ret ?_
      refine W.widen (k := 1) (n := 6) (by decide) (by decide) ?_
      exact W.vret hx hb hr (fun t ht hW => by rw [hqq]; have hh := Option.some.inj h; exact ⟨⟨(()), rfl, ⟨fst_of hh, snd_of hh⟩, by rw [ht]; exact hP, va_K.moved hW.alike hK⟩, hS.F ht⟩) hS.2.2 dX12_needWhat_20
    · rw [if_neg c2] at h
      refine vx_throwSW (XC := xx) (text := "nothing such is told") (names := ["java/lang/RuntimeException", "java/lang/Exception"]) hx hb hl9 hown (by decide) (by decide) lk0 lk1 (hX.tx 367 "nothing such is told" (by decide)) (ex_at165 gd165 hX) (by decide +kernel) hX.us hX.ss hS (by rw [hml]; exact hl.1) dX12_needWhat_9 dX12_needWhat_12 dX12_needWhat_13 dX12_needWhat_16 dX12_needWhat_19 (fun x9 hx9 => (htab x9 hx9).elim) (Nat.le_of_ble_eq_true rfl) (Nat.le_of_ble_eq_true rfl) (Nat.le_of_ble_eq_true rfl) (Nat.le_of_ble_eq_true rfl) hlocks (fun t h1 h2 h3 => by rw [hxx]; have hh := Option.some.inj h; exact ⟨(()), snd_of hh, ⟨exE_1 (fst_of hh).symm, ex_po hP hK h1 h3⟩, ex_F hS h2 h3⟩) hS.2.2 (by decide) (by decide)

abbrev w_X12_needBases (cy : Nat → ClassId)   : va_W := []
abbrev rm_X12_needBases : Room := { frames := 6, cells := 1, slots := 6, locals := 90 }
set_option maxHeartbeats 1000000 in
set_option maxRecDepth 100000 in
theorem c_X12_needBases (l : Launch) (dC : Nat → ClassId) (dI : Nat → Nat → Nat) (cy : Nat → ClassId) (z : Nat → Nat) (hl9 : l.stackTraces = false)   (x0 : Int32) (x1 : Int32) (sz : Nat) (R0 : (Unit ⊕ Nat) × (Unit)) (h : p_X12_needBases x0 x1 = some R0) : vx_Met l yX12_needBases wsX12_needBases rm_X12_needBases (va_Pc [.int x0, .int x1] (prS dC dI cy z (w_X12_needBases cy  ) sz)) (va_Qv (fun (u : Unit) => Sum.inl () = R0.1 ∧ u = R0.2) (fun (_ : Unit) t => poC dC dI cy (w_X12_needBases cy  ) t) (va_A (w_X12_needBases cy  ) sz)) (vx_X (fun (u : Unit) => u = R0.2) (fun E (_ : Unit) t => exE E R0.1 ∧ poC dC dI cy (w_X12_needBases cy  ) t) (va_A (w_X12_needBases cy  ) sz)) 1 6 (va_A (w_X12_needBases cy  ) sz) := by
  refine vx_ofW (cc := cX12_needBases) (maxL := 2) (ret := none) (by decide) rfl ?_
  intro p e s m aa below meth c s₁ B hml htab hv
  obtain ⟨haa, ⟨hsz, hP, hK, hD0⟩, hX⟩ := hv
  have hx := B.exec
  have hb := B.bytes
  have hr := B.returns
  have hts := atoms_spec (ws := wsX12_needBases) B.pre
  have hown : s.vm.findClass RX12 = some m.cls := findClass_of_methodNamed B.named
  have hlocks := B.notSynchronized
  subst hsz
  have hD := hD0.self (sz := s.heap.size)
  obtain ⟨qq, hqq⟩ : ∃ qq, qq = (va_Qv (fun (u : Unit) => Sum.inl () = R0.1 ∧ u = R0.2) (fun (_ : Unit) t => poC dC dI cy (w_X12_needBases cy  ) t) (va_A (w_X12_needBases cy  ) s.heap.size)) := ⟨_, rfl⟩
  obtain ⟨xx, hxx⟩ : ∃ xx, xx = (vx_X (fun (u : Unit) => u = R0.2) (fun E (_ : Unit) t => exE E R0.1 ∧ poC dC dI cy (w_X12_needBases cy  ) t) (va_A (w_X12_needBases cy  ) s.heap.size)) := ⟨_, rfl⟩
  rw [← hqq, ← hxx]
  generalize hAe : va_A (w_X12_needBases cy  ) s.heap.size = A at hD hqq hxx hX ⊢
  have hA : ∀ q : Nat, s.heap.size ≤ q → A q := fun q h => by rw [← hAe]; exact Or.inr h
  have hS : va_S A s.heap s.heap [] := va_S.rf
  have hl := lv_entry ([.int x0, .int x1]) (n := 2) (Nat.le_of_ble_eq_true rfl)
  have hE : entryFrame m aa 2 = F0 m 0 ((lg_sl ([.int x0, .int x1]) ++ List.replicate (2 - (lg_sl ([.int x0, .int x1])).length) Slot.unset).toArray) [] := by rw [haa]; exact lg_entry_eq m _ 2
  refine W.eq hE ?_
  generalize (lg_sl ([.int x0, .int x1]) ++ List.replicate (2 - (lg_sl ([.int x0, .int x1])).length) Slot.unset).toArray = ls at hl ⊢
  have hl : lv_has ls 2 [(0, .int x0), (1, .int x1)] := hl
  change W p l e rm_X12_needBases s m aa below meth c s.heap [] 0 0 (vx_MQ below qq xx aa s 1 6 A) (F0 m 0 ls [])
  have hS0 := hS
  have lk0 := hts (.classLink RX12 252 "java/lang/IllegalArgumentException") (by decide +kernel)
  have lk1 := hts (.initialized "java/lang/IllegalArgumentException") (by decide +kernel)
  have gd256 : ∀ w ∈ (vx_atS RX12 256 "java/lang/IllegalArgumentException" ["java/lang/RuntimeException", "java/lang/Exception"]).filter goodWord, w.before aa s = true := fun w hw => hts w ((show ∀ w ∈ (vx_atS RX12 256 "java/lang/IllegalArgumentException" ["java/lang/RuntimeException", "java/lang/Exception"]).filter goodWord, w ∈ wsX12_needBases by decide +kernel) w hw)
  obtain ⟨H, hH⟩ : ∃ H : Heap, H = s.heap := ⟨_, rfl⟩
  obtain ⟨locs, hlocs⟩ : ∃ locs : List Loc, locs = [] := ⟨_, rfl⟩
  have hS : va_S A s.heap H locs := by rw [hH, hlocs]; exact hS
  rw [← hH] at hP
  suffices hg : W p l e rm_X12_needBases s m aa below meth c H locs 0 0 (vx_MQ below qq xx aa s 1 6 A) (F0 m 0 ls []) by subst hH; subst hlocs; exact hg
  unfold p_X12_needBases at h
  refine lv_iload_n hx hb dX12_needBases_0 rfl (lv_at hl 0 rfl) ?_
  refine lv_if_lt (tgt := 15) hx hb dX12_needBases_1 (by decide) (fun c1 => ?_) (fun c1 => ?_)
  · rw [if_pos c1] at h
    refine vx_throwSW (XC := xx) (text := "no such bases") (names := ["java/lang/RuntimeException", "java/lang/Exception"]) hx hb hl9 hown (by decide) (by decide) lk0 lk1 (hX.tx 257 "no such bases" (by decide)) (ex_at256 gd256 hX) (by decide +kernel) hX.us hX.ss hS (by rw [hml]; exact hl.1) dX12_needBases_15 dX12_needBases_18 dX12_needBases_19 dX12_needBases_22 dX12_needBases_25 (fun x9 hx9 => (htab x9 hx9).elim) (Nat.le_of_ble_eq_true rfl) (Nat.le_of_ble_eq_true rfl) (Nat.le_of_ble_eq_true rfl) (Nat.le_of_ble_eq_true rfl) hlocks (fun t h1 h2 h3 => by rw [hxx]; have hh := Option.some.inj h; exact ⟨(()), snd_of hh, ⟨exE_2 (fst_of hh).symm, ex_po hP hK h1 h3⟩, ex_F hS h2 h3⟩) hS.2.2 (by decide) (by decide)
  · rw [if_neg c1] at h
    refine lv_iload_n hx hb dX12_needBases_4 rfl (lv_at hl 1 rfl) ?_
    refine lv_bipush (v := (40 : Int32)) hx hb dX12_needBases_5 (by decide) ?_
    refine lv_icmp_gt (tgt := 15) hx hb dX12_needBases_7 (by decide) (fun c2 => ?_) (fun c2 => ?_)
    · rw [if_pos c2] at h
      refine vx_throwSW (XC := xx) (text := "no such bases") (names := ["java/lang/RuntimeException", "java/lang/Exception"]) hx hb hl9 hown (by decide) (by decide) lk0 lk1 (hX.tx 257 "no such bases" (by decide)) (ex_at256 gd256 hX) (by decide +kernel) hX.us hX.ss hS (by rw [hml]; exact hl.1) dX12_needBases_15 dX12_needBases_18 dX12_needBases_19 dX12_needBases_22 dX12_needBases_25 (fun x9 hx9 => (htab x9 hx9).elim) (Nat.le_of_ble_eq_true rfl) (Nat.le_of_ble_eq_true rfl) (Nat.le_of_ble_eq_true rfl) (Nat.le_of_ble_eq_true rfl) hlocks (fun t h1 h2 h3 => by rw [hxx]; have hh := Option.some.inj h; exact ⟨(()), snd_of hh, ⟨exE_2 (fst_of hh).symm, ex_po hP hK h1 h3⟩, ex_F hS h2 h3⟩) hS.2.2 (by decide) (by decide)
    · rw [if_neg c2] at h
      refine lv_iload_n hx hb dX12_needBases_10 rfl (lv_at hl 0 rfl) ?_
      refine lv_iload_n hx hb dX12_needBases_11 rfl (lv_at hl 1 rfl) ?_
      refine lv_icmp_le (tgt := 26) hx hb dX12_needBases_12 (by decide) (fun c3 => ?_) (fun c3 => ?_)
      · rw [if_pos c3] at h
        refine vx_ret ?_
        refine W.widen (k := 1) (n := 6) (by decide) (by decide) ?_
        exact W.vret hx hb hr (fun t ht hW => by rw [hqq]; have hh := Option.some.inj h; exact ⟨⟨(()), rfl, ⟨fst_of hh, snd_of hh⟩, by rw [ht]; exact hP, va_K.moved hW.alike hK⟩, hS.F ht⟩) hS.2.2 dX12_needBases_26
      · rw [if_neg c3] at h
        refine vx_throwSW (XC := xx) (text := "no such bases") (names := ["java/lang/RuntimeException", "java/lang/Exception"]) hx hb hl9 hown (by decide) (by decide) lk0 lk1 (hX.tx 257 "no such bases" (by decide)) (ex_at256 gd256 hX) (by decide +kernel) hX.us hX.ss hS (by rw [hml]; exact hl.1) dX12_needBases_15 dX12_needBases_18 dX12_needBases_19 dX12_needBases_22 dX12_needBases_25 (fun x9 hx9 => (htab x9 hx9).elim) (Nat.le_of_ble_eq_true rfl) (Nat.le_of_ble_eq_true rfl) (Nat.le_of_ble_eq_true rfl) (Nat.le_of_ble_eq_true rfl) hlocks (fun t h1 h2 h3 => by rw [hxx]; have hh := Option.some.inj h; exact ⟨(()), snd_of hh, ⟨exE_2 (fst_of hh).symm, ex_po hP hK h1 h3⟩, ex_F hS h2 h3⟩) hS.2.2 (by decide) (by decide)

abbrev w_X12_owner (cy : Nat → ClassId) (a0 : Nat → Nat) (gg : Int32 × Int32 × Int32 × Int32 × Int32 × Int32) (gvn : Int32 × Int32 × (Nat → Int32) × (Nat → Int32) × (Nat → Int32) × (Nat → Int32) × (Nat → Int32)) (gdn : Int32 × Int32 × (Nat → Int32) × (Nat → Int32) × (Nat → Int32) × (Nat → Int32)) : va_W := [(a0 0, .inr (10, [.ref (a0 1), .int (gg.1), .int (gg.2.1), .int (gg.2.2.1), .int (gg.2.2.2.1), .int (gg.2.2.2.2.1), .ref (a0 2), .ref (a0 17), .ref (a0 32), .int (gg.2.2.2.2.2), .ref (a0 47), .ref (a0 48), .ref (a0 49), .ref (a0 50), .ref (a0 68), .ref (a0 78), .ref (a0 80)])), (a0 2, .inr (7, [.int (gvn.1), .int (gvn.2.1), .ref (a0 3), .ref (a0 8), .ref (a0 12), .ref (a0 13), .ref (a0 14), .ref (a0 15), .ref (a0 16)])), (a0 3, .inr (2, [.int (gdn.1), .int (gdn.2.1), .ref (a0 4), .ref (a0 5), .ref (a0 6), .ref (a0 7)])), (a0 4, .inl (cy 1, 10, .inl (gdn.2.2.1))), (a0 5, .inl (cy 1, 10, .inl (gdn.2.2.2.1))), (a0 6, .inl (cy 1, 10, .inl (gdn.2.2.2.2.1))), (a0 7, .inl (cy 1, 50, .inl (gdn.2.2.2.2.2))), (a0 12, .inl (cy 1, 5, .inl (gvn.2.2.1))), (a0 13, .inl (cy 1, 5, .inl (gvn.2.2.2.1))), (a0 14, .inl (cy 1, 5, .inl (gvn.2.2.2.2.1))), (a0 15, .inl (cy 1, 5, .inl (gvn.2.2.2.2.2.1))), (a0 16, .inl (cy 1, 5, .inl (gvn.2.2.2.2.2.2)))]
abbrev rm_X12_owner : Room := { frames := 7, cells := 2, slots := 12, locals := 140 }
set_option maxHeartbeats 1000000 in
set_option maxRecDepth 100000 in
theorem c_X12_owner (l : Launch) (dC : Nat → ClassId) (dI : Nat → Nat → Nat) (cy : Nat → ClassId) (z : Nat → Nat) (hl9 : l.stackTraces = false) (a0 : Nat → Nat) (gg : Int32 × Int32 × Int32 × Int32 × Int32 × Int32) (gvn : Int32 × Int32 × (Nat → Int32) × (Nat → Int32) × (Nat → Int32) × (Nat → Int32) × (Nat → Int32)) (gdn : Int32 × Int32 × (Nat → Int32) × (Nat → Int32) × (Nat → Int32) × (Nat → Int32)) (x1 : Int32) (x2 : Int32) (sz : Nat) (R0 : (Int32 ⊕ Nat) × (Unit)) (h : p_X12_owner gvn gdn x1 x2 = some R0) : vx_Met l yX12_owner wsX12_owner rm_X12_owner (va_Pc [.ref (a0 0), .int x1, .int x2] (prS dC dI cy z (w_X12_owner cy a0 gg gvn gdn) sz)) (va_Qi (fun (r : Int32) (u : Unit) => Sum.inl r = R0.1 ∧ u = R0.2) (fun (_ : Unit) t => poC dC dI cy (w_X12_owner cy a0 gg gvn gdn) t) (va_A (w_X12_owner cy a0 gg gvn gdn) sz)) (vx_X (fun (u : Unit) => u = R0.2) (fun E (_ : Unit) t => exE E R0.1 ∧ poC dC dI cy (w_X12_owner cy a0 gg gvn gdn) t) (va_A (w_X12_owner cy a0 gg gvn gdn) sz)) 2 12 (va_A (w_X12_owner cy a0 gg gvn gdn) sz) := by
  refine vx_ofW (cc := cX12_owner) (maxL := 3) (ret := (some .int)) (by decide) rfl ?_
  intro p e s m aa below meth c s₁ B hml htab hv
  obtain ⟨haa, ⟨hsz, hP, hK, hD0⟩, hX⟩ := hv
  have hx := B.exec
  have hb := B.bytes
  have hr := B.returns
  have hts := atoms_spec (ws := wsX12_owner) B.pre
  have hown : s.vm.findClass RX12 = some m.cls := findClass_of_methodNamed B.named
  have hlocks := B.notSynchronized
  subst hsz
  have hD := hD0.self (sz := s.heap.size)
  obtain ⟨qq, hqq⟩ : ∃ qq, qq = (va_Qi (fun (r : Int32) (u : Unit) => Sum.inl r = R0.1 ∧ u = R0.2) (fun (_ : Unit) t => poC dC dI cy (w_X12_owner cy a0 gg gvn gdn) t) (va_A (w_X12_owner cy a0 gg gvn gdn) s.heap.size)) := ⟨_, rfl⟩
  obtain ⟨xx, hxx⟩ : ∃ xx, xx = (vx_X (fun (u : Unit) => u = R0.2) (fun E (_ : Unit) t => exE E R0.1 ∧ poC dC dI cy (w_X12_owner cy a0 gg gvn gdn) t) (va_A (w_X12_owner cy a0 gg gvn gdn) s.heap.size)) := ⟨_, rfl⟩
  rw [← hqq, ← hxx]
  generalize hAe : va_A (w_X12_owner cy a0 gg gvn gdn) s.heap.size = A at hD hqq hxx hX ⊢
  have hA : ∀ q : Nat, s.heap.size ≤ q → A q := fun q h => by rw [← hAe]; exact Or.inr h
  have hS : va_S A s.heap s.heap [] := va_S.rf
  have hl := lv_entry ([.ref (a0 0), .int x1, .int x2]) (n := 3) (Nat.le_of_ble_eq_true rfl)
  have hE : entryFrame m aa 3 = F0 m 0 ((lg_sl ([.ref (a0 0), .int x1, .int x2]) ++ List.replicate (3 - (lg_sl ([.ref (a0 0), .int x1, .int x2])).length) Slot.unset).toArray) [] := by rw [haa]; exact lg_entry_eq m _ 3
  refine W.eq hE ?_
  generalize (lg_sl ([.ref (a0 0), .int x1, .int x2]) ++ List.replicate (3 - (lg_sl ([.ref (a0 0), .int x1, .int x2])).length) Slot.unset).toArray = ls at hl ⊢
  have hl : lv_has ls 3 [(0, .ref (a0 0)), (1, .int x1), (2, .int x2)] := hl
  change W p l e rm_X12_owner s m aa below meth c s.heap [] 0 0 (vx_MQ below qq xx aa s 2 12 A) (F0 m 0 ls [])
  have hS0 := hS
  have lk0 := hts (.fieldLink RX12 20 "GoatDoors" "now" "LGoatDoors$Village;") (by decide +kernel)
  have lk1 := hts (.fieldLink RX12 130 "GoatDoors$Village" "doors" "LGoatDoors$Doors;") (by decide +kernel)
  have lk2 := hts (.fieldLink RX12 142 "GoatDoors$Village" "base" "I") (by decide +kernel)
  have lk3 := hts (.classLink RX12 161 "java/util/NoSuchElementException") (by decide +kernel)
  have lk4 := hts (.initialized "java/util/NoSuchElementException") (by decide +kernel)
  have in_X12 : ∀ w ∈ wsX120, w ∈ wsX12_owner := by decide +kernel
  have in_X9 : ∀ w ∈ wsX90, w ∈ wsX12_owner := by decide +kernel
  have gd165 : ∀ w ∈ (vx_atS RX12 165 "java/util/NoSuchElementException" ["java/lang/RuntimeException", "java/lang/Exception"]).filter goodWord, w.before aa s = true := fun w hw => hts w ((show ∀ w ∈ (vx_atS RX12 165 "java/util/NoSuchElementException" ["java/lang/RuntimeException", "java/lang/Exception"]).filter goodWord, w ∈ wsX12_owner by decide +kernel) w hw)
  obtain ⟨H, hH⟩ : ∃ H : Heap, H = s.heap := ⟨_, rfl⟩
  obtain ⟨locs, hlocs⟩ : ∃ locs : List Loc, locs = [] := ⟨_, rfl⟩
  have hS : va_S A s.heap H locs := by rw [hH, hlocs]; exact hS
  rw [← hH] at hP
  suffices hg : W p l e rm_X12_owner s m aa below meth c H locs 0 0 (vx_MQ below qq xx aa s 2 12 A) (F0 m 0 ls []) by subst hH; subst hlocs; exact hg
  unfold p_X12_owner at h
  refine lv_aload_n hx hb dX12_owner_0 rfl (lv_at hl 0 rfl) ?_
  refine lv_iload_n hx hb dX12_owner_1 rfl (lv_at hl 1 rfl) ?_
  obtain ⟨v1, hv2, h⟩ := ok_bind h
  refine cx_vv (w2 := fun (_ : Unit) => w_X12_owner cy a0 gg gvn gdn) (w2x := fun (_ : Unit) => w_X12_owner cy a0 gg gvn gdn) (As := [.int x1]) (rest := []) ⟨hx, hb, hml, hown, hts⟩ (c_X12_needOwner l dC dI cy z hl9 a0 gg gvn x1 H.size v1 hv2) (cwV 1 hts gX12_owner_X12_needOwner rfl rfl rfl (by decide +kernel) ⟨Nat.le_of_ble_eq_true rfl, Nat.le_of_ble_eq_true rfl⟩) (va_recv hK hP (ci := 10) (q0 := 0) rfl rfl) cl_blindS (cl_preS hK hP hD hS hA hX [0, 1, 7, 8, 9, 10, 11] (by decide) rfl) hP hD hS hA [0, 1, 7, 8, 9, 10, 11] rfl rfl hl.1 rfl (lv_room (Nat.le_of_ble_eq_true rfl)) dX12_owner_2 ⟨Nat.le_of_ble_eq_true rfl, Nat.le_of_ble_eq_true rfl⟩ (cells' := 1) (slots' := 6) ⟨rfl, rfl⟩ (fun _ => updR [0, 1, 7, 8, 9, 10, 11] rfl) (fun _ => updR [0, 1, 7, 8, 9, 10, 11] rfl) (fun E ce q9 u H locs hw hE hP hD hS hc1 hc2 hc3 => ?_) (fun u H locs hw hP hD hS => ?_)
  · subst hw
    have hP : va_P (dC, dI) vwCl (w_X12_owner cy a0 gg gvn gdn) H := hP
    obtain ⟨hE1, hE2⟩ := exE_pass hE h
    exact vx_out (fun x9 hx9 => (htab x9 hx9).elim) hlocks hc1 hc2 hc3 (fun t h1 h2 => by rw [hxx]; exact ⟨_, hE2.symm, ⟨hE1, by rw [h1]; exact hP, va_K.moved h2 hK⟩, hS.F h1⟩) hS.2.2 (by decide) (by decide)
  obtain ⟨hw1, hw2⟩ := hw
  subst hw2
  rw [← hw1] at h
  dsimp only [xb] at h
  have hP : va_P (dC, dI) vwCl (w_X12_owner cy a0 gg gvn gdn) H := hP
  have hD : va_D A (w_X12_owner cy a0 gg gvn gdn) := hD
  refine lv_iload_n hx hb dX12_owner_5 rfl (lv_at hl 2 rfl) ?_
  by_cases c3 : x2 = (0 : Int32)
  · rw [if_pos c3] at h
    refine lv_tableIn (off := 50) (tgt := 56) hx hb dX12_owner_6 (by rw [c3]; decide) (by rw [c3]; decide) (by rw [c3]; decide) (by decide) ?_
    refine lv_aload_n hx hb dX12_owner_56 rfl (lv_at hl 0 rfl) ?_
    refine va_get (D := (dC, dI)) (ci := 10) (v := .ref (a0 2)) (C := RX12) (T := TX12) (N := 17) hx hb hts in_X12 hown hK hP 0 rfl rfl 6 (by decide) lk0 (fun _ h9 => h9) rfl dX12_owner_57 ?_
    refine lv_iload_n hx hb dX12_owner_60 rfl (lv_at hl 1 rfl) ?_
    obtain ⟨v4, hv5, h⟩ := ok_bind h
    refine cl_vi (w2 := fun (_ : Unit) => w_X12_owner cy a0 gg gvn gdn) (As := [.int x1]) (rest := []) ⟨hx, hb, hml, hown, hts⟩ (c_X9_goatsOf l dC dI cy (fun k => a0 (k + 2)) gvn x1 H.size v4 hv5) (cwV 1 hts gX12_owner_X9_goatsOf rfl rfl rfl (by decide +kernel) ⟨Nat.le_of_ble_eq_true rfl, Nat.le_of_ble_eq_true rfl⟩) (va_recv hK hP (ci := 7) (q0 := 1) rfl rfl) cl_blind (cl_pre hK hP hD [1, 7, 8, 9, 10, 11] (by decide) rfl) hP hD hS hA [1, 7, 8, 9, 10, 11] rfl rfl hl.1 rfl (lv_room (Nat.le_of_ble_eq_true rfl)) dX12_owner_61 ⟨Nat.le_of_ble_eq_true rfl, Nat.le_of_ble_eq_true rfl⟩ ⟨rfl, rfl⟩ (fun _ => updR [1, 7, 8, 9, 10, 11] rfl) (fun r u H locs hw hP hD hS => ?_)
    have hw := hw.symm
    subst hw
    have hP : va_P (dC, dI) vwCl (w_X12_owner cy a0 gg gvn gdn) H := hP
    have hD : va_D A (w_X12_owner cy a0 gg gvn gdn) := hD
    refine vx_ret ?_
    refine W.widen (k := 2) (n := 12) (by decide) (by decide) ?_
    exact W.iret (v := v4) hx hb hr (fun t ht hW => by rw [hqq]; have hh := Option.some.inj h; exact ⟨⟨v4, (()), rfl, ⟨fst_of hh, snd_of hh⟩, by rw [ht]; exact hP, va_K.moved hW.alike hK⟩, hS.F ht⟩) hS.2.2 dX12_owner_64
  rw [if_neg c3] at h
  by_cases c6 : x2 = (1 : Int32)
  · rw [if_pos c6] at h
    refine lv_tableIn (off := 59) (tgt := 65) hx hb dX12_owner_6 (by rw [c6]; decide) (by rw [c6]; decide) (by rw [c6]; decide) (by decide) ?_
    refine lv_aload_n hx hb dX12_owner_65 rfl (lv_at hl 0 rfl) ?_
    refine va_get (D := (dC, dI)) (ci := 10) (v := .ref (a0 2)) (C := RX12) (T := TX12) (N := 17) hx hb hts in_X12 hown hK hP 0 rfl rfl 6 (by decide) lk0 (fun _ h9 => h9) rfl dX12_owner_66 ?_
    refine lv_iload_n hx hb dX12_owner_69 rfl (lv_at hl 1 rfl) ?_
    obtain ⟨v7, hv8, h⟩ := ok_bind h
    refine cl_vi (w2 := fun (_ : Unit) => w_X12_owner cy a0 gg gvn gdn) (As := [.int x1]) (rest := []) ⟨hx, hb, hml, hown, hts⟩ (c_X9_hidesOf l dC dI cy (fun k => a0 (k + 2)) gvn x1 H.size v7 hv8) (cwV 1 hts gX12_owner_X9_hidesOf rfl rfl rfl (by decide +kernel) ⟨Nat.le_of_ble_eq_true rfl, Nat.le_of_ble_eq_true rfl⟩) (va_recv hK hP (ci := 7) (q0 := 1) rfl rfl) cl_blind (cl_pre hK hP hD [1, 7, 8, 9, 10, 11] (by decide) rfl) hP hD hS hA [1, 7, 8, 9, 10, 11] rfl rfl hl.1 rfl (lv_room (Nat.le_of_ble_eq_true rfl)) dX12_owner_70 ⟨Nat.le_of_ble_eq_true rfl, Nat.le_of_ble_eq_true rfl⟩ ⟨rfl, rfl⟩ (fun _ => updR [1, 7, 8, 9, 10, 11] rfl) (fun r u H locs hw hP hD hS => ?_)
    have hw := hw.symm
    subst hw
    have hP : va_P (dC, dI) vwCl (w_X12_owner cy a0 gg gvn gdn) H := hP
    have hD : va_D A (w_X12_owner cy a0 gg gvn gdn) := hD
    refine vx_ret ?_
    refine W.widen (k := 2) (n := 12) (by decide) (by decide) ?_
    exact W.iret (v := v7) hx hb hr (fun t ht hW => by rw [hqq]; have hh := Option.some.inj h; exact ⟨⟨v7, (()), rfl, ⟨fst_of hh, snd_of hh⟩, by rw [ht]; exact hP, va_K.moved hW.alike hK⟩, hS.F ht⟩) hS.2.2 dX12_owner_73
  rw [if_neg c6] at h
  by_cases c9 : x2 = (2 : Int32)
  · rw [if_pos c9] at h
    refine lv_tableIn (off := 68) (tgt := 74) hx hb dX12_owner_6 (by rw [c9]; decide) (by rw [c9]; decide) (by rw [c9]; decide) (by decide) ?_
    refine lv_aload_n hx hb dX12_owner_74 rfl (lv_at hl 0 rfl) ?_
    refine va_get (D := (dC, dI)) (ci := 10) (v := .ref (a0 2)) (C := RX12) (T := TX12) (N := 17) hx hb hts in_X12 hown hK hP 0 rfl rfl 6 (by decide) lk0 (fun _ h9 => h9) rfl dX12_owner_75 ?_
    refine lv_iload_n hx hb dX12_owner_78 rfl (lv_at hl 1 rfl) ?_
    obtain ⟨v10, hv11, h⟩ := ok_bind h
    refine cl_vi (w2 := fun (_ : Unit) => w_X12_owner cy a0 gg gvn gdn) (As := [.int x1]) (rest := []) ⟨hx, hb, hml, hown, hts⟩ (c_X9_hiddenBy l dC dI cy (fun k => a0 (k + 2)) gvn x1 H.size v10 hv11) (cwV 1 hts gX12_owner_X9_hiddenBy rfl rfl rfl (by decide +kernel) ⟨Nat.le_of_ble_eq_true rfl, Nat.le_of_ble_eq_true rfl⟩) (va_recv hK hP (ci := 7) (q0 := 1) rfl rfl) cl_blind (cl_pre hK hP hD [1, 7, 8, 9, 10, 11] (by decide) rfl) hP hD hS hA [1, 7, 8, 9, 10, 11] rfl rfl hl.1 rfl (lv_room (Nat.le_of_ble_eq_true rfl)) dX12_owner_79 ⟨Nat.le_of_ble_eq_true rfl, Nat.le_of_ble_eq_true rfl⟩ ⟨rfl, rfl⟩ (fun _ => updR [1, 7, 8, 9, 10, 11] rfl) (fun r u H locs hw hP hD hS => ?_)
    have hw := hw.symm
    subst hw
    have hP : va_P (dC, dI) vwCl (w_X12_owner cy a0 gg gvn gdn) H := hP
    have hD : va_D A (w_X12_owner cy a0 gg gvn gdn) := hD
    refine vx_ret ?_
    refine W.widen (k := 2) (n := 12) (by decide) (by decide) ?_
    exact W.iret (v := v10) hx hb hr (fun t ht hW => by rw [hqq]; have hh := Option.some.inj h; exact ⟨⟨v10, (()), rfl, ⟨fst_of hh, snd_of hh⟩, by rw [ht]; exact hP, va_K.moved hW.alike hK⟩, hS.F ht⟩) hS.2.2 dX12_owner_82
  rw [if_neg c9] at h
  by_cases c12 : x2 = (3 : Int32)
  · rw [if_pos c12] at h
    refine lv_tableIn (off := 77) (tgt := 83) hx hb dX12_owner_6 (by rw [c12]; decide) (by rw [c12]; decide) (by rw [c12]; decide) (by decide) ?_
    refine lv_aload_n hx hb dX12_owner_83 rfl (lv_at hl 0 rfl) ?_
    refine va_get (D := (dC, dI)) (ci := 10) (v := .ref (a0 2)) (C := RX12) (T := TX12) (N := 17) hx hb hts in_X12 hown hK hP 0 rfl rfl 6 (by decide) lk0 (fun _ h9 => h9) rfl dX12_owner_84 ?_
    refine lv_iload_n hx hb dX12_owner_87 rfl (lv_at hl 1 rfl) ?_
    obtain ⟨v13, hv14, h⟩ := ok_bind h
    refine cl_vi (w2 := fun (_ : Unit) => w_X12_owner cy a0 gg gvn gdn) (As := [.int x1]) (rest := []) ⟨hx, hb, hml, hown, hts⟩ (c_X9_lentBy l dC dI cy (fun k => a0 (k + 2)) gvn x1 H.size v13 hv14) (cwV 1 hts gX12_owner_X9_lentBy rfl rfl rfl (by decide +kernel) ⟨Nat.le_of_ble_eq_true rfl, Nat.le_of_ble_eq_true rfl⟩) (va_recv hK hP (ci := 7) (q0 := 1) rfl rfl) cl_blind (cl_pre hK hP hD [1, 7, 8, 9, 10, 11] (by decide) rfl) hP hD hS hA [1, 7, 8, 9, 10, 11] rfl rfl hl.1 rfl (lv_room (Nat.le_of_ble_eq_true rfl)) dX12_owner_88 ⟨Nat.le_of_ble_eq_true rfl, Nat.le_of_ble_eq_true rfl⟩ ⟨rfl, rfl⟩ (fun _ => updR [1, 7, 8, 9, 10, 11] rfl) (fun r u H locs hw hP hD hS => ?_)
    have hw := hw.symm
    subst hw
    have hP : va_P (dC, dI) vwCl (w_X12_owner cy a0 gg gvn gdn) H := hP
    have hD : va_D A (w_X12_owner cy a0 gg gvn gdn) := hD
    refine vx_ret ?_
    refine W.widen (k := 2) (n := 12) (by decide) (by decide) ?_
    exact W.iret (v := v13) hx hb hr (fun t ht hW => by rw [hqq]; have hh := Option.some.inj h; exact ⟨⟨v13, (()), rfl, ⟨fst_of hh, snd_of hh⟩, by rw [ht]; exact hP, va_K.moved hW.alike hK⟩, hS.F ht⟩) hS.2.2 dX12_owner_91
  rw [if_neg c12] at h
  by_cases c15 : x2 = (4 : Int32)
  · rw [if_pos c15] at h
    refine lv_tableIn (off := 86) (tgt := 92) hx hb dX12_owner_6 (by rw [c15]; decide) (by rw [c15]; decide) (by rw [c15]; decide) (by decide) ?_
    refine lv_aload_n hx hb dX12_owner_92 rfl (lv_at hl 0 rfl) ?_
    refine va_get (D := (dC, dI)) (ci := 10) (v := .ref (a0 2)) (C := RX12) (T := TX12) (N := 17) hx hb hts in_X12 hown hK hP 0 rfl rfl 6 (by decide) lk0 (fun _ h9 => h9) rfl dX12_owner_93 ?_
    refine lv_iload_n hx hb dX12_owner_96 rfl (lv_at hl 1 rfl) ?_
    obtain ⟨v16, hv17, h⟩ := ok_bind h
    refine cl_vi (w2 := fun (_ : Unit) => w_X12_owner cy a0 gg gvn gdn) (As := [.int x1]) (rest := []) ⟨hx, hb, hml, hown, hts⟩ (c_X9_borrowedBy l dC dI cy (fun k => a0 (k + 2)) gvn x1 H.size v16 hv17) (cwV 1 hts gX12_owner_X9_borrowedBy rfl rfl rfl (by decide +kernel) ⟨Nat.le_of_ble_eq_true rfl, Nat.le_of_ble_eq_true rfl⟩) (va_recv hK hP (ci := 7) (q0 := 1) rfl rfl) cl_blind (cl_pre hK hP hD [1, 7, 8, 9, 10, 11] (by decide) rfl) hP hD hS hA [1, 7, 8, 9, 10, 11] rfl rfl hl.1 rfl (lv_room (Nat.le_of_ble_eq_true rfl)) dX12_owner_97 ⟨Nat.le_of_ble_eq_true rfl, Nat.le_of_ble_eq_true rfl⟩ ⟨rfl, rfl⟩ (fun _ => updR [1, 7, 8, 9, 10, 11] rfl) (fun r u H locs hw hP hD hS => ?_)
    have hw := hw.symm
    subst hw
    have hP : va_P (dC, dI) vwCl (w_X12_owner cy a0 gg gvn gdn) H := hP
    have hD : va_D A (w_X12_owner cy a0 gg gvn gdn) := hD
    refine vx_ret ?_
    refine W.widen (k := 2) (n := 12) (by decide) (by decide) ?_
    exact W.iret (v := v16) hx hb hr (fun t ht hW => by rw [hqq]; have hh := Option.some.inj h; exact ⟨⟨v16, (()), rfl, ⟨fst_of hh, snd_of hh⟩, by rw [ht]; exact hP, va_K.moved hW.alike hK⟩, hS.F ht⟩) hS.2.2 dX12_owner_100
  rw [if_neg c15] at h
  by_cases c18 : x2 = (5 : Int32)
  · rw [if_pos c18] at h
    refine lv_tableIn (off := 95) (tgt := 101) hx hb dX12_owner_6 (by rw [c18]; decide) (by rw [c18]; decide) (by rw [c18]; decide) (by decide) ?_
    refine lv_aload_n hx hb dX12_owner_101 rfl (lv_at hl 0 rfl) ?_
    refine va_get (D := (dC, dI)) (ci := 10) (v := .ref (a0 2)) (C := RX12) (T := TX12) (N := 17) hx hb hts in_X12 hown hK hP 0 rfl rfl 6 (by decide) lk0 (fun _ h9 => h9) rfl dX12_owner_102 ?_
    refine va_get (D := (dC, dI)) (ci := 7) (v := .ref (a0 3)) (C := RX9) (T := TX9) (N := 9) hx hb hts in_X9 hown hK hP 1 rfl rfl 2 (by decide) lk1 (fun _ h9 => h9) rfl dX12_owner_105 ?_
    refine lv_iload_n hx hb dX12_owner_108 rfl (lv_at hl 1 rfl) ?_
    refine lv_aload_n hx hb dX12_owner_109 rfl (lv_at hl 0 rfl) ?_
    refine va_get (D := (dC, dI)) (ci := 10) (v := .ref (a0 2)) (C := RX12) (T := TX12) (N := 17) hx hb hts in_X12 hown hK hP 0 rfl rfl 6 (by decide) lk0 (fun _ h9 => h9) rfl dX12_owner_110 ?_
    refine va_get (D := (dC, dI)) (ci := 7) (v := .int gvn.2.1) (C := RX9) (T := TX9) (N := 9) hx hb hts in_X9 hown hK hP 1 rfl rfl 1 (by decide) lk2 (fun _ h9 => h9) rfl dX12_owner_113 ?_
    obtain ⟨v19, hv20, h⟩ := ok_bind h
    refine cl_vl (w2 := fun (_ : Unit) => w_X12_owner cy a0 gg gvn gdn) (As := [.int x1, .int gvn.2.1]) (rest := []) ⟨hx, hb, hml, hown, hts⟩ (c_X4_owedBy l dC dI cy (fun k => a0 (k + 3)) gdn x1 gvn.2.1 H.size v19 hv20) (cwV 2 hts gX12_owner_X4_owedBy rfl rfl rfl (by decide +kernel) ⟨Nat.le_of_ble_eq_true rfl, Nat.le_of_ble_eq_true rfl⟩) (va_recv hK hP (ci := 2) (q0 := 2) rfl rfl) cl_blind (cl_pre hK hP hD [2, 3, 4, 5, 6] (by decide) rfl) hP hD hS hA [2, 3, 4, 5, 6] rfl rfl hl.1 rfl (lv_room (Nat.le_of_ble_eq_true rfl)) dX12_owner_116 ⟨Nat.le_of_ble_eq_true rfl, Nat.le_of_ble_eq_true rfl⟩ ⟨rfl, rfl⟩ (fun _ => updR [2, 3, 4, 5, 6] rfl) (fun r u H locs hw hP hD hS => ?_)
    have hw := hw.symm
    subst hw
    have hP : va_P (dC, dI) vwCl (w_X12_owner cy a0 gg gvn gdn) H := hP
    have hD : va_D A (w_X12_owner cy a0 gg gvn gdn) := hD
    refine lv_l2i hx hb dX12_owner_119 rfl ?_
    refine vx_ret ?_
    refine W.widen (k := 2) (n := 12) (by decide) (by decide) ?_
    exact W.iret (v := v19.toInt32) hx hb hr (fun t ht hW => by rw [hqq]; have hh := Option.some.inj h; exact ⟨⟨v19.toInt32, (()), rfl, ⟨fst_of hh, snd_of hh⟩, by rw [ht]; exact hP, va_K.moved hW.alike hK⟩, hS.F ht⟩) hS.2.2 dX12_owner_120
  rw [if_neg c18] at h
  by_cases c21 : x2 = (6 : Int32)
  · rw [if_pos c21] at h
    refine lv_tableIn (off := 115) (tgt := 121) hx hb dX12_owner_6 (by rw [c21]; decide) (by rw [c21]; decide) (by rw [c21]; decide) (by decide) ?_
    refine lv_aload_n hx hb dX12_owner_121 rfl (lv_at hl 0 rfl) ?_
    refine va_get (D := (dC, dI)) (ci := 10) (v := .ref (a0 2)) (C := RX12) (T := TX12) (N := 17) hx hb hts in_X12 hown hK hP 0 rfl rfl 6 (by decide) lk0 (fun _ h9 => h9) rfl dX12_owner_122 ?_
    refine va_get (D := (dC, dI)) (ci := 7) (v := .ref (a0 3)) (C := RX9) (T := TX9) (N := 9) hx hb hts in_X9 hown hK hP 1 rfl rfl 2 (by decide) lk1 (fun _ h9 => h9) rfl dX12_owner_125 ?_
    refine lv_iload_n hx hb dX12_owner_128 rfl (lv_at hl 1 rfl) ?_
    refine lv_aload_n hx hb dX12_owner_129 rfl (lv_at hl 0 rfl) ?_
    refine va_get (D := (dC, dI)) (ci := 10) (v := .ref (a0 2)) (C := RX12) (T := TX12) (N := 17) hx hb hts in_X12 hown hK hP 0 rfl rfl 6 (by decide) lk0 (fun _ h9 => h9) rfl dX12_owner_130 ?_
    refine va_get (D := (dC, dI)) (ci := 7) (v := .int gvn.2.1) (C := RX9) (T := TX9) (N := 9) hx hb hts in_X9 hown hK hP 1 rfl rfl 1 (by decide) lk2 (fun _ h9 => h9) rfl dX12_owner_133 ?_
    obtain ⟨v22, hv23, h⟩ := ok_bind h
    refine cl_vl (w2 := fun (_ : Unit) => w_X12_owner cy a0 gg gvn gdn) (As := [.int x1, .int gvn.2.1]) (rest := []) ⟨hx, hb, hml, hown, hts⟩ (c_X4_owedTo l dC dI cy (fun k => a0 (k + 3)) gdn x1 gvn.2.1 H.size v22 hv23) (cwV 2 hts gX12_owner_X4_owedTo rfl rfl rfl (by decide +kernel) ⟨Nat.le_of_ble_eq_true rfl, Nat.le_of_ble_eq_true rfl⟩) (va_recv hK hP (ci := 2) (q0 := 2) rfl rfl) cl_blind (cl_pre hK hP hD [2, 3, 4, 5, 6] (by decide) rfl) hP hD hS hA [2, 3, 4, 5, 6] rfl rfl hl.1 rfl (lv_room (Nat.le_of_ble_eq_true rfl)) dX12_owner_136 ⟨Nat.le_of_ble_eq_true rfl, Nat.le_of_ble_eq_true rfl⟩ ⟨rfl, rfl⟩ (fun _ => updR [2, 3, 4, 5, 6] rfl) (fun r u H locs hw hP hD hS => ?_)
    have hw := hw.symm
    subst hw
    have hP : va_P (dC, dI) vwCl (w_X12_owner cy a0 gg gvn gdn) H := hP
    have hD : va_D A (w_X12_owner cy a0 gg gvn gdn) := hD
    refine lv_l2i hx hb dX12_owner_139 rfl ?_
    refine vx_ret ?_
    refine W.widen (k := 2) (n := 12) (by decide) (by decide) ?_
    exact W.iret (v := v22.toInt32) hx hb hr (fun t ht hW => by rw [hqq]; have hh := Option.some.inj h; exact ⟨⟨v22.toInt32, (()), rfl, ⟨fst_of hh, snd_of hh⟩, by rw [ht]; exact hP, va_K.moved hW.alike hK⟩, hS.F ht⟩) hS.2.2 dX12_owner_140
  rw [if_neg c21] at h
  by_cases c24 : x2 = (7 : Int32)
  · rw [if_pos c24] at h
    refine lv_tableIn (off := 135) (tgt := 141) hx hb dX12_owner_6 (by rw [c24]; decide) (by rw [c24]; decide) (by rw [c24]; decide) (by decide) ?_
    refine lv_aload_n hx hb dX12_owner_141 rfl (lv_at hl 0 rfl) ?_
    refine va_get (D := (dC, dI)) (ci := 10) (v := .ref (a0 2)) (C := RX12) (T := TX12) (N := 17) hx hb hts in_X12 hown hK hP 0 rfl rfl 6 (by decide) lk0 (fun _ h9 => h9) rfl dX12_owner_142 ?_
    refine va_get (D := (dC, dI)) (ci := 7) (v := .ref (a0 3)) (C := RX9) (T := TX9) (N := 9) hx hb hts in_X9 hown hK hP 1 rfl rfl 2 (by decide) lk1 (fun _ h9 => h9) rfl dX12_owner_145 ?_
    refine lv_iload_n hx hb dX12_owner_148 rfl (lv_at hl 1 rfl) ?_
    refine lv_aload_n hx hb dX12_owner_149 rfl (lv_at hl 0 rfl) ?_
    refine va_get (D := (dC, dI)) (ci := 10) (v := .ref (a0 2)) (C := RX12) (T := TX12) (N := 17) hx hb hts in_X12 hown hK hP 0 rfl rfl 6 (by decide) lk0 (fun _ h9 => h9) rfl dX12_owner_150 ?_
    refine va_get (D := (dC, dI)) (ci := 7) (v := .int gvn.2.1) (C := RX9) (T := TX9) (N := 9) hx hb hts in_X9 hown hK hP 1 rfl rfl 1 (by decide) lk2 (fun _ h9 => h9) rfl dX12_owner_153 ?_
    obtain ⟨v25, hv26, h⟩ := ok_bind h
    refine cl_vl (w2 := fun (_ : Unit) => w_X12_owner cy a0 gg gvn gdn) (As := [.int x1, .int gvn.2.1]) (rest := []) ⟨hx, hb, hml, hown, hts⟩ (c_X4_netOf l dC dI cy (fun k => a0 (k + 3)) gdn x1 gvn.2.1 H.size v25 hv26) (cwV 2 hts gX12_owner_X4_netOf rfl rfl rfl (by decide +kernel) ⟨Nat.le_of_ble_eq_true rfl, Nat.le_of_ble_eq_true rfl⟩) (va_recv hK hP (ci := 2) (q0 := 2) rfl rfl) cl_blind (cl_pre hK hP hD [2, 3, 4, 5, 6] (by decide) rfl) hP hD hS hA [2, 3, 4, 5, 6] rfl rfl hl.1 rfl (lv_room (Nat.le_of_ble_eq_true rfl)) dX12_owner_156 ⟨Nat.le_of_ble_eq_true rfl, Nat.le_of_ble_eq_true rfl⟩ ⟨rfl, rfl⟩ (fun _ => updR [2, 3, 4, 5, 6] rfl) (fun r u H locs hw hP hD hS => ?_)
    have hw := hw.symm
    subst hw
    have hP : va_P (dC, dI) vwCl (w_X12_owner cy a0 gg gvn gdn) H := hP
    have hD : va_D A (w_X12_owner cy a0 gg gvn gdn) := hD
    refine lv_l2i hx hb dX12_owner_159 rfl ?_
    refine vx_ret ?_
    refine W.widen (k := 2) (n := 12) (by decide) (by decide) ?_
    exact W.iret (v := v25.toInt32) hx hb hr (fun t ht hW => by rw [hqq]; have hh := Option.some.inj h; exact ⟨⟨v25.toInt32, (()), rfl, ⟨fst_of hh, snd_of hh⟩, by rw [ht]; exact hP, va_K.moved hW.alike hK⟩, hS.F ht⟩) hS.2.2 dX12_owner_160
  rw [if_neg c24] at h
  by_cases c27 : x2 = (8 : Int32)
  · rw [if_pos c27] at h
    refine lv_tableIn (off := 155) (tgt := 161) hx hb dX12_owner_6 (by rw [c27]; decide) (by rw [c27]; decide) (by rw [c27]; decide) (by decide) ?_
    refine lv_aload_n hx hb dX12_owner_161 rfl (lv_at hl 0 rfl) ?_
    refine va_get (D := (dC, dI)) (ci := 10) (v := .ref (a0 2)) (C := RX12) (T := TX12) (N := 17) hx hb hts in_X12 hown hK hP 0 rfl rfl 6 (by decide) lk0 (fun _ h9 => h9) rfl dX12_owner_162 ?_
    refine va_get (D := (dC, dI)) (ci := 7) (v := .ref (a0 3)) (C := RX9) (T := TX9) (N := 9) hx hb hts in_X9 hown hK hP 1 rfl rfl 2 (by decide) lk1 (fun _ h9 => h9) rfl dX12_owner_165 ?_
    refine lv_iload_n hx hb dX12_owner_168 rfl (lv_at hl 1 rfl) ?_
    refine lv_aload_n hx hb dX12_owner_169 rfl (lv_at hl 0 rfl) ?_
    refine va_get (D := (dC, dI)) (ci := 10) (v := .ref (a0 2)) (C := RX12) (T := TX12) (N := 17) hx hb hts in_X12 hown hK hP 0 rfl rfl 6 (by decide) lk0 (fun _ h9 => h9) rfl dX12_owner_170 ?_
    refine va_get (D := (dC, dI)) (ci := 7) (v := .int gvn.2.1) (C := RX9) (T := TX9) (N := 9) hx hb hts in_X9 hown hK hP 1 rfl rfl 1 (by decide) lk2 (fun _ h9 => h9) rfl dX12_owner_173 ?_
    refine lv_iconst (v := (1 : Int32)) hx hb dX12_owner_176 (by decide) ?_
    refine lv_iadd hx hb dX12_owner_177 ?_
    obtain ⟨v28, hv29, h⟩ := ok_bind h
    refine cl_vl (w2 := fun (_ : Unit) => w_X12_owner cy a0 gg gvn gdn) (As := [.int x1, .int (gvn.2.1 + (1 : Int32))]) (rest := []) ⟨hx, hb, hml, hown, hts⟩ (c_X4_netOf l dC dI cy (fun k => a0 (k + 3)) gdn x1 (gvn.2.1 + (1 : Int32)) H.size v28 hv29) (cwV 2 hts gX12_owner_X4_netOf rfl rfl rfl (by decide +kernel) ⟨Nat.le_of_ble_eq_true rfl, Nat.le_of_ble_eq_true rfl⟩) (va_recv hK hP (ci := 2) (q0 := 2) rfl rfl) cl_blind (cl_pre hK hP hD [2, 3, 4, 5, 6] (by decide) rfl) hP hD hS hA [2, 3, 4, 5, 6] rfl rfl hl.1 rfl (lv_room (Nat.le_of_ble_eq_true rfl)) dX12_owner_178 ⟨Nat.le_of_ble_eq_true rfl, Nat.le_of_ble_eq_true rfl⟩ ⟨rfl, rfl⟩ (fun _ => updR [2, 3, 4, 5, 6] rfl) (fun r u H locs hw hP hD hS => ?_)
    have hw := hw.symm
    subst hw
    have hP : va_P (dC, dI) vwCl (w_X12_owner cy a0 gg gvn gdn) H := hP
    have hD : va_D A (w_X12_owner cy a0 gg gvn gdn) := hD
    refine lv_aload_n hx hb dX12_owner_181 rfl (lv_at hl 0 rfl) ?_
    refine va_get (D := (dC, dI)) (ci := 10) (v := .ref (a0 2)) (C := RX12) (T := TX12) (N := 17) hx hb hts in_X12 hown hK hP 0 rfl rfl 6 (by decide) lk0 (fun _ h9 => h9) rfl dX12_owner_182 ?_
    refine va_get (D := (dC, dI)) (ci := 7) (v := .ref (a0 3)) (C := RX9) (T := TX9) (N := 9) hx hb hts in_X9 hown hK hP 1 rfl rfl 2 (by decide) lk1 (fun _ h9 => h9) rfl dX12_owner_185 ?_
    refine lv_iload_n hx hb dX12_owner_188 rfl (lv_at hl 1 rfl) ?_
    refine lv_aload_n hx hb dX12_owner_189 rfl (lv_at hl 0 rfl) ?_
    refine va_get (D := (dC, dI)) (ci := 10) (v := .ref (a0 2)) (C := RX12) (T := TX12) (N := 17) hx hb hts in_X12 hown hK hP 0 rfl rfl 6 (by decide) lk0 (fun _ h9 => h9) rfl dX12_owner_190 ?_
    refine va_get (D := (dC, dI)) (ci := 7) (v := .int gvn.2.1) (C := RX9) (T := TX9) (N := 9) hx hb hts in_X9 hown hK hP 1 rfl rfl 1 (by decide) lk2 (fun _ h9 => h9) rfl dX12_owner_193 ?_
    obtain ⟨v30, hv31, h⟩ := ok_bind h
    refine cl_vl (w2 := fun (_ : Unit) => w_X12_owner cy a0 gg gvn gdn) (As := [.int x1, .int gvn.2.1]) (rest := [.long v28]) ⟨hx, hb, hml, hown, hts⟩ (c_X4_netOf l dC dI cy (fun k => a0 (k + 3)) gdn x1 gvn.2.1 H.size v30 hv31) (cwV 2 hts gX12_owner_X4_netOf rfl rfl rfl (by decide +kernel) ⟨Nat.le_of_ble_eq_true rfl, Nat.le_of_ble_eq_true rfl⟩) (va_recv hK hP (ci := 2) (q0 := 2) rfl rfl) cl_blind (cl_pre hK hP hD [2, 3, 4, 5, 6] (by decide) rfl) hP hD hS hA [2, 3, 4, 5, 6] rfl rfl hl.1 rfl (lv_room (Nat.le_of_ble_eq_true rfl)) dX12_owner_196 ⟨Nat.le_of_ble_eq_true rfl, Nat.le_of_ble_eq_true rfl⟩ ⟨rfl, rfl⟩ (fun _ => updR [2, 3, 4, 5, 6] rfl) (fun r u H locs hw hP hD hS => ?_)
    have hw := hw.symm
    subst hw
    have hP : va_P (dC, dI) vwCl (w_X12_owner cy a0 gg gvn gdn) H := hP
    have hD : va_D A (w_X12_owner cy a0 gg gvn gdn) := hD
    refine lv_lsub hx hb dX12_owner_199 ?_
    refine lv_l2i hx hb dX12_owner_200 rfl ?_
    refine vx_ret ?_
    refine W.widen (k := 2) (n := 12) (by decide) (by decide) ?_
    exact W.iret (v := (v28 - v30).toInt32) hx hb hr (fun t ht hW => by rw [hqq]; have hh := Option.some.inj h; exact ⟨⟨((v28 - v30).toInt32), (()), rfl, ⟨fst_of hh, snd_of hh⟩, by rw [ht]; exact hP, va_K.moved hW.alike hK⟩, hS.F ht⟩) hS.2.2 dX12_owner_201
  rw [if_neg c27] at h
  refine lv_tableOut (tgt := 202) hx hb dX12_owner_6 (tab_out (fun k h1 h2 e => by rcases (show k = 0 ∨ k = 1 ∨ k = 2 ∨ k = 3 ∨ k = 4 ∨ k = 5 ∨ k = 6 ∨ k = 7 ∨ k = 8 by omega) with rfl | rfl | rfl | rfl | rfl | rfl | rfl | rfl | rfl <;> first | exact c3 (Int32.toInt_inj.mp (e.trans (by decide))) | exact c6 (Int32.toInt_inj.mp (e.trans (by decide))) | exact c9 (Int32.toInt_inj.mp (e.trans (by decide))) | exact c12 (Int32.toInt_inj.mp (e.trans (by decide))) | exact c15 (Int32.toInt_inj.mp (e.trans (by decide))) | exact c18 (Int32.toInt_inj.mp (e.trans (by decide))) | exact c21 (Int32.toInt_inj.mp (e.trans (by decide))) | exact c24 (Int32.toInt_inj.mp (e.trans (by decide))) | exact c27 (Int32.toInt_inj.mp (e.trans (by decide))))) (by decide) ?_
  refine vx_throwS (XC := xx) (text := "nothing such is told of an owner") (names := ["java/lang/RuntimeException", "java/lang/Exception"]) hx hb hl9 hown (by decide) (by decide) lk3 lk4 (hX.tx 197 "nothing such is told of an owner" (by decide)) (ex_at165 gd165 hX) (by decide +kernel) hX.us hX.ss hS (by rw [hml]; exact hl.1) dX12_owner_202 dX12_owner_205 dX12_owner_206 dX12_owner_208 dX12_owner_211 (fun x9 hx9 => (htab x9 hx9).elim) (Nat.le_of_ble_eq_true rfl) (Nat.le_of_ble_eq_true rfl) (Nat.le_of_ble_eq_true rfl) (Nat.le_of_ble_eq_true rfl) hlocks (fun t h1 h2 h3 => by rw [hxx]; have hh := Option.some.inj h; exact ⟨(()), snd_of hh, ⟨exE_1 (fst_of hh).symm, ex_po hP hK h1 h3⟩, ex_F hS h2 h3⟩) hS.2.2 (by decide) (by decide)
