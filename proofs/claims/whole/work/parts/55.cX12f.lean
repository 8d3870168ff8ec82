abbrev w_X12_voids (cy : Nat → ClassId) (a0 : Nat → Nat) (gg : Int32 × Int32 × Int32 × Int32 × Int32 × Int32) (gvn : Int32 × Int32 × (Nat → Int32) × (Nat → Int32) × (Nat → Int32) × (Nat → Int32) × (Nat → Int32)) (gdn : Int32 × Int32 × (Nat → Int32) × (Nat → Int32) × (Nat → Int32) × (Nat → Int32)) : va_W := [(a0 0, .inr (10, [.ref (a0 1), .int (gg.1), .int (gg.2.1), .int (gg.2.2.1), .int (gg.2.2.2.1), .int (gg.2.2.2.2.1), .ref (a0 2), .ref (a0 17), .ref (a0 32), .int (gg.2.2.2.2.2), .ref (a0 47), .ref (a0 48), .ref (a0 49), .ref (a0 50), .ref (a0 68), .ref (a0 78), .ref (a0 80)])), (a0 2, .inr (7, [.int (gvn.1), .int (gvn.2.1), .ref (a0 3), .ref (a0 8), .ref (a0 12), .ref (a0 13), .ref (a0 14), .ref (a0 15), .ref (a0 16)])), (a0 3, .inr (2, [.int (gdn.1), .int (gdn.2.1), .ref (a0 4), .ref (a0 5), .ref (a0 6), .ref (a0 7)])), (a0 4, .inl (cy 1, 10, .inl (gdn.2.2.1))), (a0 5, .inl (cy 1, 10, .inl (gdn.2.2.2.1))), (a0 6, .inl (cy 1, 10, .inl (gdn.2.2.2.2.1))), (a0 7, .inl (cy 1, 50, .inl (gdn.2.2.2.2.2))), (a0 12, .inl (cy 1, 5, .inl (gvn.2.2.1))), (a0 13, .inl (cy 1, 5, .inl (gvn.2.2.2.1))), (a0 14, .inl (cy 1, 5, .inl (gvn.2.2.2.2.1))), (a0 15, .inl (cy 1, 5, .inl (gvn.2.2.2.2.2.1))), (a0 16, .inl (cy 1, 5, .inl (gvn.2.2.2.2.2.2)))]
abbrev rm_X12_voids : Room := { frames := 7, cells := 2, slots := 12, locals := 115 }
set_option maxHeartbeats 1000000 in
set_option maxRecDepth 100000 in
theorem c_X12_voids (l : Launch) (dC : Nat → ClassId) (dI : Nat → Nat → Nat) (cy : Nat → ClassId) (z : Nat → Nat) (hl9 : l.stackTraces = false) (a0 : Nat → Nat) (gg : Int32 × Int32 × Int32 × Int32 × Int32 × Int32) (gvn : Int32 × Int32 × (Nat → Int32) × (Nat → Int32) × (Nat → Int32) × (Nat → Int32) × (Nat → Int32)) (gdn : Int32 × Int32 × (Nat → Int32) × (Nat → Int32) × (Nat → Int32) × (Nat → Int32)) (x1 : Int32) (x2 : Int32) (sz : Nat) (R0 : (Int32 ⊕ Nat) × (Unit)) (h : p_X12_voids gvn gdn x1 x2 = some R0) : vx_Met l yX12_voids wsX12_voids rm_X12_voids (va_Pc [.ref (a0 0), .int x1, .int x2] (prS dC dI cy z (w_X12_voids cy a0 gg gvn gdn) sz)) (va_Qi (fun (r : Int32) (u : Unit) => Sum.inl r = R0.1 ∧ u = R0.2) (fun (_ : Unit) t => poC dC dI cy (w_X12_voids cy a0 gg gvn gdn) t) (va_A (w_X12_voids cy a0 gg gvn gdn) sz)) (vx_X (fun (u : Unit) => u = R0.2) (fun E (_ : Unit) t => exE E R0.1 ∧ poC dC dI cy (w_X12_voids cy a0 gg gvn gdn) t) (va_A (w_X12_voids cy a0 gg gvn gdn) sz)) 2 12 (va_A (w_X12_voids cy a0 gg gvn gdn) sz) := by
  refine vx_ofW (cc := cX12_voids) (maxL := 4) (ret := (some .int)) (by decide) rfl ?_
  intro p e s m aa below meth c s₁ B hml htab hv
  obtain ⟨haa, ⟨hsz, hP, hK, hD0⟩, hX⟩ := hv
  have hx := B.exec
  have hb := B.bytes
  have hr := B.returns
  have hts := atoms_spec (ws := wsX12_voids) B.pre
  have hown : s.vm.findClass RX12 = some m.cls := findClass_of_methodNamed B.named
  have hlocks := B.notSynchronized
  subst hsz
  have hD := hD0.self (sz := s.heap.size)
  obtain ⟨qq, hqq⟩ : ∃ qq, qq = (va_Qi (fun (r : Int32) (u : Unit) => Sum.inl r = R0.1 ∧ u = R0.2) (fun (_ : Unit) t => poC dC dI cy (w_X12_voids cy a0 gg gvn gdn) t) (va_A (w_X12_voids cy a0 gg gvn gdn) s.heap.size)) := ⟨_, rfl⟩
  obtain ⟨xx, hxx⟩ : ∃ xx, xx = (vx_X (fun (u : Unit) => u = R0.2) (fun E (_ : Unit) t => exE E R0.1 ∧ poC dC dI cy (w_X12_voids cy a0 gg gvn gdn) t) (va_A (w_X12_voids cy a0 gg gvn gdn) s.heap.size)) := ⟨_, rfl⟩
  rw [← hqq, ← hxx]
  generalize hAe : va_A (w_X12_voids cy a0 gg gvn gdn) s.heap.size = A at hD hqq hxx hX ⊢
  have hA : ∀ q : Nat, s.heap.size ≤ q → A q := fun q h => by rw [← hAe]; exact Or.inr h
  have hS : va_S A s.heap s.heap [] := va_S.rf
  have hl := lv_entry ([.ref (a0 0), .int x1, .int x2]) (n := 4) (Nat.le_of_ble_eq_true rfl)
  have hE : entryFrame m aa 4 = F0 m 0 ((lg_sl ([.ref (a0 0), .int x1, .int x2]) ++ List.replicate (4 - (lg_sl ([.ref (a0 0), .int x1, .int x2])).length) Slot.unset).toArray) [] := by rw [haa]; exact lg_entry_eq m _ 4
  refine W.eq hE ?_
  generalize (lg_sl ([.ref (a0 0), .int x1, .int x2]) ++ List.replicate (4 - (lg_sl ([.ref (a0 0), .int x1, .int x2])).length) Slot.unset).toArray = ls at hl ⊢
  have hl : lv_has ls 4 [(0, .ref (a0 0)), (1, .int x1), (2, .int x2)] := hl
  change W p l e rm_X12_voids s m aa below meth c s.heap [] 0 0 (vx_MQ below qq xx aa s 2 12 A) (F0 m 0 ls [])
  have hS0 := hS
  have lk0 := hts (.fieldLink RX12 20 "GoatDoors" "now" "LGoatDoors$Village;") (by decide +kernel)
  have in_X12 : ∀ w ∈ wsX120, w ∈ wsX12_voids := by decide +kernel
  have c25 : ∀ (_u : Unit), ∀ (x3 : Int32) (H : Heap) (locs : List Loc) (ls : Array Slot), p_X12_voids_25 gvn gdn x3 = some R0 → va_P (dC, dI) vwCl (w_X12_voids cy a0 gg gvn gdn) H → va_D A (w_X12_voids cy a0 gg gvn gdn) → va_S A s.heap H locs → lv_has ls 4 [(3, .int x3)] → W p l e rm_X12_voids s m aa below meth c H locs 2 12 (vx_MQ below qq xx aa s 2 12 A) (F0 m 25 ls []) := by
    intro _ x3 H locs ls h hP hD hS hl
    unfold p_X12_voids_25 at h
    refine lv_iload_n hx hb dX12_voids_25 rfl (lv_at hl 0 rfl) ?_
    refine lv_goto (tgt := 37) hx hb dX12_voids_26 (by decide) ?_
    refine vx_ret ?_
    exact W.iret (v := x3) hx hb hr (fun t ht hW => by rw [hqq]; have hh := Option.some.inj h; exact ⟨⟨x3, (()), rfl, ⟨fst_of hh, snd_of hh⟩, by rw [ht]; exact hP, va_K.moved hW.alike hK⟩, hS.F ht⟩) hS.2.2 dX12_voids_37
  obtain ⟨H, hH⟩ : ∃ H : Heap, H = s.heap := ⟨_, rfl⟩
  obtain ⟨locs, hlocs⟩ : ∃ locs : List Loc, locs = [] := ⟨_, rfl⟩
  have hS : va_S A s.heap H locs := by rw [hH, hlocs]; exact hS
  rw [← hH] at hP
  suffices hg : W p l e rm_X12_voids s m aa below meth c H locs 0 0 (vx_MQ below qq xx aa s 2 12 A) (F0 m 0 ls []) by subst hH; subst hlocs; exact hg
  unfold p_X12_voids at h
  refine lv_aload_n hx hb dX12_voids_0 rfl (lv_at hl 0 rfl) ?_
  refine lv_iload_n hx hb dX12_voids_1 rfl (lv_at hl 1 rfl) ?_
  obtain ⟨v1, hv2, h⟩ := ok_bind h
  refine cx_vv (w2 := fun (_ : Unit) => w_X12_voids cy a0 gg gvn gdn) (w2x := fun (_ : Unit) => w_X12_voids cy a0 gg gvn gdn) (As := [.int x1]) (rest := []) ⟨hx, hb, hml, hown, hts⟩ (c_X12_needDoor l dC dI cy z hl9 a0 gg gvn gdn x1 H.size v1 hv2) (cwV 1 hts gX12_voids_X12_needDoor rfl rfl rfl (by decide +kernel) ⟨Nat.le_of_ble_eq_true rfl, Nat.le_of_ble_eq_true rfl⟩) (va_recv hK hP (ci := 10) (q0 := 0) rfl rfl) cl_blindS (cl_preS hK hP hD hS hA hX [0, 1, 2, 3, 4, 5, 6] (by decide) rfl) hP hD hS hA [0, 1, 2, 3, 4, 5, 6] rfl rfl hl.1 rfl (lv_room (Nat.le_of_ble_eq_true rfl)) dX12_voids_2 ⟨Nat.le_of_ble_eq_true rfl, Nat.le_of_ble_eq_true rfl⟩ (cells' := 1) (slots' := 6) ⟨rfl, rfl⟩ (fun _ => updR [0, 1, 2, 3, 4, 5, 6] rfl) (fun _ => updR [0, 1, 2, 3, 4, 5, 6] rfl) (fun E ce q9 u H locs hw hE hP hD hS hc1 hc2 hc3 => ?_) (fun u H locs hw hP hD hS => ?_)
  · subst hw
    have hP : va_P (dC, dI) vwCl (w_X12_voids cy a0 gg gvn gdn) H := hP
    obtain ⟨hE1, hE2⟩ := exE_pass hE h
    exact vx_out (fun x9 hx9 => (htab x9 hx9).elim) hlocks hc1 hc2 hc3 (fun t h1 h2 => by rw [hxx]; exact ⟨_, hE2.symm, ⟨hE1, by rw [h1]; exact hP, va_K.moved h2 hK⟩, hS.F h1⟩) hS.2.2 (by decide) (by decide)
  obtain ⟨hw1, hw2⟩ := hw
  subst hw2
  rw [← hw1] at h
  dsimp only [xb] at h
  have hP : va_P (dC, dI) vwCl (w_X12_voids cy a0 gg gvn gdn) H := hP
  have hD : va_D A (w_X12_voids cy a0 gg gvn gdn) := hD
  refine lv_iload_n hx hb dX12_voids_5 rfl (lv_at hl 2 rfl) ?_
  refine lv_iconst (v := (1 : Int32)) hx hb dX12_voids_6 (by decide) ?_
  obtain ⟨v3, hv4, h⟩ := ok_bind h
  refine cx_sv (w2 := fun (_ : Unit) => w_X12_voids cy a0 gg gvn gdn) (w2x := fun (_ : Unit) => w_X12_voids cy a0 gg gvn gdn) (As := [.int x2, .int (1 : Int32)]) (rest := []) ⟨hx, hb, hml, hown, hts⟩ (c_X12_needWhat l dC dI cy z hl9  x2 (1 : Int32) H.size v3 hv4) (va_cwS 2 hts gX12_voids_X12_needWhat rfl rfl rfl (by decide +kernel) ⟨Nat.le_of_ble_eq_true rfl, Nat.le_of_ble_eq_true rfl⟩) cl_blindS (cl_preS hK hP hD hS hA hX [] (by decide) rfl) hP hD hS hA [] rfl rfl hl.1 rfl (lv_room (Nat.le_of_ble_eq_true rfl)) dX12_voids_7 ⟨Nat.le_of_ble_eq_true rfl, Nat.le_of_ble_eq_true rfl⟩ (cells' := 2) (slots' := 12) ⟨rfl, rfl⟩ (fun _ => updR [] rfl) (fun _ => updR [] rfl) (fun E ce q9 u H locs hw hE hP hD hS hc1 hc2 hc3 => ?_) (fun u H locs hw hP hD hS => ?_)
  · subst hw
    have hP : va_P (dC, dI) vwCl (w_X12_voids cy a0 gg gvn gdn) H := hP
    obtain ⟨hE1, hE2⟩ := exE_pass hE h
    exact vx_out (fun x9 hx9 => (htab x9 hx9).elim) hlocks hc1 hc2 hc3 (fun t h1 h2 => by rw [hxx]; exact ⟨_, hE2.symm, ⟨hE1, by rw [h1]; exact hP, va_K.moved h2 hK⟩, hS.F h1⟩) hS.2.2 (by decide) (by decide)
  obtain ⟨hw1, hw2⟩ := hw
  subst hw2
  rw [← hw1] at h
  dsimp only [xb] at h
  have hP : va_P (dC, dI) vwCl (w_X12_voids cy a0 gg gvn gdn) H := hP
  have hD : va_D A (w_X12_voids cy a0 gg gvn gdn) := hD
  refine lv_aload_n hx hb dX12_voids_10 rfl (lv_at hl 0 rfl) ?_
  refine lv_iload_n hx hb dX12_voids_11 rfl (lv_at hl 1 rfl) ?_
  obtain ⟨v5, hv6, h⟩ := ok_bind h
  refine cl_vi (w2 := fun (_ : Unit) => w_X12_voids cy a0 gg gvn gdn) (As := [.int x1]) (rest := []) ⟨hx, hb, hml, hown, hts⟩ (c_X12_fewestToVoid l dC dI cy a0 gg gvn gdn x1 H.size v5 hv6) (cwV 1 hts gX12_voids_X12_fewestToVoid rfl rfl rfl (by decide +kernel) ⟨Nat.le_of_ble_eq_true rfl, Nat.le_of_ble_eq_true rfl⟩) (va_recv hK hP (ci := 10) (q0 := 0) rfl rfl) cl_blind (cl_pre hK hP hD [0, 1, 2, 3, 4, 5, 6, 7, 8, 9, 10, 11] (by decide) rfl) hP hD hS hA [0, 1, 2, 3, 4, 5, 6, 7, 8, 9, 10, 11] rfl rfl hl.1 rfl (lv_room (Nat.le_of_ble_eq_true rfl)) dX12_voids_12 ⟨Nat.le_of_ble_eq_true rfl, Nat.le_of_ble_eq_true rfl⟩ ⟨rfl, rfl⟩ (fun _ => updR [0, 1, 2, 3, 4, 5, 6, 7, 8, 9, 10, 11] rfl) (fun r u H locs hw hP hD hS => ?_)
  have hw := hw.symm
  subst hw
  have hP : va_P (dC, dI) vwCl (w_X12_voids cy a0 gg gvn gdn) H := hP
  have hD : va_D A (w_X12_voids cy a0 gg gvn gdn) := hD
  refine lv_istore_n (lv' := [(3, .int v5), (0, .ref (a0 0)), (1, .int x1), (2, .int x2)]) hx hb dX12_voids_15 rfl hl (by decide) rfl (fun ls hl => ?_)
  refine lv_iload_n hx hb dX12_voids_16 rfl (lv_at hl 3 rfl) ?_
  refine lv_if_eq (tgt := 25) hx hb dX12_voids_17 (by decide) (fun c7 => ?_) (fun c7 => ?_)
  · rw [if_pos c7] at h
    exact c25 () v5 H locs ls h hP hD hS (lv_sub hl [0] rfl)
  · rw [if_neg c7] at h
    refine lv_iload_n hx hb dX12_voids_20 rfl (lv_at hl 0 rfl) ?_
    refine lv_iconst (v := (-1 : Int32)) hx hb dX12_voids_21 (by decide) ?_
    refine lv_icmp_ne (tgt := 29) hx hb dX12_voids_22 (by decide) (fun c8 => ?_) (fun c8 => ?_)
    · rw [if_neg c8] at h
      refine lv_aload_n hx hb dX12_voids_29 rfl (lv_at hl 1 rfl) ?_
      refine va_get (D := (dC, dI)) (ci := 10) (v := .ref (a0 2)) (C := RX12) (T := TX12) (N := 17) hx hb hts in_X12 hown hK hP 0 rfl rfl 6 (by decide) lk0 (fun _ h9 => h9) rfl dX12_voids_30 ?_
      refine lv_iload_n hx hb dX12_voids_33 rfl (lv_at hl 0 rfl) ?_
      obtain ⟨v9, hv10, h⟩ := ok_bind h
      refine cl_vi (w2 := fun (_ : Unit) => w_X12_voids cy a0 gg gvn gdn) (As := [.int v5]) (rest := []) ⟨hx, hb, hml, hown, hts⟩ (c_X9_ownersWith l dC dI cy (fun k => a0 (k + 2)) gvn v5 H.size v9 hv10) (cwV 1 hts gX12_voids_X9_ownersWith rfl rfl rfl (by decide +kernel) ⟨Nat.le_of_ble_eq_true rfl, Nat.le_of_ble_eq_true rfl⟩) (va_recv hK hP (ci := 7) (q0 := 1) rfl rfl) cl_blind (cl_pre hK hP hD [1, 7, 8, 9, 10, 11] (by decide) rfl) hP hD hS hA [1, 7, 8, 9, 10, 11] rfl rfl hl.1 rfl (lv_room (Nat.le_of_ble_eq_true rfl)) dX12_voids_34 ⟨Nat.le_of_ble_eq_true rfl, Nat.le_of_ble_eq_true rfl⟩ ⟨rfl, rfl⟩ (fun _ => updR [1, 7, 8, 9, 10, 11] rfl) (fun r u H locs hw hP hD hS => ?_)
      have hw := hw.symm
      subst hw
      have hP : va_P (dC, dI) vwCl (w_X12_voids cy a0 gg gvn gdn) H := hP
      have hD : va_D A (w_X12_voids cy a0 gg gvn gdn) := hD
      refine vx_ret ?_
      exact W.iret (v := v9) hx hb hr (fun t ht hW => by rw [hqq]; have hh := Option.some.inj h; exact ⟨⟨v9, (()), rfl, ⟨fst_of hh, snd_of hh⟩, by rw [ht]; exact hP, va_K.moved hW.alike hK⟩, hS.F ht⟩) hS.2.2 dX12_voids_37
    · rw [if_pos c8] at h
      exact c25 () v5 H locs ls h hP hD hS (lv_sub hl [0] rfl)

abbrev w_X12_needTenths (cy : Nat → ClassId)   : va_W := []
abbrev rm_X12_needTenths : Room := { frames := 6, cells := 1, slots := 6, locals := 90 }
set_option maxHeartbeats 1000000 in
set_option maxRecDepth 100000 in
theorem c_X12_needTenths (l : Launch) (dC : Nat → ClassId) (dI : Nat → Nat → Nat) (cy : Nat → ClassId) (z : Nat → Nat) (hl9 : l.stackTraces = false)   (x0 : Int32) (x1 : Int32) (sz : Nat) (R0 : (Unit ⊕ Nat) × (Unit)) (h : p_X12_needTenths x0 x1 = some R0) : vx_Met l yX12_needTenths wsX12_needTenths rm_X12_needTenths (va_Pc [.int x0, .int x1] (prS dC dI cy z (w_X12_needTenths cy  ) sz)) (va_Qv (fun (u : Unit) => Sum.inl () = R0.1 ∧ u = R0.2) (fun (_ : Unit) t => poC dC dI cy (w_X12_needTenths cy  ) t) (va_A (w_X12_needTenths cy  ) sz)) (vx_X (fun (u : Unit) => u = R0.2) (fun E (_ : Unit) t => exE E R0.1 ∧ poC dC dI cy (w_X12_needTenths cy  ) t) (va_A (w_X12_needTenths cy  ) sz)) 1 6 (va_A (w_X12_needTenths cy  ) sz) := by
  refine vx_ofW (cc := cX12_needTenths) (maxL := 2) (ret := none) (by decide) rfl ?_
  intro p e s m aa below meth c s₁ B hml htab hv
  obtain ⟨haa, ⟨hsz, hP, hK, hD0⟩, hX⟩ := hv
  have hx := B.exec
  have hb := B.bytes
  have hr := B.returns
  have hts := atoms_spec (ws := wsX12_needTenths) B.pre
  have hown : s.vm.findClass RX12 = some m.cls := findClass_of_methodNamed B.named
  have hlocks := B.notSynchronized
  subst hsz
  have hD := hD0.self (sz := s.heap.size)
  obtain ⟨qq, hqq⟩ : ∃ qq, qq = (va_Qv (fun (u : Unit) => Sum.inl () = R0.1 ∧ u = R0.2) (fun (_ : Unit) t => poC dC dI cy (w_X12_needTenths cy  ) t) (va_A (w_X12_needTenths cy  ) s.heap.size)) := ⟨_, rfl⟩
  obtain ⟨xx, hxx⟩ : ∃ xx, xx = (vx_X (fun (u : Unit) => u = R0.2) (fun E (_ : Unit) t => exE E R0.1 ∧ poC dC dI cy (w_X12_needTenths cy  ) t) (va_A (w_X12_needTenths cy  ) s.heap.size)) := ⟨_, rfl⟩
  rw [← hqq, ← hxx]
  generalize hAe : va_A (w_X12_needTenths cy  ) s.heap.size = A at hD hqq hxx hX ⊢
  have hA : ∀ q : Nat, s.heap.size ≤ q → A q := fun q h => by rw [← hAe]; exact Or.inr h
  have hS : va_S A s.heap s.heap [] := va_S.rf
  have hl := lv_entry ([.int x0, .int x1]) (n := 2) (Nat.le_of_ble_eq_true rfl)
  have hE : entryFrame m aa 2 = F0 m 0 ((lg_sl ([.int x0, .int x1]) ++ List.replicate (2 - (lg_sl ([.int x0, .int x1])).length) Slot.unset).toArray) [] := by rw [haa]; exact lg_entry_eq m _ 2
  refine W.eq hE ?_
  generalize (lg_sl ([.int x0, .int x1]) ++ List.replicate (2 - (lg_sl ([.int x0, .int x1])).length) Slot.unset).toArray = ls at hl ⊢
  have hl : lv_has ls 2 [(0, .int x0), (1, .int x1)] := hl
  change W p l e rm_X12_needTenths s m aa below meth c s.heap [] 0 0 (vx_MQ below qq xx aa s 1 6 A) (F0 m 0 ls [])
  have hS0 := hS
  have lk0 := hts (.classLink RX12 252 "java/lang/IllegalArgumentException") (by decide +kernel)
  have lk1 := hts (.initialized "java/lang/IllegalArgumentException") (by decide +kernel)
  have gd256 : ∀ w ∈ (vx_atS RX12 256 "java/lang/IllegalArgumentException" ["java/lang/RuntimeException", "java/lang/Exception"]).filter goodWord, w.before aa s = true := fun w hw => hts w ((show ∀ w ∈ (vx_atS RX12 256 "java/lang/IllegalArgumentException" ["java/lang/RuntimeException", "java/lang/Exception"]).filter goodWord, w ∈ wsX12_needTenths by decide +kernel) w hw)
  obtain ⟨H, hH⟩ : ∃ H : Heap, H = s.heap := ⟨_, rfl⟩
  obtain ⟨locs, hlocs⟩ : ∃ locs : List Loc, locs = [] := ⟨_, rfl⟩
  have hS : va_S A s.heap H locs := by rw [hH, hlocs]; exact hS
  rw [← hH] at hP
  suffices hg : W p l e rm_X12_needTenths s m aa below meth c H locs 0 0 (vx_MQ below qq xx aa s 1 6 A) (F0 m 0 ls []) by subst hH; subst hlocs; exact hg
  unfold p_X12_needTenths at h
  refine lv_iload_n hx hb dX12_needTenths_0 rfl (lv_at hl 0 rfl) ?_
  refine lv_if_lt (tgt := 28) hx hb dX12_needTenths_1 (by decide) (fun c1 => ?_) (fun c1 => ?_)
  · rw [if_pos c1] at h
    refine vx_throwSW (XC := xx) (text := "no such tenths") (names := ["java/lang/RuntimeException", "java/lang/Exception"]) hx hb hl9 hown (by decide) (by decide) lk0 lk1 (hX.tx 371 "no such tenths" (by decide)) (ex_at256 gd256 hX) (by decide +kernel) hX.us hX.ss hS (by rw [hml]; exact hl.1) dX12_needTenths_28 dX12_needTenths_31 dX12_needTenths_32 dX12_needTenths_35 dX12_needTenths_38 (fun x9 hx9 => (htab x9 hx9).elim) (Nat.le_of_ble_eq_true rfl) (Nat.le_of_ble_eq_true rfl) (Nat.le_of_ble_eq_true rfl) (Nat.le_of_ble_eq_true rfl) hlocks (fun t h1 h2 h3 => by rw [hxx]; have hh := Option.some.inj h; exact ⟨(()), snd_of hh, ⟨exE_2 (fst_of hh).symm, ex_po hP hK h1 h3⟩, ex_F hS h2 h3⟩) hS.2.2 (by decide) (by decide)
  · rw [if_neg c1] at h
    refine lv_iload_n hx hb dX12_needTenths_4 rfl (lv_at hl 0 rfl) ?_
    refine lv_bipush (v := (10 : Int32)) hx hb dX12_needTenths_5 (by decide) ?_
    refine lv_icmp_gt (tgt := 28) hx hb dX12_needTenths_7 (by decide) (fun c2 => ?_) (fun c2 => ?_)
    · rw [if_pos c2] at h
      refine vx_throwSW (XC := xx) (text := "no such tenths") (names := ["java/lang/RuntimeException", "java/lang/Exception"]) hx hb hl9 hown (by decide) (by decide) lk0 lk1 (hX.tx 371 "no such tenths" (by decide)) (ex_at256 gd256 hX) (by decide +kernel) hX.us hX.ss hS (by rw [hml]; exact hl.1) dX12_needTenths_28 dX12_needTenths_31 dX12_needTenths_32 dX12_needTenths_35 dX12_needTenths_38 (fun x9 hx9 => (htab x9 hx9).elim) (Nat.le_of_ble_eq_true rfl) (Nat.le_of_ble_eq_true rfl) (Nat.le_of_ble_eq_true rfl) (Nat.le_of_ble_eq_true rfl) hlocks (fun t h1 h2 h3 => by rw [hxx]; have hh := Option.some.inj h; exact ⟨(()), snd_of hh, ⟨exE_2 (fst_of hh).symm, ex_po hP hK h1 h3⟩, ex_F hS h2 h3⟩) hS.2.2 (by decide) (by decide)
    · rw [if_neg c2] at h
      refine lv_iload_n hx hb dX12_needTenths_10 rfl (lv_at hl 1 rfl) ?_
      refine lv_if_lt (tgt := 28) hx hb dX12_needTenths_11 (by decide) (fun c3 => ?_) (fun c3 => ?_)
      · rw [if_pos c3] at h
        refine vx_throwSW (XC := xx) (text := "no such tenths") (names := ["java/lang/RuntimeException", "java/lang/Exception"]) hx hb hl9 hown (by decide) (by decide) lk0 lk1 (hX.tx 371 "no such tenths" (by decide)) (ex_at256 gd256 hX) (by decide +kernel) hX.us hX.ss hS (by rw [hml]; exact hl.1) dX12_needTenths_28 dX12_needTenths_31 dX12_needTenths_32 dX12_needTenths_35 dX12_needTenths_38 (fun x9 hx9 => (htab x9 hx9).elim) (Nat.le_of_ble_eq_true rfl) (Nat.le_of_ble_eq_true rfl) (Nat.le_of_ble_eq_true rfl) (Nat.le_of_ble_eq_true rfl) hlocks (fun t h1 h2 h3 => by rw [hxx]; have hh := Option.some.inj h; exact ⟨(()), snd_of hh, ⟨exE_2 (fst_of hh).symm, ex_po hP hK h1 h3⟩, ex_F hS h2 h3⟩) hS.2.2 (by decide) (by decide)
      · rw [if_neg c3] at h
        refine lv_iload_n hx hb dX12_needTenths_14 rfl (lv_at hl 1 rfl) ?_
        refine lv_bipush (v := (10 : Int32)) hx hb dX12_needTenths_15 (by decide) ?_
        refine lv_icmp_gt (tgt := 28) hx hb dX12_needTenths_17 (by decide) (fun c4 => ?_) (fun c4 => ?_)
        · rw [if_pos c4] at h
          refine vx_throwSW (XC := xx) (text := "no such tenths") (names := ["java/lang/RuntimeException", "java/lang/Exception"]) hx hb hl9 hown (by decide) (by decide) lk0 lk1 (hX.tx 371 "no such tenths" (by decide)) (ex_at256 gd256 hX) (by decide +kernel) hX.us hX.ss hS (by rw [hml]; exact hl.1) dX12_needTenths_28 dX12_needTenths_31 dX12_needTenths_32 dX12_needTenths_35 dX12_needTenths_38 (fun x9 hx9 => (htab x9 hx9).elim) (Nat.le_of_ble_eq_true rfl) (Nat.le_of_ble_eq_true rfl) (Nat.le_of_ble_eq_true rfl) (Nat.le_of_ble_eq_true rfl) hlocks (fun t h1 h2 h3 => by rw [hxx]; have hh := Option.some.inj h; exact ⟨(()), snd_of hh, ⟨exE_2 (fst_of hh).symm, ex_po hP hK h1 h3⟩, ex_F hS h2 h3⟩) hS.2.2 (by decide) (by decide)
        · rw [if_neg c4] at h
          refine lv_iload_n hx hb dX12_needTenths_20 rfl (lv_at hl 0 rfl) ?_
          refine lv_iload_n hx hb dX12_needTenths_21 rfl (lv_at hl 1 rfl) ?_
          refine lv_iadd hx hb dX12_needTenths_22 ?_
          refine lv_bipush (v := (10 : Int32)) hx hb dX12_needTenths_23 (by decide) ?_
          refine lv_icmp_le (tgt := 39) hx hb dX12_needTenths_25 (by decide) (fun c5 => ?_) (fun c5 => ?_)
          · rw [if_pos c5] at h
            refine vx_ret ?_
            refine W.widen (k := 1) (n := 6) (by decide) (by decide) ?_
            exact W.vret hx hb hr (fun t ht hW => by rw [hqq]; have hh := Option.some.inj h; exact ⟨⟨(()), rfl, ⟨fst_of hh, snd_of hh⟩, by rw [ht]; exact hP, va_K.moved hW.alike hK⟩, hS.F ht⟩) hS.2.2 dX12_needTenths_39
          · rw [if_neg c5] at h
            refine vx_throwSW (XC := xx) (text := "no such tenths") (names := ["java/lang/RuntimeException", "java/lang/Exception"]) hx hb hl9 hown (by decide) (by decide) lk0 lk1 (hX.tx 371 "no such tenths" (by decide)) (ex_at256 gd256 hX) (by decide +kernel) hX.us hX.ss hS (by rw [hml]; exact hl.1) dX12_needTenths_28 dX12_needTenths_31 dX12_needTenths_32 dX12_needTenths_35 dX12_needTenths_38 (fun x9 hx9 => (htab x9 hx9).elim) (Nat.le_of_ble_eq_true rfl) (Nat.le_of_ble_eq_true rfl) (Nat.le_of_ble_eq_true rfl) (Nat.le_of_ble_eq_true rfl) hlocks (fun t h1 h2 h3 => by rw [hxx]; have hh := Option.some.inj h; exact ⟨(()), snd_of hh, ⟨exE_2 (fst_of hh).symm, ex_po hP hK h1 h3⟩, ex_F hS h2 h3⟩) hS.2.2 (by decide) (by decide)

abbrev w_X12_mean (cy : Nat → ClassId) (a0 : Nat → Nat) (gg : Int32 × Int32 × Int32 × Int32 × Int32 × Int32) (gvn : Int32 × Int32 × (Nat → Int32) × (Nat → Int32) × (Nat → Int32) × (Nat → Int32) × (Nat → Int32)) (gdn : Int32 × Int32 × (Nat → Int32) × (Nat → Int32) × (Nat → Int32) × (Nat → Int32)) (gwa : (Nat → Int64) × Int64) : va_W := [(a0 0, .inr (10, [.ref (a0 1), .int (gg.1), .int (gg.2.1), .int (gg.2.2.1), .int (gg.2.2.2.1), .int (gg.2.2.2.2.1), .ref (a0 2), .ref (a0 17), .ref (a0 32), .int (gg.2.2.2.2.2), .ref (a0 47), .ref (a0 48), .ref (a0 49), .ref (a0 50), .ref (a0 68), .ref (a0 78), .ref (a0 80)])), (a0 2, .inr (7, [.int (gvn.1), .int (gvn.2.1), .ref (a0 3), .ref (a0 8), .ref (a0 12), .ref (a0 13), .ref (a0 14), .ref (a0 15), .ref (a0 16)])), (a0 3, .inr (2, [.int (gdn.1), .int (gdn.2.1), .ref (a0 4), .ref (a0 5), .ref (a0 6), .ref (a0 7)])), (a0 4, .inl (cy 1, 10, .inl (gdn.2.2.1))), (a0 5, .inl (cy 1, 10, .inl (gdn.2.2.2.1))), (a0 6, .inl (cy 1, 10, .inl (gdn.2.2.2.2.1))), (a0 7, .inl (cy 1, 50, .inl (gdn.2.2.2.2.2))), (a0 12, .inl (cy 1, 5, .inl (gvn.2.2.1))), (a0 13, .inl (cy 1, 5, .inl (gvn.2.2.2.1))), (a0 14, .inl (cy 1, 5, .inl (gvn.2.2.2.2.1))), (a0 15, .inl (cy 1, 5, .inl (gvn.2.2.2.2.2.1))), (a0 16, .inl (cy 1, 5, .inl (gvn.2.2.2.2.2.2))), (a0 80, .inr (9, [.ref (a0 81), .long (gwa.2)])), (a0 81, .inl (cy 2, 49, .inr (.inl (gwa.1))))]
abbrev rm_X12_mean : Room := { frames := 7, cells := 3, slots := 18, locals := 118 }
set_option maxHeartbeats 1000000 in
set_option maxRecDepth 100000 in
theorem c_X12_mean (l : Launch) (dC : Nat → ClassId) (dI : Nat → Nat → Nat) (cy : Nat → ClassId) (z : Nat → Nat) (hl9 : l.stackTraces = false) (a0 : Nat → Nat) (gg : Int32 × Int32 × Int32 × Int32 × Int32 × Int32) (gvn : Int32 × Int32 × (Nat → Int32) × (Nat → Int32) × (Nat → Int32) × (Nat → Int32) × (Nat → Int32)) (gdn : Int32 × Int32 × (Nat → Int32) × (Nat → Int32) × (Nat → Int32) × (Nat → Int32)) (gwa : (Nat → Int64) × Int64) (x1 : Int32) (x2 : Int32) (x3 : Int32) (x4 : Int32) (sz : Nat) (R0 : (Int32 ⊕ Nat) × (((Nat → Int64) × Int64))) (h : p_X12_mean gvn gdn gwa x1 x2 x3 x4 = some R0) : vx_Met l yX12_mean wsX12_mean rm_X12_mean (va_Pc [.ref (a0 0), .int x1, .int x2, .int x3, .int x4] (prS dC dI cy z (w_X12_mean cy a0 gg gvn gdn gwa) sz)) (va_Qi (fun (r : Int32) (u : ((Nat → Int64) × Int64)) => Sum.inl r = R0.1 ∧ u = R0.2) (fun (u : ((Nat → Int64) × Int64)) t => poC dC dI cy (w_X12_mean cy a0 gg gvn gdn u) t) (va_A (w_X12_mean cy a0 gg gvn gdn gwa) sz)) (vx_X (fun (u : ((Nat → Int64) × Int64)) => u = R0.2) (fun E (u : ((Nat → Int64) × Int64)) t => exE E R0.1 ∧ poC dC dI cy (w_X12_mean cy a0 gg gvn gdn u) t) (va_A (w_X12_mean cy a0 gg gvn gdn gwa) sz)) 3 18 (va_A (w_X12_mean cy a0 gg gvn gdn gwa) sz) := by
  refine vx_ofW (cc := cX12_mean) (maxL := 6) (ret := (some .int)) (by decide) rfl ?_
  intro p e s m aa below meth c s₁ B hml htab hv
  obtain ⟨haa, ⟨hsz, hP, hK, hD0⟩, hX⟩ := hv
  have hx := B.exec
  have hb := B.bytes
  have hr := B.returns
  have hts := atoms_spec (ws := wsX12_mean) B.pre
  have hown : s.vm.findClass RX12 = some m.cls := findClass_of_methodNamed B.named
  have hlocks := B.notSynchronized
  subst hsz
  have hD := hD0.self (sz := s.heap.size)
  obtain ⟨qq, hqq⟩ : ∃ qq, qq = (va_Qi (fun (r : Int32) (u : ((Nat → Int64) × Int64)) => Sum.inl r = R0.1 ∧ u = R0.2) (fun (u : ((Nat → Int64) × Int64)) t => poC dC dI cy (w_X12_mean cy a0 gg gvn gdn u) t) (va_A (w_X12_mean cy a0 gg gvn gdn gwa) s.heap.size)) := ⟨_, rfl⟩
  obtain ⟨xx, hxx⟩ : ∃ xx, xx = (vx_X (fun (u : ((Nat → Int64) × Int64)) => u = R0.2) (fun E (u : ((Nat → Int64) × Int64)) t => exE E R0.1 ∧ poC dC dI cy (w_X12_mean cy a0 gg gvn gdn u) t) (va_A (w_X12_mean cy a0 gg gvn gdn gwa) s.heap.size)) := ⟨_, rfl⟩
  rw [← hqq, ← hxx]
  generalize hAe : va_A (w_X12_mean cy a0 gg gvn gdn gwa) s.heap.size = A at hD hqq hxx hX ⊢
  have hA : ∀ q : Nat, s.heap.size ≤ q → A q := fun q h => by rw [← hAe]; exact Or.inr h
  have hS : va_S A s.heap s.heap [] := va_S.rf
  have hl := lv_entry ([.ref (a0 0), .int x1, .int x2, .int x3, .int x4]) (n := 6) (Nat.le_of_ble_eq_true rfl)
  have hE : entryFrame m aa 6 = F0 m 0 ((lg_sl ([.ref (a0 0), .int x1, .int x2, .int x3, .int x4]) ++ List.replicate (6 - (lg_sl ([.ref (a0 0), .int x1, .int x2, .int x3, .int x4])).length) Slot.unset).toArray) [] := by rw [haa]; exact lg_entry_eq m _ 6
  refine W.eq hE ?_
  generalize (lg_sl ([.ref (a0 0), .int x1, .int x2, .int x3, .int x4]) ++ List.replicate (6 - (lg_sl ([.ref (a0 0), .int x1, .int x2, .int x3, .int x4])).length) Slot.unset).toArray = ls at hl ⊢
  have hl : lv_has ls 6 [(0, .ref (a0 0)), (1, .int x1), (2, .int x2), (3, .int x3), (4, .int x4)] := hl
  change W p l e rm_X12_mean s m aa below meth c s.heap [] 0 0 (vx_MQ below qq xx aa s 3 18 A) (F0 m 0 ls [])
  have hS0 := hS
  have lk0 := hts (.fieldLink RX12 79 "GoatDoors" "walk" "LGoatDoors$Walk;") (by decide +kernel)
  have lk1 := hts (.fieldLink RX12 20 "GoatDoors" "now" "LGoatDoors$Village;") (by decide +kernel)
  have lk2 := hts (.fieldLink RX12 130 "GoatDoors$Village" "doors" "LGoatDoors$Doors;") (by decide +kernel)
  have lk3 := hts (.classLink RX12 252 "java/lang/IllegalArgumentException") (by decide +kernel)
  have lk4 := hts (.initialized "java/lang/IllegalArgumentException") (by decide +kernel)
  have lk5 := hts (.fieldLink RX12 142 "GoatDoors$Village" "base" "I") (by decide +kernel)
  have in_X12 : ∀ w ∈ wsX120, w ∈ wsX12_mean := by decide +kernel
  have in_X9 : ∀ w ∈ wsX90, w ∈ wsX12_mean := by decide +kernel
  have gd256 : ∀ w ∈ (vx_atS RX12 256 "java/lang/IllegalArgumentException" ["java/lang/RuntimeException", "java/lang/Exception"]).filter goodWord, w.before aa s = true := fun w hw => hts w ((show ∀ w ∈ (vx_atS RX12 256 "java/lang/IllegalArgumentException" ["java/lang/RuntimeException", "java/lang/Exception"]).filter goodWord, w ∈ wsX12_mean by decide +kernel) w hw)
  have c49 : ∀ (n : Nat), ∀ (gwa : (Nat → Int64) × Int64) (x1 : Int32) (x2 : Int32) (x3 : Int32) (x4 : Int32) (x5 : Int32) (H : Heap) (locs : List Loc) (ls : Array Slot), p_X12_mean_49 gvn gdn n gwa x1 x2 x3 x4 x5 = some R0 → va_P (dC, dI) vwCl (w_X12_mean cy a0 gg gvn gdn gwa) H → va_D A (w_X12_mean cy a0 gg gvn gdn gwa) → va_S A s.heap H locs → lv_has ls 6 [(0, .ref (a0 0)), (1, .int x1), (2, .int x2), (3, .int x3), (4, .int x4), (5, .int x5)] → W p l e rm_X12_mean s m aa below meth c H locs 2 12 (vx_MQ below qq xx aa s 3 18 A) (F0 m 49 ls []) := by
    intro  n
    induction n with
    | zero => intro gwa x1 x2 x3 x4 x5 H locs ls h; exact no_some h
    | succ n ih =>
      intro gwa x1 x2 x3 x4 x5 H locs ls h hP hD hS hl
      rw [p_X12_mean_49.eq_2] at h
      refine lv_iload hx hb dX12_mean_49 (lv_at hl 5 rfl) ?_
      refine lv_iload_n hx hb dX12_mean_51 rfl (lv_at hl 2 rfl) ?_
      refine lv_icmp_ge (tgt := 71) hx hb dX12_mean_52 (by decide) (fun c1 => ?_) (fun c1 => ?_)
      · rw [if_pos c1] at h
        refine lv_aload_n hx hb dX12_mean_71 rfl (lv_at hl 0 rfl) ?_
        refine va_get (D := (dC, dI)) (ci := 10) (v := .ref (a0 80)) (C := RX12) (T := TX12) (N := 17) hx hb hts in_X12 hown hK hP 0 rfl rfl 16 (by decide) lk0 (fun _ h9 => h9) rfl dX12_mean_72 ?_
        refine lv_aload_n hx hb dX12_mean_75 rfl (lv_at hl 0 rfl) ?_
        refine va_get (D := (dC, dI)) (ci := 10) (v := .ref (a0 2)) (C := RX12) (T := TX12) (N := 17) hx hb hts in_X12 hown hK hP 0 rfl rfl 6 (by decide) lk1 (fun _ h9 => h9) rfl dX12_mean_76 ?_
        refine va_get (D := (dC, dI)) (ci := 7) (v := .ref (a0 3)) (C := RX9) (T := TX9) (N := 9) hx hb hts in_X9 hown hK hP 1 rfl rfl 2 (by decide) lk2 (fun _ h9 => h9) rfl dX12_mean_79 ?_
        refine lv_iload_n hx hb dX12_mean_82 rfl (lv_at hl 1 rfl) ?_
        obtain ⟨v2, hv3, h⟩ := ok_bind h
        refine cl_vl (w2 := fun (_ : Unit) => w_X12_mean cy a0 gg gvn gdn gwa) (As := [.ref (a0 3), .int x1]) (rest := []) ⟨hx, hb, hml, hown, hts⟩ (c_X11_meanOf l dC dI cy (fun k => a0 (k + 80)) (fun k => a0 (k + 3)) gwa gdn x1 H.size v2 hv3) (cwV 2 hts gX12_mean_X11_meanOf rfl rfl rfl (by decide +kernel) ⟨Nat.le_of_ble_eq_true rfl, Nat.le_of_ble_eq_true rfl⟩) (va_recv hK hP (ci := 9) (q0 := 12) rfl rfl) cl_blind (cl_pre hK hP hD [12, 13, 2, 3, 4, 5, 6] (by decide) rfl) hP hD hS hA [12, 13, 2, 3, 4, 5, 6] rfl rfl hl.1 rfl (lv_room (Nat.le_of_ble_eq_true rfl)) dX12_mean_83 ⟨Nat.le_of_ble_eq_true rfl, Nat.le_of_ble_eq_true rfl⟩ ⟨rfl, rfl⟩ (fun _ => updR [12, 13, 2, 3, 4, 5, 6] rfl) (fun r u H locs hw hP hD hS => ?_)
        have hw := hw.symm
        subst hw
        have hP : va_P (dC, dI) vwCl (w_X12_mean cy a0 gg gvn gdn gwa) H := hP
        have hD : va_D A (w_X12_mean cy a0 gg gvn gdn gwa) := hD
        refine lv_l2i hx hb dX12_mean_86 rfl ?_
        refine vx_ret ?_
        refine W.widen (k := 3) (n := 18) (by decide) (by decide) ?_
        exact W.iret (v := v2.toInt32) hx hb hr (fun t ht hW => by rw [hqq]; have hh := Option.some.inj h; exact ⟨⟨v2.toInt32, (gwa), rfl, ⟨fst_of hh, snd_of hh⟩, by rw [ht]; exact hP, va_K.moved hW.alike hK⟩, hS.F ht⟩) hS.2.2 dX12_mean_87
      · rw [if_neg c1] at h
        refine lv_aload_n hx hb dX12_mean_55 rfl (lv_at hl 0 rfl) ?_
        refine va_get (D := (dC, dI)) (ci := 10) (v := .ref (a0 80)) (C := RX12) (T := TX12) (N := 17) hx hb hts in_X12 hown hK hP 0 rfl rfl 16 (by decide) lk0 (fun _ h9 => h9) rfl dX12_mean_56 ?_
        refine lv_iload_n hx hb dX12_mean_59 rfl (lv_at hl 3 rfl) ?_
        refine lv_iload hx hb dX12_mean_60 (lv_at hl 4 rfl) ?_
        obtain ⟨v4, hv5, h⟩ := ok_bind h
        refine cl_vv (w2 := fun (u : ((Nat → Int64) × Int64)) => w_X12_mean cy a0 gg gvn gdn u) (As := [.int x3, .int x4]) (rest := []) ⟨hx, hb, hml, hown, hts⟩ (c_X11_step l dC dI cy (fun k => a0 (k + 80)) gwa x3 x4 H.size v4 hv5) (cwV 2 hts gX12_mean_X11_step rfl rfl rfl (by decide +kernel) ⟨Nat.le_of_ble_eq_true rfl, Nat.le_of_ble_eq_true rfl⟩) (va_recv hK hP (ci := 9) (q0 := 12) rfl rfl) cl_blind (cl_pre hK hP hD [12, 13] (by decide) rfl) hP hD hS hA [12, 13] rfl rfl hl.1 rfl (lv_room (Nat.le_of_ble_eq_true rfl)) dX12_mean_62 ⟨Nat.le_of_ble_eq_true rfl, Nat.le_of_ble_eq_true rfl⟩ ⟨rfl, rfl⟩ (fun _ => updM [12, 13] [0, 1, 2, 3, 4, 5, 6, 7, 8, 9, 10, 11] [(a0 0, .inr (10, [.ref (a0 1), .int (gg.1), .int (gg.2.1), .int (gg.2.2.1), .int (gg.2.2.2.1), .int (gg.2.2.2.2.1), .ref (a0 2), .ref (a0 17), .ref (a0 32), .int (gg.2.2.2.2.2), .ref (a0 47), .ref (a0 48), .ref (a0 49), .ref (a0 50), .ref (a0 68), .ref (a0 78), .ref (a0 80)])), (a0 2, .inr (7, [.int (gvn.1), .int (gvn.2.1), .ref (a0 3), .ref (a0 8), .ref (a0 12), .ref (a0 13), .ref (a0 14), .ref (a0 15), .ref (a0 16)])), (a0 3, .inr (2, [.int (gdn.1), .int (gdn.2.1), .ref (a0 4), .ref (a0 5), .ref (a0 6), .ref (a0 7)])), (a0 4, .inl (cy 1, 10, .inl (gdn.2.2.1))), (a0 5, .inl (cy 1, 10, .inl (gdn.2.2.2.1))), (a0 6, .inl (cy 1, 10, .inl (gdn.2.2.2.2.1))), (a0 7, .inl (cy 1, 50, .inl (gdn.2.2.2.2.2))), (a0 12, .inl (cy 1, 5, .inl (gvn.2.2.1))), (a0 13, .inl (cy 1, 5, .inl (gvn.2.2.2.1))), (a0 14, .inl (cy 1, 5, .inl (gvn.2.2.2.2.1))), (a0 15, .inl (cy 1, 5, .inl (gvn.2.2.2.2.2.1))), (a0 16, .inl (cy 1, 5, .inl (gvn.2.2.2.2.2.2)))] 14 rfl rfl rfl rfl rfl (by decide +kernel) (by decide +kernel) rfl) (fun u H locs hw hP hD hS => ?_)
        have hw := hw.symm
        subst hw
        have hP : va_P (dC, dI) vwCl (w_X12_mean cy a0 gg gvn gdn v4) H := hP
        have hD : va_D A (w_X12_mean cy a0 gg gvn gdn v4) := hD
        refine lv_iinc (v := (x5 + (1 : Int32))) (lv' := [(5, .int (x5 + (1 : Int32))), (0, .ref (a0 0)), (1, .int x1), (2, .int x2), (3, .int x3), (4, .int x4)]) hx hb dX12_mean_65 hl (k := 5) rfl rfl (by decide) rfl (fun ls hl => ?_)
        refine lv_goto (tgt := 49) hx hb dX12_mean_68 (by decide) ?_
        exact ih v4 x1 x2 x3 x4 (x5 + (1 : Int32)) H locs ls h hP hD hS (lv_sub hl [1, 2, 3, 4, 5, 0] rfl)
  obtain ⟨H, hH⟩ : ∃ H : Heap, H = s.heap := ⟨_, rfl⟩
  obtain ⟨locs, hlocs⟩ : ∃ locs : List Loc, locs = [] := ⟨_, rfl⟩
  have hS : va_S A s.heap H locs := by rw [hH, hlocs]; exact hS
  rw [← hH] at hP
  suffices hg : W p l e rm_X12_mean s m aa below meth c H locs 0 0 (vx_MQ below qq xx aa s 3 18 A) (F0 m 0 ls []) by subst hH; subst hlocs; exact hg
  unfold p_X12_mean at h
  refine lv_aload_n hx hb dX12_mean_0 rfl (lv_at hl 0 rfl) ?_
  refine lv_iload_n hx hb dX12_mean_1 rfl (lv_at hl 1 rfl) ?_
  obtain ⟨v1, hv2, h⟩ := ok_bind h
  refine cx_vv (w2 := fun (_ : Unit) => w_X12_mean cy a0 gg gvn gdn gwa) (w2x := fun (_ : Unit) => w_X12_mean cy a0 gg gvn gdn gwa) (As := [.int x1]) (rest := []) ⟨hx, hb, hml, hown, hts⟩ (c_X12_needDoor l dC dI cy z hl9 a0 gg gvn gdn x1 H.size v1 hv2) (cwV 1 hts gX12_mean_X12_needDoor rfl rfl rfl (by decide +kernel) ⟨Nat.le_of_ble_eq_true rfl, Nat.le_of_ble_eq_true rfl⟩) (va_recv hK hP (ci := 10) (q0 := 0) rfl rfl) cl_blindS (cl_preS hK hP hD hS hA hX [0, 1, 2, 3, 4, 5, 6] (by decide) rfl) hP hD hS hA [0, 1, 2, 3, 4, 5, 6] rfl rfl hl.1 rfl (lv_room (Nat.le_of_ble_eq_true rfl)) dX12_mean_2 ⟨Nat.le_of_ble_eq_true rfl, Nat.le_of_ble_eq_true rfl⟩ (cells' := 1) (slots' := 6) ⟨rfl, rfl⟩ (fun _ => updR [0, 1, 2, 3, 4, 5, 6] rfl) (fun _ => updR [0, 1, 2, 3, 4, 5, 6] rfl) (fun E ce q9 u H locs hw hE hP hD hS hc1 hc2 hc3 => ?_) (fun u H locs hw hP hD hS => ?_)
  · subst hw
    have hP : va_P (dC, dI) vwCl (w_X12_mean cy a0 gg gvn gdn gwa) H := hP
    obtain ⟨hE1, hE2⟩ := exE_pass hE h
    exact vx_out (fun x9 hx9 => (htab x9 hx9).elim) hlocks hc1 hc2 hc3 (fun t h1 h2 => by rw [hxx]; exact ⟨_, hE2.symm, ⟨hE1, by rw [h1]; exact hP, va_K.moved h2 hK⟩, hS.F h1⟩) hS.2.2 (by decide) (by decide)
  obtain ⟨hw1, hw2⟩ := hw
  subst hw2
  rw [← hw1] at h
  dsimp only [xb] at h
  have hP : va_P (dC, dI) vwCl (w_X12_mean cy a0 gg gvn gdn gwa) H := hP
  have hD : va_D A (w_X12_mean cy a0 gg gvn gdn gwa) := hD
  refine lv_iload_n hx hb dX12_mean_5 rfl (lv_at hl 3 rfl) ?_
  refine lv_iload hx hb dX12_mean_6 (lv_at hl 4 rfl) ?_
  obtain ⟨v3, hv4, h⟩ := ok_bind h
  refine cx_sv (w2 := fun (_ : Unit) => w_X12_mean cy a0 gg gvn gdn gwa) (w2x := fun (_ : Unit) => w_X12_mean cy a0 gg gvn gdn gwa) (As := [.int x3, .int x4]) (rest := []) ⟨hx, hb, hml, hown, hts⟩ (c_X12_needTenths l dC dI cy z hl9  x3 x4 H.size v3 hv4) (va_cwS 2 hts gX12_mean_X12_needTenths rfl rfl rfl (by decide +kernel) ⟨Nat.le_of_ble_eq_true rfl, Nat.le_of_ble_eq_true rfl⟩) cl_blindS (cl_preS hK hP hD hS hA hX [] (by decide) rfl) hP hD hS hA [] rfl rfl hl.1 rfl (lv_room (Nat.le_of_ble_eq_true rfl)) dX12_mean_8 ⟨Nat.le_of_ble_eq_true rfl, Nat.le_of_ble_eq_true rfl⟩ (cells' := 2) (slots' := 12) ⟨rfl, rfl⟩ (fun _ => updR [] rfl) (fun _ => updR [] rfl) (fun E ce q9 u H locs hw hE hP hD hS hc1 hc2 hc3 => ?_) (fun u H locs hw hP hD hS => ?_)
  · subst hw
    have hP : va_P (dC, dI) vwCl (w_X12_mean cy a0 gg gvn gdn gwa) H := hP
    obtain ⟨hE1, hE2⟩ := exE_pass hE h
    exact vx_out (fun x9 hx9 => (htab x9 hx9).elim) hlocks hc1 hc2 hc3 (fun t h1 h2 => by rw [hxx]; exact ⟨_, hE2.symm, ⟨hE1, by rw [h1]; exact hP, va_K.moved h2 hK⟩, hS.F h1⟩) hS.2.2 (by decide) (by decide)
  obtain ⟨hw1, hw2⟩ := hw
  subst hw2
  rw [← hw1] at h
  dsimp only [xb] at h
  have hP : va_P (dC, dI) vwCl (w_X12_mean cy a0 gg gvn gdn gwa) H := hP
  have hD : va_D A (w_X12_mean cy a0 gg gvn gdn gwa) := hD
  refine lv_iload_n hx hb dX12_mean_11 rfl (lv_at hl 2 rfl) ?_
  refine lv_if_lt (tgt := 21) hx hb dX12_mean_12 (by decide) (fun c5 => ?_) (fun c5 => ?_)
  · rw [if_pos c5] at h
    refine vx_throwSW (XC := xx) (text := "no such day") (names := ["java/lang/RuntimeException", "java/lang/Exception"]) hx hb hl9 hown (by decide) (by decide) lk3 lk4 (hX.tx 327 "no such day" (by decide)) (ex_at256 gd256 hX) (by decide +kernel) hX.us hX.ss hS (by rw [hml]; exact hl.1) dX12_mean_21 dX12_mean_24 dX12_mean_25 dX12_mean_28 dX12_mean_31 (fun x9 hx9 => (htab x9 hx9).elim) (Nat.le_of_ble_eq_true rfl) (Nat.le_of_ble_eq_true rfl) (Nat.le_of_ble_eq_true rfl) (Nat.le_of_ble_eq_true rfl) hlocks (fun t h1 h2 h3 => by rw [hxx]; have hh := Option.some.inj h; exact ⟨(gwa), snd_of hh, ⟨exE_2 (fst_of hh).symm, ex_po hP hK h1 h3⟩, ex_F hS h2 h3⟩) hS.2.2 (by decide) (by decide)
  · rw [if_neg c5] at h
    refine lv_iload_n hx hb dX12_mean_15 rfl (lv_at hl 2 rfl) ?_
    refine lv_bipush (v := (8 : Int32)) hx hb dX12_mean_16 (by decide) ?_
    refine lv_icmp_le (tgt := 32) hx hb dX12_mean_18 (by decide) (fun c6 => ?_) (fun c6 => ?_)
    · rw [if_pos c6] at h
      refine lv_aload_n hx hb dX12_mean_32 rfl (lv_at hl 0 rfl) ?_
      refine va_get (D := (dC, dI)) (ci := 10) (v := .ref (a0 80)) (C := RX12) (T := TX12) (N := 17) hx hb hts in_X12 hown hK hP 0 rfl rfl 16 (by decide) lk0 (fun _ h9 => h9) rfl dX12_mean_33 ?_
      refine lv_aload_n hx hb dX12_mean_36 rfl (lv_at hl 0 rfl) ?_
      refine va_get (D := (dC, dI)) (ci := 10) (v := .ref (a0 2)) (C := RX12) (T := TX12) (N := 17) hx hb hts in_X12 hown hK hP 0 rfl rfl 6 (by decide) lk1 (fun _ h9 => h9) rfl dX12_mean_37 ?_
      refine va_get (D := (dC, dI)) (ci := 7) (v := .int gvn.2.1) (C := RX9) (T := TX9) (N := 9) hx hb hts in_X9 hown hK hP 1 rfl rfl 1 (by decide) lk5 (fun _ h9 => h9) rfl dX12_mean_40 ?_
      obtain ⟨v7, hv8, h⟩ := ok_bind h
      refine cl_vv (w2 := fun (u : ((Nat → Int64) × Int64)) => w_X12_mean cy a0 gg gvn gdn u) (As := [.int gvn.2.1]) (rest := []) ⟨hx, hb, hml, hown, hts⟩ (c_X11_begin l dC dI cy (fun k => a0 (k + 80)) gwa gvn.2.1 H.size v7 hv8) (cwV 1 hts gX12_mean_X11_begin rfl rfl rfl (by decide +kernel) ⟨Nat.le_of_ble_eq_true rfl, Nat.le_of_ble_eq_true rfl⟩) (va_recv hK hP (ci := 9) (q0 := 12) rfl rfl) cl_blind (cl_pre hK hP hD [12, 13] (by decide) rfl) hP hD hS hA [12, 13] rfl rfl hl.1 rfl (lv_room (Nat.le_of_ble_eq_true rfl)) dX12_mean_43 ⟨Nat.le_of_ble_eq_true rfl, Nat.le_of_ble_eq_true rfl⟩ ⟨rfl, rfl⟩ (fun _ => updM [12, 13] [0, 1, 2, 3, 4, 5, 6, 7, 8, 9, 10, 11] [(a0 0, .inr (10, [.ref (a0 1), .int (gg.1), .int (gg.2.1), .int (gg.2.2.1), .int (gg.2.2.2.1), .int (gg.2.2.2.2.1), .ref (a0 2), .ref (a0 17), .ref (a0 32), .int (gg.2.2.2.2.2), .ref (a0 47), .ref (a0 48), .ref (a0 49), .ref (a0 50), .ref (a0 68), .ref (a0 78), .ref (a0 80)])), (a0 2, .inr (7, [.int (gvn.1), .int (gvn.2.1), .ref (a0 3), .ref (a0 8), .ref (a0 12), .ref (a0 13), .ref (a0 14), .ref (a0 15), .ref (a0 16)])), (a0 3, .inr (2, [.int (gdn.1), .int (gdn.2.1), .ref (a0 4), .ref (a0 5), .ref (a0 6), .ref (a0 7)])), (a0 4, .inl (cy 1, 10, .inl (gdn.2.2.1))), (a0 5, .inl (cy 1, 10, .inl (gdn.2.2.2.1))), (a0 6, .inl (cy 1, 10, .inl (gdn.2.2.2.2.1))), (a0 7, .inl (cy 1, 50, .inl (gdn.2.2.2.2.2))), (a0 12, .inl (cy 1, 5, .inl (gvn.2.2.1))), (a0 13, .inl (cy 1, 5, .inl (gvn.2.2.2.1))), (a0 14, .inl (cy 1, 5, .inl (gvn.2.2.2.2.1))), (a0 15, .inl (cy 1, 5, .inl (gvn.2.2.2.2.2.1))), (a0 16, .inl (cy 1, 5, .inl (gvn.2.2.2.2.2.2)))] 14 rfl rfl rfl rfl rfl (by decide +kernel) (by decide +kernel) rfl) (fun u H locs hw hP hD hS => ?_)
      have hw := hw.symm
      subst hw
      have hP : va_P (dC, dI) vwCl (w_X12_mean cy a0 gg gvn gdn v7) H := hP
      have hD : va_D A (w_X12_mean cy a0 gg gvn gdn v7) := hD
      refine lv_iconst (v := (0 : Int32)) hx hb dX12_mean_46 (by decide) ?_
      refine lv_istore (lv' := [(5, .int (0 : Int32)), (0, .ref (a0 0)), (1, .int x1), (2, .int x2), (3, .int x3), (4, .int x4)]) hx hb dX12_mean_47 hl (by decide) rfl (fun ls hl => ?_)
      exact c49 fu v7 x1 x2 x3 x4 (0 : Int32) H locs ls h hP hD hS (lv_sub hl [1, 2, 3, 4, 5, 0] rfl)
    · rw [if_neg c6] at h
      refine vx_throwSW (XC := xx) (text := "no such day") (names := ["java/lang/RuntimeException", "java/lang/Exception"]) hx hb hl9 hown (by decide) (by decide) lk3 lk4 (hX.tx 327 "no such day" (by decide)) (ex_at256 gd256 hX) (by decide +kernel) hX.us hX.ss hS (by rw [hml]; exact hl.1) dX12_mean_21 dX12_mean_24 dX12_mean_25 dX12_mean_28 dX12_mean_31 (fun x9 hx9 => (htab x9 hx9).elim) (Nat.le_of_ble_eq_true rfl) (Nat.le_of_ble_eq_true rfl) (Nat.le_of_ble_eq_true rfl) (Nat.le_of_ble_eq_true rfl) hlocks (fun t h1 h2 h3 => by rw [hxx]; have hh := Option.some.inj h; exact ⟨(gwa), snd_of hh, ⟨exE_2 (fst_of hh).symm, ex_po hP hK h1 h3⟩, ex_F hS h2 h3⟩) hS.2.2 (by decide) (by decide)

abbrev w_X12_pay (cy : Nat → ClassId) (a0 : Nat → Nat) (gg : Int32 × Int32 × Int32 × Int32 × Int32 × Int32) (gvn : Int32 × Int32 × (Nat → Int32) × (Nat → Int32) × (Nat → Int32) × (Nat → Int32) × (Nat → Int32)) (gdn : Int32 × Int32 × (Nat → Int32) × (Nat → Int32) × (Nat → Int32) × (Nat → Int32)) (gwa : (Nat → Int64) × Int64) : va_W := [(a0 0, .inr (10, [.ref (a0 1), .int (gg.1), .int (gg.2.1), .int (gg.2.2.1), .int (gg.2.2.2.1), .int (gg.2.2.2.2.1), .ref (a0 2), .ref (a0 17), .ref (a0 32), .int (gg.2.2.2.2.2), .ref (a0 47), .ref (a0 48), .ref (a0 49), .ref (a0 50), .ref (a0 68), .ref (a0 78), .ref (a0 80)])), (a0 2, .inr (7, [.int (gvn.1), .int (gvn.2.1), .ref (a0 3), .ref (a0 8), .ref (a0 12), .ref (a0 13), .ref (a0 14), .ref (a0 15), .ref (a0 16)])), (a0 3, .inr (2, [.int (gdn.1), .int (gdn.2.1), .ref (a0 4), .ref (a0 5), .ref (a0 6), .ref (a0 7)])), (a0 4, .inl (cy 1, 10, .inl (gdn.2.2.1))), (a0 5, .inl (cy 1, 10, .inl (gdn.2.2.2.1))), (a0 6, .inl (cy 1, 10, .inl (gdn.2.2.2.2.1))), (a0 7, .inl (cy 1, 50, .inl (gdn.2.2.2.2.2))), (a0 12, .inl (cy 1, 5, .inl (gvn.2.2.1))), (a0 13, .inl (cy 1, 5, .inl (gvn.2.2.2.1))), (a0 14, .inl (cy 1, 5, .inl (gvn.2.2.2.2.1))), (a0 15, .inl (cy 1, 5, .inl (gvn.2.2.2.2.2.1))), (a0 16, .inl (cy 1, 5, .inl (gvn.2.2.2.2.2.2))), (a0 80, .inr (9, [.ref (a0 81), .long (gwa.2)])), (a0 81, .inl (cy 2, 49, .inr (.inl (gwa.1))))]
abbrev rm_X12_pay : Room := { frames := 7, cells := 2, slots := 12, locals := 118 }
set_option maxHeartbeats 1000000 in
set_option maxRecDepth 100000 in
theorem c_X12_pay (l : Launch) (dC : Nat → ClassId) (dI : Nat → Nat → Nat) (cy : Nat → ClassId) (z : Nat → Nat) (hl9 : l.stackTraces = false) (a0 : Nat → Nat) (gg : Int32 × Int32 × Int32 × Int32 × Int32 × Int32) (gvn : Int32 × Int32 × (Nat → Int32) × (Nat → Int32) × (Nat → Int32) × (Nat → Int32) × (Nat → Int32)) (gdn : Int32 × Int32 × (Nat → Int32) × (Nat → Int32) × (Nat → Int32) × (Nat → Int32)) (gwa : (Nat → Int64) × Int64) (x1 : Int32) (x2 : Int32) (x3 : Int32) (sz : Nat) (R0 : (Int32 ⊕ Nat) × (((Nat → Int64) × Int64))) (h : p_X12_pay gvn gdn gwa x1 x2 x3 = some R0) : vx_Met l yX12_pay wsX12_pay rm_X12_pay (va_Pc [.ref (a0 0), .int x1, .int x2, .int x3] (prS dC dI cy z (w_X12_pay cy a0 gg gvn gdn gwa) sz)) (va_Qi (fun (r : Int32) (u : ((Nat → Int64) × Int64)) => Sum.inl r = R0.1 ∧ u = R0.2) (fun (u : ((Nat → Int64) × Int64)) t => poC dC dI cy (w_X12_pay cy a0 gg gvn gdn u) t) (va_A (w_X12_pay cy a0 gg gvn gdn gwa) sz)) (vx_X (fun (u : ((Nat → Int64) × Int64)) => u = R0.2) (fun E (u : ((Nat → Int64) × Int64)) t => exE E R0.1 ∧ poC dC dI cy (w_X12_pay cy a0 gg gvn gdn u) t) (va_A (w_X12_pay cy a0 gg gvn gdn gwa) sz)) 2 12 (va_A (w_X12_pay cy a0 gg gvn gdn gwa) sz) := by
  refine vx_ofW (cc := cX12_pay) (maxL := 10) (ret := (some .int)) (by decide) rfl ?_
  intro p e s m aa below meth c s₁ B hml htab hv
  obtain ⟨haa, ⟨hsz, hP, hK, hD0⟩, hX⟩ := hv
  have hx := B.exec
  have hb := B.bytes
  have hr := B.returns
  have hts := atoms_spec (ws := wsX12_pay) B.pre
  have hown : s.vm.findClass RX12 = some m.cls := findClass_of_methodNamed B.named
  have hlocks := B.notSynchronized
  subst hsz
  have hD := hD0.self (sz := s.heap.size)
  obtain ⟨qq, hqq⟩ : ∃ qq, qq = (va_Qi (fun (r : Int32) (u : ((Nat → Int64) × Int64)) => Sum.inl r = R0.1 ∧ u = R0.2) (fun (u : ((Nat → Int64) × Int64)) t => poC dC dI cy (w_X12_pay cy a0 gg gvn gdn u) t) (va_A (w_X12_pay cy a0 gg gvn gdn gwa) s.heap.size)) := ⟨_, rfl⟩
  obtain ⟨xx, hxx⟩ : ∃ xx, xx = (vx_X (fun (u : ((Nat → Int64) × Int64)) => u = R0.2) (fun E (u : ((Nat → Int64) × Int64)) t => exE E R0.1 ∧ poC dC dI cy (w_X12_pay cy a0 gg gvn gdn u) t) (va_A (w_X12_pay cy a0 gg gvn gdn gwa) s.heap.size)) := ⟨_, rfl⟩
  rw [← hqq, ← hxx]
  generalize hAe : va_A (w_X12_pay cy a0 gg gvn gdn gwa) s.heap.size = A at hD hqq hxx hX ⊢
  have hA : ∀ q : Nat, s.heap.size ≤ q → A q := fun q h => by rw [← hAe]; exact Or.inr h
  have hS : va_S A s.heap s.heap [] := va_S.rf
  have hl := lv_entry ([.ref (a0 0), .int x1, .int x2, .int x3]) (n := 10) (Nat.le_of_ble_eq_true rfl)
  have hE : entryFrame m aa 10 = F0 m 0 ((lg_sl ([.ref (a0 0), .int x1, .int x2, .int x3]) ++ List.replicate (10 - (lg_sl ([.ref (a0 0), .int x1, .int x2, .int x3])).length) Slot.unset).toArray) [] := by rw [haa]; exact lg_entry_eq m _ 10
  refine W.eq hE ?_
  generalize (lg_sl ([.ref (a0 0), .int x1, .int x2, .int x3]) ++ List.replicate (10 - (lg_sl ([.ref (a0 0), .int x1, .int x2, .int x3])).length) Slot.unset).toArray = ls at hl ⊢
  have hl : lv_has ls 10 [(0, .ref (a0 0)), (1, .int x1), (2, .int x2), (3, .int x3)] := hl
  change W p l e rm_X12_pay s m aa below meth c s.heap [] 0 0 (vx_MQ below qq xx aa s 2 12 A) (F0 m 0 ls [])
  have hS0 := hS
  have lk0 := hts (.fieldLink RX12 79 "GoatDoors" "walk" "LGoatDoors$Walk;") (by decide +kernel)
  have lk1 := hts (.fieldLink RX12 20 "GoatDoors" "now" "LGoatDoors$Village;") (by decide +kernel)
  have lk2 := hts (.fieldLink RX12 130 "GoatDoors$Village" "doors" "LGoatDoors$Doors;") (by decide +kernel)
  have lk3 := hts (.fieldLink RX12 142 "GoatDoors$Village" "base" "I") (by decide +kernel)
  have in_X12 : ∀ w ∈ wsX120, w ∈ wsX12_pay := by decide +kernel
  have in_X9 : ∀ w ∈ wsX90, w ∈ wsX12_pay := by decide +kernel
  have c96 : ∀ (k47 : ((Nat → Int64) × Int64) → Int32 → Int32 → Int32 → Int32 → Int64 → Int32 → Option ((Int32 ⊕ Nat) × (((Nat → Int64) × Int64)))) (hk47 : ∀ (gwa : (Nat → Int64) × Int64) (x1 : Int32) (x2 : Int32) (x3 : Int32) (x4 : Int32) (x5 : Int64) (x7 : Int32) (H : Heap) (locs : List Loc) (ls : Array Slot), k47 gwa x1 x2 x3 x4 x5 x7 = some R0 → va_P (dC, dI) vwCl (w_X12_pay cy a0 gg gvn gdn gwa) H → va_D A (w_X12_pay cy a0 gg gvn gdn gwa) → va_S A s.heap H locs → lv_has ls 10 [(0, .ref (a0 0)), (1, .int x1), (2, .int x2), (3, .int x3), (4, .int x4), (5, .long x5), (7, .int x7)] → W p l e rm_X12_pay s m aa below meth c H locs 2 12 (vx_MQ below qq xx aa s 2 12 A) (F0 m 47 ls [])), ∀ (gwa : (Nat → Int64) × Int64) (x1 : Int32) (x2 : Int32) (x3 : Int32) (x4 : Int32) (x5 : Int64) (x7 : Int32) (H : Heap) (locs : List Loc) (ls : Array Slot), p_X12_pay_96 k47 gvn gdn gwa x1 x2 x3 x4 x5 x7 = some R0 → va_P (dC, dI) vwCl (w_X12_pay cy a0 gg gvn gdn gwa) H → va_D A (w_X12_pay cy a0 gg gvn gdn gwa) → va_S A s.heap H locs → lv_has ls 10 [(0, .ref (a0 0)), (1, .int x1), (2, .int x2), (3, .int x3), (4, .int x4), (5, .long x5), (7, .int x7)] → W p l e rm_X12_pay s m aa below meth c H locs 2 12 (vx_MQ below qq xx aa s 2 12 A) (F0 m 96 ls []) := by
    intro k47 hk47 gwa x1 x2 x3 x4 x5 x7 H locs ls h hP hD hS hl
    unfold p_X12_pay_96 at h
    refine lv_iinc (v := (x7 + (1 : Int32))) (lv' := [(7, .int (x7 + (1 : Int32))), (0, .ref (a0 0)), (1, .int x1), (2, .int x2), (3, .int x3), (4, .int x4), (5, .long x5)]) hx hb dX12_pay_96 hl (k := 6) rfl rfl (by decide) rfl (fun ls hl => ?_)
    refine lv_goto (tgt := 47) hx hb dX12_pay_99 (by decide) ?_
    exact hk47 gwa x1 x2 x3 x4 x5 (x7 + (1 : Int32)) H locs ls h hP hD hS (lv_sub hl [1, 2, 3, 4, 5, 6, 0] rfl)
  have c47 : ∀ (n : Nat), ∀ (gwa : (Nat → Int64) × Int64) (x1 : Int32) (x2 : Int32) (x3 : Int32) (x4 : Int32) (x5 : Int64) (x7 : Int32) (H : Heap) (locs : List Loc) (ls : Array Slot), p_X12_pay_47 gvn gdn n gwa x1 x2 x3 x4 x5 x7 = some R0 → va_P (dC, dI) vwCl (w_X12_pay cy a0 gg gvn gdn gwa) H → va_D A (w_X12_pay cy a0 gg gvn gdn gwa) → va_S A s.heap H locs → lv_has ls 10 [(0, .ref (a0 0)), (1, .int x1), (2, .int x2), (3, .int x3), (4, .int x4), (5, .long x5), (7, .int x7)] → W p l e rm_X12_pay s m aa below meth c H locs 2 12 (vx_MQ below qq xx aa s 2 12 A) (F0 m 47 ls []) := by
    intro  n
    induction n with
    | zero => intro gwa x1 x2 x3 x4 x5 x7 H locs ls h; exact no_some h
    | succ n ih =>
      intro gwa x1 x2 x3 x4 x5 x7 H locs ls h hP hD hS hl
      rw [p_X12_pay_47.eq_2] at h
      refine lv_iload hx hb dX12_pay_47 (lv_at hl 6 rfl) ?_
      refine lv_bipush (v := (8 : Int32)) hx hb dX12_pay_49 (by decide) ?_
      refine lv_icmp_gt (tgt := 102) hx hb dX12_pay_51 (by decide) (fun c1 => ?_) (fun c1 => ?_)
      · rw [if_pos c1] at h
        refine lv_iload hx hb dX12_pay_102 (lv_at hl 4 rfl) ?_
        refine vx_ret ?_
        exact W.iret (v := x4) hx hb hr (fun t ht hW => by rw [hqq]; have hh := Option.some.inj h; exact ⟨⟨x4, (gwa), rfl, ⟨fst_of hh, snd_of hh⟩, by rw [ht]; exact hP, va_K.moved hW.alike hK⟩, hS.F ht⟩) hS.2.2 dX12_pay_104
      · rw [if_neg c1] at h
        refine lv_aload_n hx hb dX12_pay_54 rfl (lv_at hl 0 rfl) ?_
        refine va_get (D := (dC, dI)) (ci := 10) (v := .ref (a0 80)) (C := RX12) (T := TX12) (N := 17) hx hb hts in_X12 hown hK hP 0 rfl rfl 16 (by decide) lk0 (fun _ h9 => h9) rfl dX12_pay_55 ?_
        refine lv_iload_n hx hb dX12_pay_58 rfl (lv_at hl 2 rfl) ?_
        refine lv_iload_n hx hb dX12_pay_59 rfl (lv_at hl 3 rfl) ?_
        obtain ⟨v2, hv3, h⟩ := ok_bind h
        refine cl_vv (w2 := fun (u : ((Nat → Int64) × Int64)) => w_X12_pay cy a0 gg gvn gdn u) (As := [.int x2, .int x3]) (rest := []) ⟨hx, hb, hml, hown, hts⟩ (c_X11_step l dC dI cy (fun k => a0 (k + 80)) gwa x2 x3 H.size v2 hv3) (cwV 2 hts gX12_pay_X11_step rfl rfl rfl (by decide +kernel) ⟨Nat.le_of_ble_eq_true rfl, Nat.le_of_ble_eq_true rfl⟩) (va_recv hK hP (ci := 9) (q0 := 12) rfl rfl) cl_blind (cl_pre hK hP hD [12, 13] (by decide) rfl) hP hD hS hA [12, 13] rfl rfl hl.1 rfl (lv_room (Nat.le_of_ble_eq_true rfl)) dX12_pay_60 ⟨Nat.le_of_ble_eq_true rfl, Nat.le_of_ble_eq_true rfl⟩ ⟨rfl, rfl⟩ (fun _ => updM [12, 13] [0, 1, 2, 3, 4, 5, 6, 7, 8, 9, 10, 11] [(a0 0, .inr (10, [.ref (a0 1), .int (gg.1), .int (gg.2.1), .int (gg.2.2.1), .int (gg.2.2.2.1), .int (gg.2.2.2.2.1), .ref (a0 2), .ref (a0 17), .ref (a0 32), .int (gg.2.2.2.2.2), .ref (a0 47), .ref (a0 48), .ref (a0 49), .ref (a0 50), .ref (a0 68), .ref (a0 78), .ref (a0 80)])), (a0 2, .inr (7, [.int (gvn.1), .int (gvn.2.1), .ref (a0 3), .ref (a0 8), .ref (a0 12), .ref (a0 13), .ref (a0 14), .ref (a0 15), .ref (a0 16)])), (a0 3, .inr (2, [.int (gdn.1), .int (gdn.2.1), .ref (a0 4), .ref (a0 5), .ref (a0 6), .ref (a0 7)])), (a0 4, .inl (cy 1, 10, .inl (gdn.2.2.1))), (a0 5, .inl (cy 1, 10, .inl (gdn.2.2.2.1))), (a0 6, .inl (cy 1, 10, .inl (gdn.2.2.2.2.1))), (a0 7, .inl (cy 1, 50, .inl (gdn.2.2.2.2.2))), (a0 12, .inl (cy 1, 5, .inl (gvn.2.2.1))), (a0 13, .inl (cy 1, 5, .inl (gvn.2.2.2.1))), (a0 14, .inl (cy 1, 5, .inl (gvn.2.2.2.2.1))), (a0 15, .inl (cy 1, 5, .inl (gvn.2.2.2.2.2.1))), (a0 16, .inl (cy 1, 5, .inl (gvn.2.2.2.2.2.2)))] 14 rfl rfl rfl rfl rfl (by decide +kernel) (by decide +kernel) rfl) (fun u H locs hw hP hD hS => ?_)
        have hw := hw.symm
        subst hw
        have hP : va_P (dC, dI) vwCl (w_X12_pay cy a0 gg gvn gdn v2) H := hP
        have hD : va_D A (w_X12_pay cy a0 gg gvn gdn v2) := hD
        refine lv_aload_n hx hb dX12_pay_63 rfl (lv_at hl 0 rfl) ?_
        refine va_get (D := (dC, dI)) (ci := 10) (v := .ref (a0 80)) (C := RX12) (T := TX12) (N := 17) hx hb hts in_X12 hown hK hP 0 rfl rfl 16 (by decide) lk0 (fun _ h9 => h9) rfl dX12_pay_64 ?_
        refine lv_aload_n hx hb dX12_pay_67 rfl (lv_at hl 0 rfl) ?_
        refine va_get (D := (dC, dI)) (ci := 10) (v := .ref (a0 2)) (C := RX12) (T := TX12) (N := 17) hx hb hts in_X12 hown hK hP 0 rfl rfl 6 (by decide) lk1 (fun _ h9 => h9) rfl dX12_pay_68 ?_
        refine va_get (D := (dC, dI)) (ci := 7) (v := .ref (a0 3)) (C := RX9) (T := TX9) (N := 9) hx hb hts in_X9 hown hK hP 1 rfl rfl 2 (by decide) lk2 (fun _ h9 => h9) rfl dX12_pay_71 ?_
        refine lv_iload_n hx hb dX12_pay_74 rfl (lv_at hl 1 rfl) ?_
        obtain ⟨v4, hv5, h⟩ := ok_bind h
        refine cl_vl (w2 := fun (_ : Unit) => w_X12_pay cy a0 gg gvn gdn v2) (As := [.ref (a0 3), .int x1]) (rest := []) ⟨hx, hb, hml, hown, hts⟩ (c_X11_meanOf l dC dI cy (fun k => a0 (k + 80)) (fun k => a0 (k + 3)) v2 gdn x1 H.size v4 hv5) (cwV 2 hts gX12_pay_X11_meanOf rfl rfl rfl (by decide +kernel) ⟨Nat.le_of_ble_eq_true rfl, Nat.le_of_ble_eq_true rfl⟩) (va_recv hK hP (ci := 9) (q0 := 12) rfl rfl) cl_blind (cl_pre hK hP hD [12, 13, 2, 3, 4, 5, 6] (by decide) rfl) hP hD hS hA [12, 13, 2, 3, 4, 5, 6] rfl rfl hl.1 rfl (lv_room (Nat.le_of_ble_eq_true rfl)) dX12_pay_75 ⟨Nat.le_of_ble_eq_true rfl, Nat.le_of_ble_eq_true rfl⟩ ⟨rfl, rfl⟩ (fun _ => updR [12, 13, 2, 3, 4, 5, 6] rfl) (fun r u H locs hw hP hD hS => ?_)
        have hw := hw.symm
        subst hw
        have hP : va_P (dC, dI) vwCl (w_X12_pay cy a0 gg gvn gdn v2) H := hP
        have hD : va_D A (w_X12_pay cy a0 gg gvn gdn v2) := hD
        refine lv_lstore (lv' := [(8, .long v4), (0, .ref (a0 0)), (1, .int x1), (2, .int x2), (3, .int x3), (4, .int x4), (5, .long x5), (7, .int x7)]) hx hb dX12_pay_78 hl (by decide) rfl (fun ls hl => ?_)
        refine lv_lload hx hb dX12_pay_80 (lv_at hl 0 rfl) ?_
        refine lv_lload hx hb dX12_pay_82 (lv_at hl 6 rfl) ?_
        refine W.lcmp hx hb dX12_pay_84 ?_
        refine lv_if_ge (tgt := 96) hx hb dX12_pay_85 (by decide) (fun c6 => ?_) (fun c6 => ?_)
        · rw [if_pos c6] at h
          exact c96 (p_X12_pay_47 gvn gdn n) ih v2 x1 x2 x3 x4 x5 x7 H locs ls h hP hD hS (lv_sub hl [1, 2, 3, 4, 5, 6, 7] rfl)
        · rw [if_neg c6] at h
          refine lv_lload hx hb dX12_pay_88 (lv_at hl 0 rfl) ?_
          refine lv_lstore (lv' := [(5, .long v4), (8, .long v4), (0, .ref (a0 0)), (1, .int x1), (2, .int x2), (3, .int x3), (4, .int x4), (7, .int x7)]) hx hb dX12_pay_90 hl (by decide) rfl (fun ls hl => ?_)
          refine lv_iload hx hb dX12_pay_92 (lv_at hl 7 rfl) ?_
          refine lv_istore (lv' := [(4, .int x7), (5, .long v4), (8, .long v4), (0, .ref (a0 0)), (1, .int x1), (2, .int x2), (3, .int x3), (7, .int x7)]) hx hb dX12_pay_94 hl (by decide) rfl (fun ls hl => ?_)
          exact c96 (p_X12_pay_47 gvn gdn n) ih v2 x1 x2 x3 x7 v4 x7 H locs ls h hP hD hS (lv_sub hl [3, 4, 5, 6, 0, 1, 7] rfl)
  obtain ⟨H, hH⟩ : ∃ H : Heap, H = s.heap := ⟨_, rfl⟩
  obtain ⟨locs, hlocs⟩ : ∃ locs : List Loc, locs = [] := ⟨_, rfl⟩
  have hS : va_S A s.heap H locs := by rw [hH, hlocs]; exact hS
  rw [← hH] at hP
  suffices hg : W p l e rm_X12_pay s m aa below meth c H locs 0 0 (vx_MQ below qq xx aa s 2 12 A) (F0 m 0 ls []) by subst hH; subst hlocs; exact hg
  unfold p_X12_pay at h
  refine lv_aload_n hx hb dX12_pay_0 rfl (lv_at hl 0 rfl) ?_
  refine lv_iload_n hx hb dX12_pay_1 rfl (lv_at hl 1 rfl) ?_
  obtain ⟨v1, hv2, h⟩ := ok_bind h
  refine cx_vv (w2 := fun (_ : Unit) => w_X12_pay cy a0 gg gvn gdn gwa) (w2x := fun (_ : Unit) => w_X12_pay cy a0 gg gvn gdn gwa) (As := [.int x1]) (rest := []) ⟨hx, hb, hml, hown, hts⟩ (c_X12_needDoor l dC dI cy z hl9 a0 gg gvn gdn x1 H.size v1 hv2) (cwV 1 hts gX12_pay_X12_needDoor rfl rfl rfl (by decide +kernel) ⟨Nat.le_of_ble_eq_true rfl, Nat.le_of_ble_eq_true rfl⟩) (va_recv hK hP (ci := 10) (q0 := 0) rfl rfl) cl_blindS (cl_preS hK hP hD hS hA hX [0, 1, 2, 3, 4, 5, 6] (by decide) rfl) hP hD hS hA [0, 1, 2, 3, 4, 5, 6] rfl rfl hl.1 rfl (lv_room (Nat.le_of_ble_eq_true rfl)) dX12_pay_2 ⟨Nat.le_of_ble_eq_true rfl, Nat.le_of_ble_eq_true rfl⟩ (cells' := 1) (slots' := 6) ⟨rfl, rfl⟩ (fun _ => updR [0, 1, 2, 3, 4, 5, 6] rfl) (fun _ => updR [0, 1, 2, 3, 4, 5, 6] rfl) (fun E ce q9 u H locs hw hE hP hD hS hc1 hc2 hc3 => ?_) (fun u H locs hw hP hD hS => ?_)
  · subst hw
    have hP : va_P (dC, dI) vwCl (w_X12_pay cy a0 gg gvn gdn gwa) H := hP
    obtain ⟨hE1, hE2⟩ := exE_pass hE h
    exact vx_out (fun x9 hx9 => (htab x9 hx9).elim) hlocks hc1 hc2 hc3 (fun t h1 h2 => by rw [hxx]; exact ⟨_, hE2.symm, ⟨hE1, by rw [h1]; exact hP, va_K.moved h2 hK⟩, hS.F h1⟩) hS.2.2 (by decide) (by decide)
  obtain ⟨hw1, hw2⟩ := hw
  subst hw2
  rw [← hw1] at h
  dsimp only [xb] at h
  have hP : va_P (dC, dI) vwCl (w_X12_pay cy a0 gg gvn gdn gwa) H := hP
  have hD : va_D A (w_X12_pay cy a0 gg gvn gdn gwa) := hD
  refine lv_iload_n hx hb dX12_pay_5 rfl (lv_at hl 2 rfl) ?_
  refine lv_iload_n hx hb dX12_pay_6 rfl (lv_at hl 3 rfl) ?_
  obtain ⟨v3, hv4, h⟩ := ok_bind h
  refine cx_sv (w2 := fun (_ : Unit) => w_X12_pay cy a0 gg gvn gdn gwa) (w2x := fun (_ : Unit) => w_X12_pay cy a0 gg gvn gdn gwa) (As := [.int x2, .int x3]) (rest := []) ⟨hx, hb, hml, hown, hts⟩ (c_X12_needTenths l dC dI cy z hl9  x2 x3 H.size v3 hv4) (va_cwS 2 hts gX12_pay_X12_needTenths rfl rfl rfl (by decide +kernel) ⟨Nat.le_of_ble_eq_true rfl, Nat.le_of_ble_eq_true rfl⟩) cl_blindS (cl_preS hK hP hD hS hA hX [] (by decide) rfl) hP hD hS hA [] rfl rfl hl.1 rfl (lv_room (Nat.le_of_ble_eq_true rfl)) dX12_pay_7 ⟨Nat.le_of_ble_eq_true rfl, Nat.le_of_ble_eq_true rfl⟩ (cells' := 2) (slots' := 12) ⟨rfl, rfl⟩ (fun _ => updR [] rfl) (fun _ => updR [] rfl) (fun E ce q9 u H locs hw hE hP hD hS hc1 hc2 hc3 => ?_) (fun u H locs hw hP hD hS => ?_)
  · subst hw
    have hP : va_P (dC, dI) vwCl (w_X12_pay cy a0 gg gvn gdn gwa) H := hP
    obtain ⟨hE1, hE2⟩ := exE_pass hE h
    exact vx_out (fun x9 hx9 => (htab x9 hx9).elim) hlocks hc1 hc2 hc3 (fun t h1 h2 => by rw [hxx]; exact ⟨_, hE2.symm, ⟨hE1, by rw [h1]; exact hP, va_K.moved h2 hK⟩, hS.F h1⟩) hS.2.2 (by decide) (by decide)
  obtain ⟨hw1, hw2⟩ := hw
  subst hw2
  rw [← hw1] at h
  dsimp only [xb] at h
  have hP : va_P (dC, dI) vwCl (w_X12_pay cy a0 gg gvn gdn gwa) H := hP
  have hD : va_D A (w_X12_pay cy a0 gg gvn gdn gwa) := hD
  refine lv_aload_n hx hb dX12_pay_10 rfl (lv_at hl 0 rfl) ?_
  refine va_get (D := (dC, dI)) (ci := 10) (v := .ref (a0 80)) (C := RX12) (T := TX12) (N := 17) hx hb hts in_X12 hown hK hP 0 rfl rfl 16 (by decide) lk0 (fun _ h9 => h9) rfl dX12_pay_11 ?_
  refine lv_aload_n hx hb dX12_pay_14 rfl (lv_at hl 0 rfl) ?_
  refine va_get (D := (dC, dI)) (ci := 10) (v := .ref (a0 2)) (C := RX12) (T := TX12) (N := 17) hx hb hts in_X12 hown hK hP 0 rfl rfl 6 (by decide) lk1 (fun _ h9 => h9) rfl dX12_pay_15 ?_
  refine va_get (D := (dC, dI)) (ci := 7) (v := .int gvn.2.1) (C := RX9) (T := TX9) (N := 9) hx hb hts in_X9 hown hK hP 1 rfl rfl 1 (by decide) lk3 (fun _ h9 => h9) rfl dX12_pay_18 ?_
  obtain ⟨v5, hv6, h⟩ := ok_bind h
  refine cl_vv (w2 := fun (u : ((Nat → Int64) × Int64)) => w_X12_pay cy a0 gg gvn gdn u) (As := [.int gvn.2.1]) (rest := []) ⟨hx, hb, hml, hown, hts⟩ (c_X11_begin l dC dI cy (fun k => a0 (k + 80)) gwa gvn.2.1 H.size v5 hv6) (cwV 1 hts gX12_pay_X11_begin rfl rfl rfl (by decide +kernel) ⟨Nat.le_of_ble_eq_true rfl, Nat.le_of_ble_eq_true rfl⟩) (va_recv hK hP (ci := 9) (q0 := 12) rfl rfl) cl_blind (cl_pre hK hP hD [12, 13] (by decide) rfl) hP hD hS hA [12, 13] rfl rfl hl.1 rfl (lv_room (Nat.le_of_ble_eq_true rfl)) dX12_pay_21 ⟨Nat.le_of_ble_eq_true rfl, Nat.le_of_ble_eq_true rfl⟩ ⟨rfl, rfl⟩ (fun _ => updM [12, 13] [0, 1, 2, 3, 4, 5, 6, 7, 8, 9, 10, 11] [(a0 0, .inr (10, [.ref (a0 1), .int (gg.1), .int (gg.2.1), .int (gg.2.2.1), .int (gg.2.2.2.1), .int (gg.2.2.2.2.1), .ref (a0 2), .ref (a0 17), .ref (a0 32), .int (gg.2.2.2.2.2), .ref (a0 47), .ref (a0 48), .ref (a0 49), .ref (a0 50), .ref (a0 68), .ref (a0 78), .ref (a0 80)])), (a0 2, .inr (7, [.int (gvn.1), .int (gvn.2.1), .ref (a0 3), .ref (a0 8), .ref (a0 12), .ref (a0 13), .ref (a0 14), .ref (a0 15), .ref (a0 16)])), (a0 3, .inr (2, [.int (gdn.1), .int (gdn.2.1), .ref (a0 4), .ref (a0 5), .ref (a0 6), .ref (a0 7)])), (a0 4, .inl (cy 1, 10, .inl (gdn.2.2.1))), (a0 5, .inl (cy 1, 10, .inl (gdn.2.2.2.1))), (a0 6, .inl (cy 1, 10, .inl (gdn.2.2.2.2.1))), (a0 7, .inl (cy 1, 50, .inl (gdn.2.2.2.2.2))), (a0 12, .inl (cy 1, 5, .inl (gvn.2.2.1))), (a0 13, .inl (cy 1, 5, .inl (gvn.2.2.2.1))), (a0 14, .inl (cy 1, 5, .inl (gvn.2.2.2.2.1))), (a0 15, .inl (cy 1, 5, .inl (gvn.2.2.2.2.2.1))), (a0 16, .inl (cy 1, 5, .inl (gvn.2.2.2.2.2.2)))] 14 rfl rfl rfl rfl rfl (by decide +kernel) (by decide +kernel) rfl) (fun u H locs hw hP hD hS => ?_)
  have hw := hw.symm
  subst hw
  have hP : va_P (dC, dI) vwCl (w_X12_pay cy a0 gg gvn gdn v5) H := hP
  have hD : va_D A (w_X12_pay cy a0 gg gvn gdn v5) := hD
  refine lv_iconst (v := (0 : Int32)) hx hb dX12_pay_24 (by decide) ?_
  refine lv_istore (lv' := [(4, .int (0 : Int32)), (0, .ref (a0 0)), (1, .int x1), (2, .int x2), (3, .int x3)]) hx hb dX12_pay_25 hl (by decide) rfl (fun ls hl => ?_)
  refine lv_aload_n hx hb dX12_pay_27 rfl (lv_at hl 1 rfl) ?_
  refine va_get (D := (dC, dI)) (ci := 10) (v := .ref (a0 80)) (C := RX12) (T := TX12) (N := 17) hx hb hts in_X12 hown hK hP 0 rfl rfl 16 (by decide) lk0 (fun _ h9 => h9) rfl dX12_pay_28 ?_
  refine lv_aload_n hx hb dX12_pay_31 rfl (lv_at hl 1 rfl) ?_
  refine va_get (D := (dC, dI)) (ci := 10) (v := .ref (a0 2)) (C := RX12) (T := TX12) (N := 17) hx hb hts in_X12 hown hK hP 0 rfl rfl 6 (by decide) lk1 (fun _ h9 => h9) rfl dX12_pay_32 ?_
  refine va_get (D := (dC, dI)) (ci := 7) (v := .ref (a0 3)) (C := RX9) (T := TX9) (N := 9) hx hb hts in_X9 hown hK hP 1 rfl rfl 2 (by decide) lk2 (fun _ h9 => h9) rfl dX12_pay_35 ?_
  refine lv_iload_n hx hb dX12_pay_38 rfl (lv_at hl 2 rfl) ?_
  obtain ⟨v7, hv8, h⟩ := ok_bind h
  refine cl_vl (w2 := fun (_ : Unit) => w_X12_pay cy a0 gg gvn gdn v5) (As := [.ref (a0 3), .int x1]) (rest := []) ⟨hx, hb, hml, hown, hts⟩ (c_X11_meanOf l dC dI cy (fun k => a0 (k + 80)) (fun k => a0 (k + 3)) v5 gdn x1 H.size v7 hv8) (cwV 2 hts gX12_pay_X11_meanOf rfl rfl rfl (by decide +kernel) ⟨Nat.le_of_ble_eq_true rfl, Nat.le_of_ble_eq_true rfl⟩) (va_recv hK hP (ci := 9) (q0 := 12) rfl rfl) cl_blind (cl_pre hK hP hD [12, 13, 2, 3, 4, 5, 6] (by decide) rfl) hP hD hS hA [12, 13, 2, 3, 4, 5, 6] rfl rfl hl.1 rfl (lv_room (Nat.le_of_ble_eq_true rfl)) dX12_pay_39 ⟨Nat.le_of_ble_eq_true rfl, Nat.le_of_ble_eq_true rfl⟩ ⟨rfl, rfl⟩ (fun _ => updR [12, 13, 2, 3, 4, 5, 6] rfl) (fun r u H locs hw hP hD hS => ?_)
  have hw := hw.symm
  subst hw
  have hP : va_P (dC, dI) vwCl (w_X12_pay cy a0 gg gvn gdn v5) H := hP
  have hD : va_D A (w_X12_pay cy a0 gg gvn gdn v5) := hD
  refine lv_lstore (lv' := [(5, .long v7), (4, .int (0 : Int32)), (0, .ref (a0 0)), (1, .int x1), (2, .int x2), (3, .int x3)]) hx hb dX12_pay_42 hl (by decide) rfl (fun ls hl => ?_)
  refine lv_iconst (v := (1 : Int32)) hx hb dX12_pay_44 (by decide) ?_
  refine lv_istore (lv' := [(7, .int (1 : Int32)), (5, .long v7), (4, .int (0 : Int32)), (0, .ref (a0 0)), (1, .int x1), (2, .int x2), (3, .int x3)]) hx hb dX12_pay_45 hl (by decide) rfl (fun ls hl => ?_)
  exact c47 fu v5 x1 x2 x3 (0 : Int32) v7 (1 : Int32) H locs ls h hP hD hS (lv_sub hl [3, 4, 5, 6, 2, 1, 0] rfl)

abbrev w_X12_trade (cy : Nat → ClassId) (a0 : Nat → Nat) (gg : Int32 × Int32 × Int32 × Int32 × Int32 × Int32) (gvn : Int32 × Int32 × (Nat → Int32) × (Nat → Int32) × (Nat → Int32) × (Nat → Int32) × (Nat → Int32)) (gdn : Int32 × Int32 × (Nat → Int32) × (Nat → Int32) × (Nat → Int32) × (Nat → Int32)) (gne : (Nat → Nat → Int32) × (Nat → Nat → Int64)) : va_W := [(a0 0, .inr (10, [.ref (a0 1), .int (gg.1), .int (gg.2.1), .int (gg.2.2.1), .int (gg.2.2.2.1), .int (gg.2.2.2.2.1), .ref (a0 2), .ref (a0 17), .ref (a0 32), .int (gg.2.2.2.2.2), .ref (a0 47), .ref (a0 48), .ref (a0 49), .ref (a0 50), .ref (a0 68), .ref (a0 78), .ref (a0 80)])), (a0 2, .inr (7, [.int (gvn.1), .int (gvn.2.1), .ref (a0 3), .ref (a0 8), .ref (a0 12), .ref (a0 13), .ref (a0 14), .ref (a0 15), .ref (a0 16)])), (a0 3, .inr (2, [.int (gdn.1), .int (gdn.2.1), .ref (a0 4), .ref (a0 5), .ref (a0 6), .ref (a0 7)])), (a0 4, .inl (cy 1, 10, .inl (gdn.2.2.1))), (a0 5, .inl (cy 1, 10, .inl (gdn.2.2.2.1))), (a0 6, .inl (cy 1, 10, .inl (gdn.2.2.2.2.1))), (a0 7, .inl (cy 1, 50, .inl (gdn.2.2.2.2.2))), (a0 12, .inl (cy 1, 5, .inl (gvn.2.2.1))), (a0 13, .inl (cy 1, 5, .inl (gvn.2.2.2.1))), (a0 14, .inl (cy 1, 5, .inl (gvn.2.2.2.2.1))), (a0 15, .inl (cy 1, 5, .inl (gvn.2.2.2.2.2.1))), (a0 16, .inl (cy 1, 5, .inl (gvn.2.2.2.2.2.2))), (a0 50, .inr (4, [.ref (a0 51), .ref (a0 62)])), (a0 51, .inl (cy 3, 10, .inr (.inr (.inr (.inr (fun i => some ([a0 52, a0 53, a0 54, a0 55, a0 56, a0 57, a0 58, a0 59, a0 60, a0 61].getD i 0))))))), (a0 52, .inl (cy 1, 41, .inl (gne.1 0))), (a0 53, .inl (cy 1, 41, .inl (gne.1 1))), (a0 54, .inl (cy 1, 41, .inl (gne.1 2))), (a0 55, .inl (cy 1, 41, .inl (gne.1 3))), (a0 56, .inl (cy 1, 41, .inl (gne.1 4))), (a0 57, .inl (cy 1, 41, .inl (gne.1 5))), (a0 58, .inl (cy 1, 41, .inl (gne.1 6))), (a0 59, .inl (cy 1, 41, .inl (gne.1 7))), (a0 60, .inl (cy 1, 41, .inl (gne.1 8))), (a0 61, .inl (cy 1, 41, .inl (gne.1 9))), (a0 62, .inl (cy 4, 5, .inr (.inr (.inr (.inr (fun i => some ([a0 63, a0 64, a0 65, a0 66, a0 67].getD i 0))))))), (a0 63, .inl (cy 2, 41, .inr (.inl (gne.2 0)))), (a0 64, .inl (cy 2, 41, .inr (.inl (gne.2 1)))), (a0 65, .inl (cy 2, 41, .inr (.inl (gne.2 2)))), (a0 66, .inl (cy 2, 41, .inr (.inl (gne.2 3)))), (a0 67, .inl (cy 2, 41, .inr (.inl (gne.2 4))))]
abbrev rm_X12_trade : Room := { frames := 7, cells := 2, slots := 12, locals := 116 }
set_option maxHeartbeats 1000000 in
set_option maxRecDepth 100000 in
theorem c_X12_trade (l : Launch) (dC : Nat → ClassId) (dI : Nat → Nat → Nat) (cy : Nat → ClassId) (z : Nat → Nat) (hl9 : l.stackTraces = false) (a0 : Nat → Nat) (gg : Int32 × Int32 × Int32 × Int32 × Int32 × Int32) (gvn : Int32 × Int32 × (Nat → Int32) × (Nat → Int32) × (Nat → Int32) × (Nat → Int32) × (Nat → Int32)) (gdn : Int32 × Int32 × (Nat → Int32) × (Nat → Int32) × (Nat → Int32) × (Nat → Int32)) (gne : (Nat → Nat → Int32) × (Nat → Nat → Int64)) (x1 : Int32) (x2 : Int32) (sz : Nat) (R0 : (Int32 ⊕ Nat) × (((Nat → Nat → Int32) × (Nat → Nat → Int64)))) (h : p_X12_trade gvn gdn gne x1 x2 = some R0) : vx_Met l yX12_trade wsX12_trade rm_X12_trade (va_Pc [.ref (a0 0), .int x1, .int x2] (prS dC dI cy z (w_X12_trade cy a0 gg gvn gdn gne) sz)) (va_Qi (fun (r : Int32) (u : ((Nat → Nat → Int32) × (Nat → Nat → Int64))) => Sum.inl r = R0.1 ∧ u = R0.2) (fun (u : ((Nat → Nat → Int32) × (Nat → Nat → Int64))) t => poC dC dI cy (w_X12_trade cy a0 gg gvn gdn u) t) (va_A (w_X12_trade cy a0 gg gvn gdn gne) sz)) (vx_X (fun (u : ((Nat → Nat → Int32) × (Nat → Nat → Int64))) => u = R0.2) (fun E (u : ((Nat → Nat → Int32) × (Nat → Nat → Int64))) t => exE E R0.1 ∧ poC dC dI cy (w_X12_trade cy a0 gg gvn gdn u) t) (va_A (w_X12_trade cy a0 gg gvn gdn gne) sz)) 2 12 (va_A (w_X12_trade cy a0 gg gvn gdn gne) sz) := by
  refine vx_ofW (cc := cX12_trade) (maxL := 7) (ret := (some .int)) (by decide) rfl ?_
  intro p e s m aa below meth c s₁ B hml htab hv
  obtain ⟨haa, ⟨hsz, hP, hK, hD0⟩, hX⟩ := hv
  have hx := B.exec
  have hb := B.bytes
  have hr := B.returns
  have hts := atoms_spec (ws := wsX12_trade) B.pre
  have hown : s.vm.findClass RX12 = some m.cls := findClass_of_methodNamed B.named
  have hlocks := B.notSynchronized
  subst hsz
  have hD := hD0.self (sz := s.heap.size)
  obtain ⟨qq, hqq⟩ : ∃ qq, qq = (va_Qi (fun (r : Int32) (u : ((Nat → Nat → Int32) × (Nat → Nat → Int64))) => Sum.inl r = R0.1 ∧ u = R0.2) (fun (u : ((Nat → Nat → Int32) × (Nat → Nat → Int64))) t => poC dC dI cy (w_X12_trade cy a0 gg gvn gdn u) t) (va_A (w_X12_trade cy a0 gg gvn gdn gne) s.heap.size)) := ⟨_, rfl⟩
  obtain ⟨xx, hxx⟩ : ∃ xx, xx = (vx_X (fun (u : ((Nat → Nat → Int32) × (Nat → Nat → Int64))) => u = R0.2) (fun E (u : ((Nat → Nat → Int32) × (Nat → Nat → Int64))) t => exE E R0.1 ∧ poC dC dI cy (w_X12_trade cy a0 gg gvn gdn u) t) (va_A (w_X12_trade cy a0 gg gvn gdn gne) s.heap.size)) := ⟨_, rfl⟩
  rw [← hqq, ← hxx]
  generalize hAe : va_A (w_X12_trade cy a0 gg gvn gdn gne) s.heap.size = A at hD hqq hxx hX ⊢
  have hA : ∀ q : Nat, s.heap.size ≤ q → A q := fun q h => by rw [← hAe]; exact Or.inr h
  have hS : va_S A s.heap s.heap [] := va_S.rf
  have hl := lv_entry ([.ref (a0 0), .int x1, .int x2]) (n := 7) (Nat.le_of_ble_eq_true rfl)
  have hE : entryFrame m aa 7 = F0 m 0 ((lg_sl ([.ref (a0 0), .int x1, .int x2]) ++ List.replicate (7 - (lg_sl ([.ref (a0 0), .int x1, .int x2])).length) Slot.unset).toArray) [] := by rw [haa]; exact lg_entry_eq m _ 7
  refine W.eq hE ?_
  generalize (lg_sl ([.ref (a0 0), .int x1, .int x2]) ++ List.replicate (7 - (lg_sl ([.ref (a0 0), .int x1, .int x2])).length) Slot.unset).toArray = ls at hl ⊢
  have hl : lv_has ls 7 [(0, .ref (a0 0)), (1, .int x1), (2, .int x2)] := hl
  change W p l e rm_X12_trade s m aa below meth c s.heap [] 0 0 (vx_MQ below qq xx aa s 2 12 A) (F0 m 0 ls [])
  have hS0 := hS
  have lk0 := hts (.fieldLink RX12 58 "GoatDoors" "nets" "LGoatDoors$Nets;") (by decide +kernel)
  have lk1 := hts (.fieldLink RX12 20 "GoatDoors" "now" "LGoatDoors$Village;") (by decide +kernel)
  have lk2 := hts (.fieldLink RX12 142 "GoatDoors$Village" "base" "I") (by decide +kernel)
  have in_X12 : ∀ w ∈ wsX120, w ∈ wsX12_trade := by decide +kernel
  have in_X9 : ∀ w ∈ wsX90, w ∈ wsX12_trade := by decide +kernel
  have c83 : ∀ (k43 : ((Nat → Nat → Int32) × (Nat → Nat → Int64)) → Int32 → Int32 → Int32 → Int32 → Int32 → Option ((Int32 ⊕ Nat) × (((Nat → Nat → Int32) × (Nat → Nat → Int64))))) (hk43 : ∀ (gne : (Nat → Nat → Int32) × (Nat → Nat → Int64)) (x1 : Int32) (x2 : Int32) (x3 : Int32) (x4 : Int32) (x5 : Int32) (H : Heap) (locs : List Loc) (ls : Array Slot), k43 gne x1 x2 x3 x4 x5 = some R0 → va_P (dC, dI) vwCl (w_X12_trade cy a0 gg gvn gdn gne) H → va_D A (w_X12_trade cy a0 gg gvn gdn gne) → va_S A s.heap H locs → lv_has ls 7 [(0, .ref (a0 0)), (1, .int x1), (2, .int x2), (3, .int x3), (4, .int x4), (5, .int x5)] → W p l e rm_X12_trade s m aa below meth c H locs 2 12 (vx_MQ below qq xx aa s 2 12 A) (F0 m 43 ls [])), ∀ (gne : (Nat → Nat → Int32) × (Nat → Nat → Int64)) (x1 : Int32) (x2 : Int32) (x3 : Int32) (x4 : Int32) (x5 : Int32) (H : Heap) (locs : List Loc) (ls : Array Slot), p_X12_trade_83 k43 gvn gdn gne x1 x2 x3 x4 x5 = some R0 → va_P (dC, dI) vwCl (w_X12_trade cy a0 gg gvn gdn gne) H → va_D A (w_X12_trade cy a0 gg gvn gdn gne) → va_S A s.heap H locs → lv_has ls 7 [(0, .ref (a0 0)), (1, .int x1), (2, .int x2), (3, .int x3), (4, .int x4), (5, .int x5)] → W p l e rm_X12_trade s m aa below meth c H locs 2 12 (vx_MQ below qq xx aa s 2 12 A) (F0 m 83 ls []) := by
    intro k43 hk43 gne x1 x2 x3 x4 x5 H locs ls h hP hD hS hl
    unfold p_X12_trade_83 at h
    refine lv_iinc (v := (x5 + (1 : Int32))) (lv' := [(5, .int (x5 + (1 : Int32))), (0, .ref (a0 0)), (1, .int x1), (2, .int x2), (3, .int x3), (4, .int x4)]) hx hb dX12_trade_83 hl (k := 5) rfl rfl (by decide) rfl (fun ls hl => ?_)
    refine lv_goto (tgt := 43) hx hb dX12_trade_86 (by decide) ?_
    exact hk43 gne x1 x2 x3 x4 (x5 + (1 : Int32)) H locs ls h hP hD hS (lv_sub hl [1, 2, 3, 4, 5, 0] rfl)
  have c43 : ∀ (n : Nat), ∀ (gne : (Nat → Nat → Int32) × (Nat → Nat → Int64)) (x1 : Int32) (x2 : Int32) (x3 : Int32) (x4 : Int32) (x5 : Int32) (H : Heap) (locs : List Loc) (ls : Array Slot), p_X12_trade_43 gvn gdn n gne x1 x2 x3 x4 x5 = some R0 → va_P (dC, dI) vwCl (w_X12_trade cy a0 gg gvn gdn gne) H → va_D A (w_X12_trade cy a0 gg gvn gdn gne) → va_S A s.heap H locs → lv_has ls 7 [(0, .ref (a0 0)), (1, .int x1), (2, .int x2), (3, .int x3), (4, .int x4), (5, .int x5)] → W p l e rm_X12_trade s m aa below meth c H locs 2 12 (vx_MQ below qq xx aa s 2 12 A) (F0 m 43 ls []) := by
    intro  n
    induction n with
    | zero => intro gne x1 x2 x3 x4 x5 H locs ls h; exact no_some h
    | succ n ih =>
      intro gne x1 x2 x3 x4 x5 H locs ls h hP hD hS hl
      rw [p_X12_trade_43.eq_2] at h
      refine lv_iload hx hb dX12_trade_43 (lv_at hl 5 rfl) ?_
      refine lv_bipush (v := (40 : Int32)) hx hb dX12_trade_45 (by decide) ?_
      refine lv_icmp_gt (tgt := 89) hx hb dX12_trade_47 (by decide) (fun c1 => ?_) (fun c1 => ?_)
      · rw [if_pos c1] at h
        refine lv_iload_n hx hb dX12_trade_89 rfl (lv_at hl 2 rfl) ?_
        refine lv_if_ne (tgt := 97) hx hb dX12_trade_90 (by decide) (fun c2 => ?_) (fun c2 => ?_)
        · rw [if_neg c2] at h
          refine lv_iload hx hb dX12_trade_97 (lv_at hl 4 rfl) ?_
          refine vx_ret ?_
          exact W.iret (v := x4) hx hb hr (fun t ht hW => by rw [hqq]; have hh := Option.some.inj h; exact ⟨⟨x4, (gne), rfl, ⟨fst_of hh, snd_of hh⟩, by rw [ht]; exact hP, va_K.moved hW.alike hK⟩, hS.F ht⟩) hS.2.2 dX12_trade_99
        · rw [if_pos c2] at h
          refine lv_iload_n hx hb dX12_trade_93 rfl (lv_at hl 3 rfl) ?_
          refine lv_goto (tgt := 99) hx hb dX12_trade_94 (by decide) ?_
          refine vx_ret ?_
          exact W.iret (v := x3) hx hb hr (fun t ht hW => by rw [hqq]; have hh := Option.some.inj h; exact ⟨⟨x3, (gne), rfl, ⟨fst_of hh, snd_of hh⟩, by rw [ht]; exact hP, va_K.moved hW.alike hK⟩, hS.F ht⟩) hS.2.2 dX12_trade_99
      · rw [if_neg c1] at h
        refine lv_aload_n hx hb dX12_trade_50 rfl (lv_at hl 0 rfl) ?_
        refine va_get (D := (dC, dI)) (ci := 10) (v := .ref (a0 50)) (C := RX12) (T := TX12) (N := 17) hx hb hts in_X12 hown hK hP 0 rfl rfl 13 (by decide) lk0 (fun _ h9 => h9) rfl dX12_trade_51 ?_
        refine lv_iload hx hb dX12_trade_54 (lv_at hl 5 rfl) ?_
        refine lv_aload_n hx hb dX12_trade_56 rfl (lv_at hl 0 rfl) ?_
        refine va_get (D := (dC, dI)) (ci := 10) (v := .ref (a0 2)) (C := RX12) (T := TX12) (N := 17) hx hb hts in_X12 hown hK hP 0 rfl rfl 6 (by decide) lk1 (fun _ h9 => h9) rfl dX12_trade_57 ?_
        refine va_get (D := (dC, dI)) (ci := 7) (v := .int gvn.2.1) (C := RX9) (T := TX9) (N := 9) hx hb hts in_X9 hown hK hP 1 rfl rfl 1 (by decide) lk2 (fun _ h9 => h9) rfl dX12_trade_60 ?_
        refine lv_iload_n hx hb dX12_trade_63 rfl (lv_at hl 1 rfl) ?_
        obtain ⟨v3, hv4, h⟩ := ok_bind h
        refine cl_vi (w2 := fun (_ : Unit) => w_X12_trade cy a0 gg gvn gdn gne) (As := [.int x5, .int gvn.2.1, .int x1]) (rest := []) ⟨hx, hb, hml, hown, hts⟩ (c_X6_misreadIn l dC dI cy (fun k => a0 (k + 50)) gne x5 gvn.2.1 x1 H.size v3 hv4) (cwV 3 hts gX12_trade_X6_misreadIn rfl rfl rfl (by decide +kernel) ⟨Nat.le_of_ble_eq_true rfl, Nat.le_of_ble_eq_true rfl⟩) (va_recv hK hP (ci := 4) (q0 := 12) rfl rfl) cl_blind (cl_pre hK hP hD [12, 13, 14, 15, 16, 17, 18, 19, 20, 21, 22, 23, 24, 25, 26, 27, 28, 29] (by decide) rfl) hP hD hS hA [12, 13, 14, 15, 16, 17, 18, 19, 20, 21, 22, 23, 24, 25, 26, 27, 28, 29] rfl rfl hl.1 rfl (lv_room (Nat.le_of_ble_eq_true rfl)) dX12_trade_64 ⟨Nat.le_of_ble_eq_true rfl, Nat.le_of_ble_eq_true rfl⟩ ⟨rfl, rfl⟩ (fun _ => updR [12, 13, 14, 15, 16, 17, 18, 19, 20, 21, 22, 23, 24, 25, 26, 27, 28, 29] rfl) (fun r u H locs hw hP hD hS => ?_)
        have hw := hw.symm
        subst hw
        have hP : va_P (dC, dI) vwCl (w_X12_trade cy a0 gg gvn gdn gne) H := hP
        have hD : va_D A (w_X12_trade cy a0 gg gvn gdn gne) := hD
        refine lv_istore (lv' := [(6, .int v3), (0, .ref (a0 0)), (1, .int x1), (2, .int x2), (3, .int x3), (4, .int x4), (5, .int x5)]) hx hb dX12_trade_67 hl (by decide) rfl (fun ls hl => ?_)
        refine lv_iload hx hb dX12_trade_69 (lv_at hl 0 rfl) ?_
        refine lv_iload hx hb dX12_trade_71 (lv_at hl 5 rfl) ?_
        refine lv_icmp_ge (tgt := 83) hx hb dX12_trade_73 (by decide) (fun c5 => ?_) (fun c5 => ?_)
        · rw [if_pos c5] at h
          exact c83 (p_X12_trade_43 gvn gdn n) ih gne x1 x2 x3 x4 x5 H locs ls h hP hD hS (lv_sub hl [1, 2, 3, 4, 5, 6] rfl)
        · rw [if_neg c5] at h
          refine lv_iload hx hb dX12_trade_76 (lv_at hl 0 rfl) ?_
          refine lv_istore (lv' := [(4, .int v3), (6, .int v3), (0, .ref (a0 0)), (1, .int x1), (2, .int x2), (3, .int x3), (5, .int x5)]) hx hb dX12_trade_78 hl (by decide) rfl (fun ls hl => ?_)
          refine lv_iload hx hb dX12_trade_80 (lv_at hl 6 rfl) ?_
          refine lv_istore_n (lv' := [(3, .int x5), (4, .int v3), (6, .int v3), (0, .ref (a0 0)), (1, .int x1), (2, .int x2), (5, .int x5)]) hx hb dX12_trade_82 rfl hl (by decide) rfl (fun ls hl => ?_)
          exact c83 (p_X12_trade_43 gvn gdn n) ih gne x1 x2 x5 v3 x5 H locs ls h hP hD hS (lv_sub hl [3, 4, 5, 0, 1, 6] rfl)
  obtain ⟨H, hH⟩ : ∃ H : Heap, H = s.heap := ⟨_, rfl⟩
  obtain ⟨locs, hlocs⟩ : ∃ locs : List Loc, locs = [] := ⟨_, rfl⟩
  have hS : va_S A s.heap H locs := by rw [hH, hlocs]; exact hS
  rw [← hH] at hP
  suffices hg : W p l e rm_X12_trade s m aa below meth c H locs 0 0 (vx_MQ below qq xx aa s 2 12 A) (F0 m 0 ls []) by subst hH; subst hlocs; exact hg
  unfold p_X12_trade at h
  refine lv_iload_n hx hb dX12_trade_0 rfl (lv_at hl 2 rfl) ?_
  refine lv_iconst (v := (1 : Int32)) hx hb dX12_trade_1 (by decide) ?_
  obtain ⟨v1, hv2, h⟩ := ok_bind h
  refine cx_sv (w2 := fun (_ : Unit) => w_X12_trade cy a0 gg gvn gdn gne) (w2x := fun (_ : Unit) => w_X12_trade cy a0 gg gvn gdn gne) (As := [.int x2, .int (1 : Int32)]) (rest := []) ⟨hx, hb, hml, hown, hts⟩ (c_X12_needWhat l dC dI cy z hl9  x2 (1 : Int32) H.size v1 hv2) (va_cwS 2 hts gX12_trade_X12_needWhat rfl rfl rfl (by decide +kernel) ⟨Nat.le_of_ble_eq_true rfl, Nat.le_of_ble_eq_true rfl⟩) cl_blindS (cl_preS hK hP hD hS hA hX [] (by decide) rfl) hP hD hS hA [] rfl rfl hl.1 rfl (lv_room (Nat.le_of_ble_eq_true rfl)) dX12_trade_2 ⟨Nat.le_of_ble_eq_true rfl, Nat.le_of_ble_eq_true rfl⟩ (cells' := 1) (slots' := 6) ⟨rfl, rfl⟩ (fun _ => updR [] rfl) (fun _ => updR [] rfl) (fun E ce q9 u H locs hw hE hP hD hS hc1 hc2 hc3 => ?_) (fun u H locs hw hP hD hS => ?_)
  · subst hw
    have hP : va_P (dC, dI) vwCl (w_X12_trade cy a0 gg gvn gdn gne) H := hP
    obtain ⟨hE1, hE2⟩ := exE_pass hE h
    exact vx_out (fun x9 hx9 => (htab x9 hx9).elim) hlocks hc1 hc2 hc3 (fun t h1 h2 => by rw [hxx]; exact ⟨_, hE2.symm, ⟨hE1, by rw [h1]; exact hP, va_K.moved h2 hK⟩, hS.F h1⟩) hS.2.2 (by decide) (by decide)
  obtain ⟨hw1, hw2⟩ := hw
  subst hw2
  rw [← hw1] at h
  dsimp only [xb] at h
  have hP : va_P (dC, dI) vwCl (w_X12_trade cy a0 gg gvn gdn gne) H := hP
  have hD : va_D A (w_X12_trade cy a0 gg gvn gdn gne) := hD
  refine lv_iload_n hx hb dX12_trade_5 rfl (lv_at hl 1 rfl) ?_
  obtain ⟨v3, hv4, h⟩ := ok_bind h
  refine cx_sv (w2 := fun (_ : Unit) => w_X12_trade cy a0 gg gvn gdn gne) (w2x := fun (_ : Unit) => w_X12_trade cy a0 gg gvn gdn gne) (As := [.int x1]) (rest := []) ⟨hx, hb, hml, hown, hts⟩ (c_X12_needBase l dC dI cy z hl9  x1 H.size v3 hv4) (va_cwS 1 hts gX12_trade_X12_needBase rfl rfl rfl (by decide +kernel) ⟨Nat.le_of_ble_eq_true rfl, Nat.le_of_ble_eq_true rfl⟩) cl_blindS (cl_preS hK hP hD hS hA hX [] (by decide) rfl) hP hD hS hA [] rfl rfl hl.1 rfl (lv_room (Nat.le_of_ble_eq_true rfl)) dX12_trade_6 ⟨Nat.le_of_ble_eq_true rfl, Nat.le_of_ble_eq_true rfl⟩ (cells' := 2) (slots' := 12) ⟨rfl, rfl⟩ (fun _ => updR [] rfl) (fun _ => updR [] rfl) (fun E ce q9 u H locs hw hE hP hD hS hc1 hc2 hc3 => ?_) (fun u H locs hw hP hD hS => ?_)
  · subst hw
    have hP : va_P (dC, dI) vwCl (w_X12_trade cy a0 gg gvn gdn gne) H := hP
    obtain ⟨hE1, hE2⟩ := exE_pass hE h
    exact vx_out (fun x9 hx9 => (htab x9 hx9).elim) hlocks hc1 hc2 hc3 (fun t h1 h2 => by rw [hxx]; exact ⟨_, hE2.symm, ⟨hE1, by rw [h1]; exact hP, va_K.moved h2 hK⟩, hS.F h1⟩) hS.2.2 (by decide) (by decide)
  obtain ⟨hw1, hw2⟩ := hw
  subst hw2
  rw [← hw1] at h
  dsimp only [xb] at h
  have hP : va_P (dC, dI) vwCl (w_X12_trade cy a0 gg gvn gdn gne) H := hP
  have hD : va_D A (w_X12_trade cy a0 gg gvn gdn gne) := hD
  refine lv_aload_n hx hb dX12_trade_9 rfl (lv_at hl 0 rfl) ?_
  refine va_get (D := (dC, dI)) (ci := 10) (v := .ref (a0 50)) (C := RX12) (T := TX12) (N := 17) hx hb hts in_X12 hown hK hP 0 rfl rfl 13 (by decide) lk0 (fun _ h9 => h9) rfl dX12_trade_10 ?_
  refine lv_aload_n hx hb dX12_trade_13 rfl (lv_at hl 0 rfl) ?_
  refine va_get (D := (dC, dI)) (ci := 10) (v := .ref (a0 2)) (C := RX12) (T := TX12) (N := 17) hx hb hts in_X12 hown hK hP 0 rfl rfl 6 (by decide) lk1 (fun _ h9 => h9) rfl dX12_trade_14 ?_
  obtain ⟨v5, hv6, h⟩ := ok_bind h
  refine cl_vv (w2 := fun (u : ((Nat → Nat → Int32) × (Nat → Nat → Int64))) => w_X12_trade cy a0 gg gvn gdn u) (As := [.ref (a0 2)]) (rest := []) ⟨hx, hb, hml, hown, hts⟩ (c_X6_fill l dC dI cy (fun k => a0 (k + 50)) (fun k => a0 (k + 2)) gne gvn gdn H.size v5 hv6) (cwV 1 hts gX12_trade_X6_fill rfl rfl rfl (by decide +kernel) ⟨Nat.le_of_ble_eq_true rfl, Nat.le_of_ble_eq_true rfl⟩) (va_recv hK hP (ci := 4) (q0 := 12) rfl rfl) cl_blind (cl_pre hK hP hD [12, 13, 14, 15, 16, 17, 18, 19, 20, 21, 22, 23, 24, 25, 26, 27, 28, 29, 1, 2, 3, 4, 5, 6] (by decide) rfl) hP hD hS hA [12, 13, 14, 15, 16, 17, 18, 19, 20, 21, 22, 23, 24, 25, 26, 27, 28, 29, 1, 2, 3, 4, 5, 6] rfl rfl hl.1 rfl (lv_room (Nat.le_of_ble_eq_true rfl)) dX12_trade_17 ⟨Nat.le_of_ble_eq_true rfl, Nat.le_of_ble_eq_true rfl⟩ ⟨rfl, rfl⟩ (fun _ => updM [12, 13, 14, 15, 16, 17, 18, 19, 20, 21, 22, 23, 24, 25, 26, 27, 28, 29, 1, 2, 3, 4, 5, 6] [0, 7, 8, 9, 10, 11] [(a0 0, .inr (10, [.ref (a0 1), .int (gg.1), .int (gg.2.1), .int (gg.2.2.1), .int (gg.2.2.2.1), .int (gg.2.2.2.2.1), .ref (a0 2), .ref (a0 17), .ref (a0 32), .int (gg.2.2.2.2.2), .ref (a0 47), .ref (a0 48), .ref (a0 49), .ref (a0 50), .ref (a0 68), .ref (a0 78), .ref (a0 80)])), (a0 12, .inl (cy 1, 5, .inl (gvn.2.2.1))), (a0 13, .inl (cy 1, 5, .inl (gvn.2.2.2.1))), (a0 14, .inl (cy 1, 5, .inl (gvn.2.2.2.2.1))), (a0 15, .inl (cy 1, 5, .inl (gvn.2.2.2.2.2.1))), (a0 16, .inl (cy 1, 5, .inl (gvn.2.2.2.2.2.2)))] 30 rfl rfl rfl rfl rfl (by decide +kernel) (by decide +kernel) rfl) (fun u H locs hw hP hD hS => ?_)
  have hw := hw.symm
  subst hw
  have hP : va_P (dC, dI) vwCl (w_X12_trade cy a0 gg gvn gdn v5) H := hP
  have hD : va_D A (w_X12_trade cy a0 gg gvn gdn v5) := hD
  refine lv_iconst (v := (0 : Int32)) hx hb dX12_trade_20 (by decide) ?_
  refine lv_istore_n (lv' := [(3, .int (0 : Int32)), (0, .ref (a0 0)), (1, .int x1), (2, .int x2)]) hx hb dX12_trade_21 rfl hl (by decide) rfl (fun ls hl => ?_)
  refine lv_aload_n hx hb dX12_trade_22 rfl (lv_at hl 1 rfl) ?_
  refine va_get (D := (dC, dI)) (ci := 10) (v := .ref (a0 50)) (C := RX12) (T := TX12) (N := 17) hx hb hts in_X12 hown hK hP 0 rfl rfl 13 (by decide) lk0 (fun _ h9 => h9) rfl dX12_trade_23 ?_
  refine lv_iload_n hx hb dX12_trade_26 rfl (lv_at hl 0 rfl) ?_
  refine lv_aload_n hx hb dX12_trade_27 rfl (lv_at hl 1 rfl) ?_
  refine va_get (D := (dC, dI)) (ci := 10) (v := .ref (a0 2)) (C := RX12) (T := TX12) (N := 17) hx hb hts in_X12 hown hK hP 0 rfl rfl 6 (by decide) lk1 (fun _ h9 => h9) rfl dX12_trade_28 ?_
  refine va_get (D := (dC, dI)) (ci := 7) (v := .int gvn.2.1) (C := RX9) (T := TX9) (N := 9) hx hb hts in_X9 hown hK hP 1 rfl rfl 1 (by decide) lk2 (fun _ h9 => h9) rfl dX12_trade_31 ?_
  refine lv_iload_n hx hb dX12_trade_34 rfl (lv_at hl 2 rfl) ?_
  obtain ⟨v7, hv8, h⟩ := ok_bind h
  refine cl_vi (w2 := fun (_ : Unit) => w_X12_trade cy a0 gg gvn gdn v5) (As := [.int (0 : Int32), .int gvn.2.1, .int x1]) (rest := []) ⟨hx, hb, hml, hown, hts⟩ (c_X6_misreadIn l dC dI cy (fun k => a0 (k + 50)) v5 (0 : Int32) gvn.2.1 x1 H.size v7 hv8) (cwV 3 hts gX12_trade_X6_misreadIn rfl rfl rfl (by decide +kernel) ⟨Nat.le_of_ble_eq_true rfl, Nat.le_of_ble_eq_true rfl⟩) (va_recv hK hP (ci := 4) (q0 := 12) rfl rfl) cl_blind (cl_pre hK hP hD [12, 13, 14, 15, 16, 17, 18, 19, 20, 21, 22, 23, 24, 25, 26, 27, 28, 29] (by decide) rfl) hP hD hS hA [12, 13, 14, 15, 16, 17, 18, 19, 20, 21, 22, 23, 24, 25, 26, 27, 28, 29] rfl rfl hl.1 rfl (lv_room (Nat.le_of_ble_eq_true rfl)) dX12_trade_35 ⟨Nat.le_of_ble_eq_true rfl, Nat.le_of_ble_eq_true rfl⟩ ⟨rfl, rfl⟩ (fun _ => updR [12, 13, 14, 15, 16, 17, 18, 19, 20, 21, 22, 23, 24, 25, 26, 27, 28, 29] rfl) (fun r u H locs hw hP hD hS => ?_)
  have hw := hw.symm
  subst hw
  have hP : va_P (dC, dI) vwCl (w_X12_trade cy a0 gg gvn gdn v5) H := hP
  have hD : va_D A (w_X12_trade cy a0 gg gvn gdn v5) := hD
  refine lv_istore (lv' := [(4, .int v7), (3, .int (0 : Int32)), (0, .ref (a0 0)), (1, .int x1), (2, .int x2)]) hx hb dX12_trade_38 hl (by decide) rfl (fun ls hl => ?_)
  refine lv_iconst (v := (1 : Int32)) hx hb dX12_trade_40 (by decide) ?_
  refine lv_istore (lv' := [(5, .int (1 : Int32)), (4, .int v7), (3, .int (0 : Int32)), (0, .ref (a0 0)), (1, .int x1), (2, .int x2)]) hx hb dX12_trade_41 hl (by decide) rfl (fun ls hl => ?_)
  exact c43 fu v5 x1 x2 (0 : Int32) v7 (1 : Int32) H locs ls h hP hD hS (lv_sub hl [3, 4, 5, 2, 1, 0] rfl)

abbrev w_X12_tax (cy : Nat → ClassId) (a0 : Nat → Nat) (gg : Int32 × Int32 × Int32 × Int32 × Int32 × Int32) (gvn : Int32 × Int32 × (Nat → Int32) × (Nat → Int32) × (Nat → Int32) × (Nat → Int32) × (Nat → Int32)) (gdn : Int32 × Int32 × (Nat → Int32) × (Nat → Int32) × (Nat → Int32) × (Nat → Int32)) : va_W := [(a0 0, .inr (10, [.ref (a0 1), .int (gg.1), .int (gg.2.1), .int (gg.2.2.1), .int (gg.2.2.2.1), .int (gg.2.2.2.2.1), .ref (a0 2), .ref (a0 17), .ref (a0 32), .int (gg.2.2.2.2.2), .ref (a0 47), .ref (a0 48), .ref (a0 49), .ref (a0 50), .ref (a0 68), .ref (a0 78), .ref (a0 80)])), (a0 2, .inr (7, [.int (gvn.1), .int (gvn.2.1), .ref (a0 3), .ref (a0 8), .ref (a0 12), .ref (a0 13), .ref (a0 14), .ref (a0 15), .ref (a0 16)])), (a0 3, .inr (2, [.int (gdn.1), .int (gdn.2.1), .ref (a0 4), .ref (a0 5), .ref (a0 6), .ref (a0 7)])), (a0 4, .inl (cy 1, 10, .inl (gdn.2.2.1))), (a0 5, .inl (cy 1, 10, .inl (gdn.2.2.2.1))), (a0 6, .inl (cy 1, 10, .inl (gdn.2.2.2.2.1))), (a0 7, .inl (cy 1, 50, .inl (gdn.2.2.2.2.2)))]
abbrev rm_X12_tax : Room := { frames := 7, cells := 1, slots := 6, locals := 111 }
set_option maxHeartbeats 1000000 in
set_option maxRecDepth 100000 in
theorem c_X12_tax (l : Launch) (dC : Nat → ClassId) (dI : Nat → Nat → Nat) (cy : Nat → ClassId) (z : Nat → Nat) (hl9 : l.stackTraces = false) (a0 : Nat → Nat) (gg : Int32 × Int32 × Int32 × Int32 × Int32 × Int32) (gvn : Int32 × Int32 × (Nat → Int32) × (Nat → Int32) × (Nat → Int32) × (Nat → Int32) × (Nat → Int32)) (gdn : Int32 × Int32 × (Nat → Int32) × (Nat → Int32) × (Nat → Int32) × (Nat → Int32)) (x1 : Int32) (sz : Nat) (R0 : (Int32 ⊕ Nat) × (Unit)) (h : p_X12_tax gdn x1 = some R0) : vx_Met l yX12_tax wsX12_tax rm_X12_tax (va_Pc [.ref (a0 0), .int x1] (prS dC dI cy z (w_X12_tax cy a0 gg gvn gdn) sz)) (va_Qi (fun (r : Int32) (u : Unit) => Sum.inl r = R0.1 ∧ u = R0.2) (fun (_ : Unit) t => poC dC dI cy (w_X12_tax cy a0 gg gvn gdn) t) (va_A (w_X12_tax cy a0 gg gvn gdn) sz)) (vx_X (fun (u : Unit) => u = R0.2) (fun E (_ : Unit) t => exE E R0.1 ∧ poC dC dI cy (w_X12_tax cy a0 gg gvn gdn) t) (va_A (w_X12_tax cy a0 gg gvn gdn) sz)) 1 6 (va_A (w_X12_tax cy a0 gg gvn gdn) sz) := by
  refine vx_ofW (cc := cX12_tax) (maxL := 2) (ret := (some .int)) (by decide) rfl ?_
  intro p e s m aa below meth c s₁ B hml htab hv
  obtain ⟨haa, ⟨hsz, hP, hK, hD0⟩, hX⟩ := hv
  have hx := B.exec
  have hb := B.bytes
  have hr := B.returns
  have hts := atoms_spec (ws := wsX12_tax) B.pre
  have hown : s.vm.findClass RX12 = some m.cls := findClass_of_methodNamed B.named
  have hlocks := B.notSynchronized
  subst hsz
  have hD := hD0.self (sz := s.heap.size)
  obtain ⟨qq, hqq⟩ : ∃ qq, qq = (va_Qi (fun (r : Int32) (u : Unit) => Sum.inl r = R0.1 ∧ u = R0.2) (fun (_ : Unit) t => poC dC dI cy (w_X12_tax cy a0 gg gvn gdn) t) (va_A (w_X12_tax cy a0 gg gvn gdn) s.heap.size)) := ⟨_, rfl⟩
  obtain ⟨xx, hxx⟩ : ∃ xx, xx = (vx_X (fun (u : Unit) => u = R0.2) (fun E (_ : Unit) t => exE E R0.1 ∧ poC dC dI cy (w_X12_tax cy a0 gg gvn gdn) t) (va_A (w_X12_tax cy a0 gg gvn gdn) s.heap.size)) := ⟨_, rfl⟩
  rw [← hqq, ← hxx]
  generalize hAe : va_A (w_X12_tax cy a0 gg gvn gdn) s.heap.size = A at hD hqq hxx hX ⊢
  have hA : ∀ q : Nat, s.heap.size ≤ q → A q := fun q h => by rw [← hAe]; exact Or.inr h
  have hS : va_S A s.heap s.heap [] := va_S.rf
  have hl := lv_entry ([.ref (a0 0), .int x1]) (n := 2) (Nat.le_of_ble_eq_true rfl)
  have hE : entryFrame m aa 2 = F0 m 0 ((lg_sl ([.ref (a0 0), .int x1]) ++ List.replicate (2 - (lg_sl ([.ref (a0 0), .int x1])).length) Slot.unset).toArray) [] := by rw [haa]; exact lg_entry_eq m _ 2
  refine W.eq hE ?_
  generalize (lg_sl ([.ref (a0 0), .int x1]) ++ List.replicate (2 - (lg_sl ([.ref (a0 0), .int x1])).length) Slot.unset).toArray = ls at hl ⊢
  have hl : lv_has ls 2 [(0, .ref (a0 0)), (1, .int x1)] := hl
  change W p l e rm_X12_tax s m aa below meth c s.heap [] 0 0 (vx_MQ below qq xx aa s 1 6 A) (F0 m 0 ls [])
  have hS0 := hS
  have lk0 := hts (.fieldLink RX12 20 "GoatDoors" "now" "LGoatDoors$Village;") (by decide +kernel)
  have lk1 := hts (.fieldLink RX12 130 "GoatDoors$Village" "doors" "LGoatDoors$Doors;") (by decide +kernel)
  have in_X12 : ∀ w ∈ wsX120, w ∈ wsX12_tax := by decide +kernel
  have in_X9 : ∀ w ∈ wsX90, w ∈ wsX12_tax := by decide +kernel
  obtain ⟨H, hH⟩ : ∃ H : Heap, H = s.heap := ⟨_, rfl⟩
  obtain ⟨locs, hlocs⟩ : ∃ locs : List Loc, locs = [] := ⟨_, rfl⟩
  have hS : va_S A s.heap H locs := by rw [hH, hlocs]; exact hS
  rw [← hH] at hP
  suffices hg : W p l e rm_X12_tax s m aa below meth c H locs 0 0 (vx_MQ below qq xx aa s 1 6 A) (F0 m 0 ls []) by subst hH; subst hlocs; exact hg
  unfold p_X12_tax at h
  refine lv_aload_n hx hb dX12_tax_0 rfl (lv_at hl 0 rfl) ?_
  refine lv_iload_n hx hb dX12_tax_1 rfl (lv_at hl 1 rfl) ?_
  obtain ⟨v1, hv2, h⟩ := ok_bind h
  refine cx_vv (w2 := fun (_ : Unit) => w_X12_tax cy a0 gg gvn gdn) (w2x := fun (_ : Unit) => w_X12_tax cy a0 gg gvn gdn) (As := [.int x1]) (rest := []) ⟨hx, hb, hml, hown, hts⟩ (c_X12_needDoor l dC dI cy z hl9 a0 gg gvn gdn x1 H.size v1 hv2) (cwV 1 hts gX12_tax_X12_needDoor rfl rfl rfl (by decide +kernel) ⟨Nat.le_of_ble_eq_true rfl, Nat.le_of_ble_eq_true rfl⟩) (va_recv hK hP (ci := 10) (q0 := 0) rfl rfl) cl_blindS (cl_preS hK hP hD hS hA hX [0, 1, 2, 3, 4, 5, 6] (by decide) rfl) hP hD hS hA [0, 1, 2, 3, 4, 5, 6] rfl rfl hl.1 rfl (lv_room (Nat.le_of_ble_eq_true rfl)) dX12_tax_2 ⟨Nat.le_of_ble_eq_true rfl, Nat.le_of_ble_eq_true rfl⟩ (cells' := 1) (slots' := 6) ⟨rfl, rfl⟩ (fun _ => updR [0, 1, 2, 3, 4, 5, 6] rfl) (fun _ => updR [0, 1, 2, 3, 4, 5, 6] rfl) (fun E ce q9 u H locs hw hE hP hD hS hc1 hc2 hc3 => ?_) (fun u H locs hw hP hD hS => ?_)
  · subst hw
    have hP : va_P (dC, dI) vwCl (w_X12_tax cy a0 gg gvn gdn) H := hP
    obtain ⟨hE1, hE2⟩ := exE_pass hE h
    exact vx_out (fun x9 hx9 => (htab x9 hx9).elim) hlocks hc1 hc2 hc3 (fun t h1 h2 => by rw [hxx]; exact ⟨_, hE2.symm, ⟨hE1, by rw [h1]; exact hP, va_K.moved h2 hK⟩, hS.F h1⟩) hS.2.2 (by decide) (by decide)
  obtain ⟨hw1, hw2⟩ := hw
  subst hw2
  rw [← hw1] at h
  dsimp only [xb] at h
  have hP : va_P (dC, dI) vwCl (w_X12_tax cy a0 gg gvn gdn) H := hP
  have hD : va_D A (w_X12_tax cy a0 gg gvn gdn) := hD
  refine lv_aload_n hx hb dX12_tax_5 rfl (lv_at hl 0 rfl) ?_
  refine va_get (D := (dC, dI)) (ci := 10) (v := .ref (a0 2)) (C := RX12) (T := TX12) (N := 17) hx hb hts in_X12 hown hK hP 0 rfl rfl 6 (by decide) lk0 (fun _ h9 => h9) rfl dX12_tax_6 ?_
  refine va_get (D := (dC, dI)) (ci := 7) (v := .ref (a0 3)) (C := RX9) (T := TX9) (N := 9) hx hb hts in_X9 hown hK hP 1 rfl rfl 2 (by decide) lk1 (fun _ h9 => h9) rfl dX12_tax_9 ?_
  refine lv_iload_n hx hb dX12_tax_12 rfl (lv_at hl 1 rfl) ?_
  refine lv_bipush (v := (10 : Int32)) hx hb dX12_tax_13 (by decide) ?_
  obtain ⟨v3, hv4, h⟩ := ok_bind h
  refine cl_vi (w2 := fun (_ : Unit) => w_X12_tax cy a0 gg gvn gdn) (As := [.int x1, .int (10 : Int32)]) (rest := []) ⟨hx, hb, hml, hown, hts⟩ (c_X4_worthIn l dC dI cy (fun k => a0 (k + 3)) gdn x1 (10 : Int32) H.size v3 hv4) (cwV 2 hts gX12_tax_X4_worthIn rfl rfl rfl (by decide +kernel) ⟨Nat.le_of_ble_eq_true rfl, Nat.le_of_ble_eq_true rfl⟩) (va_recv hK hP (ci := 2) (q0 := 2) rfl rfl) cl_blind (cl_pre hK hP hD [2, 3, 4, 5, 6] (by decide) rfl) hP hD hS hA [2, 3, 4, 5, 6] rfl rfl hl.1 rfl (lv_room (Nat.le_of_ble_eq_true rfl)) dX12_tax_15 ⟨Nat.le_of_ble_eq_true rfl, Nat.le_of_ble_eq_true rfl⟩ ⟨rfl, rfl⟩ (fun _ => updR [2, 3, 4, 5, 6] rfl) (fun r u H locs hw hP hD hS => ?_)
  have hw := hw.symm
  subst hw
  have hP : va_P (dC, dI) vwCl (w_X12_tax cy a0 gg gvn gdn) H := hP
  have hD : va_D A (w_X12_tax cy a0 gg gvn gdn) := hD
  refine lv_bipush (v := (10 : Int32)) hx hb dX12_tax_18 (by decide) ?_
  obtain ⟨v5, hv6, h⟩ := ok_bind h
  refine cl_si (w2 := fun (_ : Unit) => w_X12_tax cy a0 gg gvn gdn) (As := [.int v3, .int (10 : Int32)]) (rest := []) ⟨hx, hb, hml, hown, hts⟩ (c_X12_dividedUp l dC dI cy  v3 (10 : Int32) H.size v5 hv6) (va_cwS 2 hts gX12_tax_X12_dividedUp rfl rfl rfl (by decide +kernel) ⟨Nat.le_of_ble_eq_true rfl, Nat.le_of_ble_eq_true rfl⟩) cl_blind (cl_pre hK hP hD [] (by decide) rfl) hP hD hS hA [] rfl rfl hl.1 rfl (lv_room (Nat.le_of_ble_eq_true rfl)) dX12_tax_20 ⟨Nat.le_of_ble_eq_true rfl, Nat.le_of_ble_eq_true rfl⟩ ⟨rfl, rfl⟩ (fun _ => updR [] rfl) (fun r u H locs hw hP hD hS => ?_)
  have hw := hw.symm
  subst hw
  have hP : va_P (dC, dI) vwCl (w_X12_tax cy a0 gg gvn gdn) H := hP
  have hD : va_D A (w_X12_tax cy a0 gg gvn gdn) := hD
  refine vx_ret ?_
  exact W.iret (v := v5) hx hb hr (fun t ht hW => by rw [hqq]; have hh := Option.some.inj h; exact ⟨⟨v5, (()), rfl, ⟨fst_of hh, snd_of hh⟩, by rw [ht]; exact hP, va_K.moved hW.alike hK⟩, hS.F ht⟩) hS.2.2 dX12_tax_23

abbrev w_X12_sum (cy : Nat → ClassId) (a0 : Nat → Nat) (gg : Int32 × Int32 × Int32 × Int32 × Int32 × Int32) (gvn : Int32 × Int32 × (Nat → Int32) × (Nat → Int32) × (Nat → Int32) × (Nat → Int32) × (Nat → Int32)) (gdn : Int32 × Int32 × (Nat → Int32) × (Nat → Int32) × (Nat → Int32) × (Nat → Int32)) (gcs : Int32 × Int32 × (Nat → Int32)) : va_W := [(a0 0, .inr (10, [.ref (a0 1), .int (gg.1), .int (gg.2.1), .int (gg.2.2.1), .int (gg.2.2.2.1), .int (gg.2.2.2.2.1), .ref (a0 2), .ref (a0 17), .ref (a0 32), .int (gg.2.2.2.2.2), .ref (a0 47), .ref (a0 48), .ref (a0 49), .ref (a0 50), .ref (a0 68), .ref (a0 78), .ref (a0 80)])), (a0 2, .inr (7, [.int (gvn.1), .int (gvn.2.1), .ref (a0 3), .ref (a0 8), .ref (a0 12), .ref (a0 13), .ref (a0 14), .ref (a0 15), .ref (a0 16)])), (a0 3, .inr (2, [.int (gdn.1), .int (gdn.2.1), .ref (a0 4), .ref (a0 5), .ref (a0 6), .ref (a0 7)])), (a0 4, .inl (cy 1, 10, .inl (gdn.2.2.1))), (a0 5, .inl (cy 1, 10, .inl (gdn.2.2.2.1))), (a0 6, .inl (cy 1, 10, .inl (gdn.2.2.2.2.1))), (a0 7, .inl (cy 1, 50, .inl (gdn.2.2.2.2.2))), (a0 12, .inl (cy 1, 5, .inl (gvn.2.2.1))), (a0 13, .inl (cy 1, 5, .inl (gvn.2.2.2.1))), (a0 14, .inl (cy 1, 5, .inl (gvn.2.2.2.2.1))), (a0 15, .inl (cy 1, 5, .inl (gvn.2.2.2.2.2.1))), (a0 16, .inl (cy 1, 5, .inl (gvn.2.2.2.2.2.2))), (a0 78, .inr (0, [.int (gcs.1), .int (gcs.2.1), .ref (a0 79)])), (a0 79, .inl (cy 1, 6, .inl (gcs.2.2)))]
abbrev rm_X12_sum : Room := { frames := 7, cells := 3, slots := 18, locals := 115 }
set_option maxHeartbeats 1000000 in
set_option maxRecDepth 100000 in
theorem c_X12_sum (l : Launch) (dC : Nat → ClassId) (dI : Nat → Nat → Nat) (cy : Nat → ClassId) (z : Nat → Nat) (hl9 : l.stackTraces = false) (a0 : Nat → Nat) (gg : Int32 × Int32 × Int32 × Int32 × Int32 × Int32) (gvn : Int32 × Int32 × (Nat → Int32) × (Nat → Int32) × (Nat → Int32) × (Nat → Int32) × (Nat → Int32)) (gdn : Int32 × Int32 × (Nat → Int32) × (Nat → Int32) × (Nat → Int32) × (Nat → Int32)) (gcs : Int32 × Int32 × (Nat → Int32)) (x1 : Int32) (x2 : Int32) (x3 : Int32) (sz : Nat) (R0 : (Int32 ⊕ Nat) × ((Int32 × Int32 × (Nat → Int32)))) (h : p_X12_sum gvn gdn gcs x1 x2 x3 = some R0) : vx_Met l yX12_sum wsX12_sum rm_X12_sum (va_Pc [.ref (a0 0), .int x1, .int x2, .int x3] (prS dC dI cy z (w_X12_sum cy a0 gg gvn gdn gcs) sz)) (va_Qi (fun (r : Int32) (u : (Int32 × Int32 × (Nat → Int32))) => Sum.inl r = R0.1 ∧ u = R0.2) (fun (u : (Int32 × Int32 × (Nat → Int32))) t => poC dC dI cy (w_X12_sum cy a0 gg gvn gdn u) t) (va_A (w_X12_sum cy a0 gg gvn gdn gcs) sz)) (vx_X (fun (u : (Int32 × Int32 × (Nat → Int32))) => u = R0.2) (fun E (u : (Int32 × Int32 × (Nat → Int32))) t => exE E R0.1 ∧ poC dC dI cy (w_X12_sum cy a0 gg gvn gdn u) t) (va_A (w_X12_sum cy a0 gg gvn gdn gcs) sz)) 3 18 (va_A (w_X12_sum cy a0 gg gvn gdn gcs) sz) := by
  refine vx_ofW (cc := cX12_sum) (maxL := 4) (ret := (some .int)) (by decide) rfl ?_
  intro p e s m aa below meth c s₁ B hml htab hv
  obtain ⟨haa, ⟨hsz, hP, hK, hD0⟩, hX⟩ := hv
  have hx := B.exec
  have hb := B.bytes
  have hr := B.returns
  have hts := atoms_spec (ws := wsX12_sum) B.pre
  have hown : s.vm.findClass RX12 = some m.cls := findClass_of_methodNamed B.named
  have hlocks := B.notSynchronized
  subst hsz
  have hD := hD0.self (sz := s.heap.size)
  obtain ⟨qq, hqq⟩ : ∃ qq, qq = (va_Qi (fun (r : Int32) (u : (Int32 × Int32 × (Nat → Int32))) => Sum.inl r = R0.1 ∧ u = R0.2) (fun (u : (Int32 × Int32 × (Nat → Int32))) t => poC dC dI cy (w_X12_sum cy a0 gg gvn gdn u) t) (va_A (w_X12_sum cy a0 gg gvn gdn gcs) s.heap.size)) := ⟨_, rfl⟩
  obtain ⟨xx, hxx⟩ : ∃ xx, xx = (vx_X (fun (u : (Int32 × Int32 × (Nat → Int32))) => u = R0.2) (fun E (u : (Int32 × Int32 × (Nat → Int32))) t => exE E R0.1 ∧ poC dC dI cy (w_X12_sum cy a0 gg gvn gdn u) t) (va_A (w_X12_sum cy a0 gg gvn gdn gcs) s.heap.size)) := ⟨_, rfl⟩
  rw [← hqq, ← hxx]
  generalize hAe : va_A (w_X12_sum cy a0 gg gvn gdn gcs) s.heap.size = A at hD hqq hxx hX ⊢
  have hA : ∀ q : Nat, s.heap.size ≤ q → A q := fun q h => by rw [← hAe]; exact Or.inr h
  have hS : va_S A s.heap s.heap [] := va_S.rf
  have hl := lv_entry ([.ref (a0 0), .int x1, .int x2, .int x3]) (n := 4) (Nat.le_of_ble_eq_true rfl)
  have hE : entryFrame m aa 4 = F0 m 0 ((lg_sl ([.ref (a0 0), .int x1, .int x2, .int x3]) ++ List.replicate (4 - (lg_sl ([.ref (a0 0), .int x1, .int x2, .int x3])).length) Slot.unset).toArray) [] := by rw [haa]; exact lg_entry_eq m _ 4
  refine W.eq hE ?_
  generalize (lg_sl ([.ref (a0 0), .int x1, .int x2, .int x3]) ++ List.replicate (4 - (lg_sl ([.ref (a0 0), .int x1, .int x2, .int x3])).length) Slot.unset).toArray = ls at hl ⊢
  have hl : lv_has ls 4 [(0, .ref (a0 0)), (1, .int x1), (2, .int x2), (3, .int x3)] := hl
  change W p l e rm_X12_sum s m aa below meth c s.heap [] 0 0 (vx_MQ below qq xx aa s 3 18 A) (F0 m 0 ls [])
  have hS0 := hS
  have lk0 := hts (.fieldLink RX12 20 "GoatDoors" "now" "LGoatDoors$Village;") (by decide +kernel)
  have lk1 := hts (.fieldLink RX12 142 "GoatDoors$Village" "base" "I") (by decide +kernel)
  have lk2 := hts (.fieldLink RX12 72 "GoatDoors" "childSum" "LGoatDoors$ChildSum;") (by decide +kernel)
  have lk3 := hts (.fieldLink RX12 130 "GoatDoors$Village" "doors" "LGoatDoors$Doors;") (by decide +kernel)
  have lk4 := hts (.classLink RX12 161 "java/util/NoSuchElementException") (by decide +kernel)
  have lk5 := hts (.initialized "java/util/NoSuchElementException") (by decide +kernel)
  have lk6 := hts (.fieldLink RX12 348 "GoatDoors$ChildSum" "length" "I") (by decide +kernel)
  have lk7 := hts (.fieldLink RX12 351 "GoatDoors$ChildSum" "carries" "I") (by decide +kernel)
  have lk8 := hts (.classLink RX12 252 "java/lang/IllegalArgumentException") (by decide +kernel)
  have lk9 := hts (.initialized "java/lang/IllegalArgumentException") (by decide +kernel)
  have in_X12 : ∀ w ∈ wsX120, w ∈ wsX12_sum := by decide +kernel
  have in_X9 : ∀ w ∈ wsX90, w ∈ wsX12_sum := by decide +kernel
  have in_X1 : ∀ w ∈ wsX10, w ∈ wsX12_sum := by decide +kernel
  have gd165 : ∀ w ∈ (vx_atS RX12 165 "java/util/NoSuchElementException" ["java/lang/RuntimeException", "java/lang/Exception"]).filter goodWord, w.before aa s = true := fun w hw => hts w ((show ∀ w ∈ (vx_atS RX12 165 "java/util/NoSuchElementException" ["java/lang/RuntimeException", "java/lang/Exception"]).filter goodWord, w ∈ wsX12_sum by decide +kernel) w hw)
  have gd256 : ∀ w ∈ (vx_atS RX12 256 "java/lang/IllegalArgumentException" ["java/lang/RuntimeException", "java/lang/Exception"]).filter goodWord, w.before aa s = true := fun w hw => hts w ((show ∀ w ∈ (vx_atS RX12 256 "java/lang/IllegalArgumentException" ["java/lang/RuntimeException", "java/lang/Exception"]).filter goodWord, w ∈ wsX12_sum by decide +kernel) w hw)
  obtain ⟨H, hH⟩ : ∃ H : Heap, H = s.heap := ⟨_, rfl⟩
  obtain ⟨locs, hlocs⟩ : ∃ locs : List Loc, locs = [] := ⟨_, rfl⟩
  have hS : va_S A s.heap H locs := by rw [hH, hlocs]; exact hS
  rw [← hH] at hP
  suffices hg : W p l e rm_X12_sum s m aa below meth c H locs 0 0 (vx_MQ below qq xx aa s 3 18 A) (F0 m 0 ls []) by subst hH; subst hlocs; exact hg
  unfold p_X12_sum at h
  refine lv_aload_n hx hb dX12_sum_0 rfl (lv_at hl 0 rfl) ?_
  refine lv_iload_n hx hb dX12_sum_1 rfl (lv_at hl 1 rfl) ?_
  obtain ⟨v1, hv2, h⟩ := ok_bind h
  refine cx_vv (w2 := fun (_ : Unit) => w_X12_sum cy a0 gg gvn gdn gcs) (w2x := fun (_ : Unit) => w_X12_sum cy a0 gg gvn gdn gcs) (As := [.int x1]) (rest := []) ⟨hx, hb, hml, hown, hts⟩ (c_X12_needDoor l dC dI cy z hl9 a0 gg gvn gdn x1 H.size v1 hv2) (cwV 1 hts gX12_sum_X12_needDoor rfl rfl rfl (by decide +kernel) ⟨Nat.le_of_ble_eq_true rfl, Nat.le_of_ble_eq_true rfl⟩) (va_recv hK hP (ci := 10) (q0 := 0) rfl rfl) cl_blindS (cl_preS hK hP hD hS hA hX [0, 1, 2, 3, 4, 5, 6] (by decide) rfl) hP hD hS hA [0, 1, 2, 3, 4, 5, 6] rfl rfl hl.1 rfl (lv_room (Nat.le_of_ble_eq_true rfl)) dX12_sum_2 ⟨Nat.le_of_ble_eq_true rfl, Nat.le_of_ble_eq_true rfl⟩ (cells' := 1) (slots' := 6) ⟨rfl, rfl⟩ (fun _ => updR [0, 1, 2, 3, 4, 5, 6] rfl) (fun _ => updR [0, 1, 2, 3, 4, 5, 6] rfl) (fun E ce q9 u H locs hw hE hP hD hS hc1 hc2 hc3 => ?_) (fun u H locs hw hP hD hS => ?_)
  · subst hw
    have hP : va_P (dC, dI) vwCl (w_X12_sum cy a0 gg gvn gdn gcs) H := hP
    obtain ⟨hE1, hE2⟩ := exE_pass hE h
    exact vx_out (fun x9 hx9 => (htab x9 hx9).elim) hlocks hc1 hc2 hc3 (fun t h1 h2 => by rw [hxx]; exact ⟨_, hE2.symm, ⟨hE1, by rw [h1]; exact hP, va_K.moved h2 hK⟩, hS.F h1⟩) hS.2.2 (by decide) (by decide)
  obtain ⟨hw1, hw2⟩ := hw
  subst hw2
  rw [← hw1] at h
  dsimp only [xb] at h
  have hP : va_P (dC, dI) vwCl (w_X12_sum cy a0 gg gvn gdn gcs) H := hP
  have hD : va_D A (w_X12_sum cy a0 gg gvn gdn gcs) := hD
  refine lv_aload_n hx hb dX12_sum_5 rfl (lv_at hl 0 rfl) ?_
  refine lv_iload_n hx hb dX12_sum_6 rfl (lv_at hl 2 rfl) ?_
  obtain ⟨v3, hv4, h⟩ := ok_bind h
  refine cx_vv (w2 := fun (_ : Unit) => w_X12_sum cy a0 gg gvn gdn gcs) (w2x := fun (_ : Unit) => w_X12_sum cy a0 gg gvn gdn gcs) (As := [.int x2]) (rest := []) ⟨hx, hb, hml, hown, hts⟩ (c_X12_needDoor l dC dI cy z hl9 a0 gg gvn gdn x2 H.size v3 hv4) (cwV 1 hts gX12_sum_X12_needDoor rfl rfl rfl (by decide +kernel) ⟨Nat.le_of_ble_eq_true rfl, Nat.le_of_ble_eq_true rfl⟩) (va_recv hK hP (ci := 10) (q0 := 0) rfl rfl) cl_blindS (cl_preS hK hP hD hS hA hX [0, 1, 2, 3, 4, 5, 6] (by decide) rfl) hP hD hS hA [0, 1, 2, 3, 4, 5, 6] rfl rfl hl.1 rfl (lv_room (Nat.le_of_ble_eq_true rfl)) dX12_sum_7 ⟨Nat.le_of_ble_eq_true rfl, Nat.le_of_ble_eq_true rfl⟩ (cells' := 2) (slots' := 12) ⟨rfl, rfl⟩ (fun _ => updR [0, 1, 2, 3, 4, 5, 6] rfl) (fun _ => updR [0, 1, 2, 3, 4, 5, 6] rfl) (fun E ce q9 u H locs hw hE hP hD hS hc1 hc2 hc3 => ?_) (fun u H locs hw hP hD hS => ?_)
  · subst hw
    have hP : va_P (dC, dI) vwCl (w_X12_sum cy a0 gg gvn gdn gcs) H := hP
    obtain ⟨hE1, hE2⟩ := exE_pass hE h
    exact vx_out (fun x9 hx9 => (htab x9 hx9).elim) hlocks hc1 hc2 hc3 (fun t h1 h2 => by rw [hxx]; exact ⟨_, hE2.symm, ⟨hE1, by rw [h1]; exact hP, va_K.moved h2 hK⟩, hS.F h1⟩) hS.2.2 (by decide) (by decide)
  obtain ⟨hw1, hw2⟩ := hw
  subst hw2
  rw [← hw1] at h
  dsimp only [xb] at h
  have hP : va_P (dC, dI) vwCl (w_X12_sum cy a0 gg gvn gdn gcs) H := hP
  have hD : va_D A (w_X12_sum cy a0 gg gvn gdn gcs) := hD
  refine lv_aload_n hx hb dX12_sum_10 rfl (lv_at hl 0 rfl) ?_
  refine va_get (D := (dC, dI)) (ci := 10) (v := .ref (a0 2)) (C := RX12) (T := TX12) (N := 17) hx hb hts in_X12 hown hK hP 0 rfl rfl 6 (by decide) lk0 (fun _ h9 => h9) rfl dX12_sum_11 ?_
  refine va_get (D := (dC, dI)) (ci := 7) (v := .int gvn.2.1) (C := RX9) (T := TX9) (N := 9) hx hb hts in_X9 hown hK hP 1 rfl rfl 1 (by decide) lk1 (fun _ h9 => h9) rfl dX12_sum_14 ?_
  refine lv_iconst (v := (2 : Int32)) hx hb dX12_sum_17 (by decide) ?_
  refine lv_icmp_ge (tgt := 32) hx hb dX12_sum_18 (by decide) (fun c5 => ?_) (fun c5 => ?_)
  · rw [if_pos c5] at h
    refine lv_aload_n hx hb dX12_sum_32 rfl (lv_at hl 0 rfl) ?_
    refine va_get (D := (dC, dI)) (ci := 10) (v := .ref (a0 78)) (C := RX12) (T := TX12) (N := 17) hx hb hts in_X12 hown hK hP 0 rfl rfl 15 (by decide) lk2 (fun _ h9 => h9) rfl dX12_sum_33 ?_
    refine lv_aload_n hx hb dX12_sum_36 rfl (lv_at hl 0 rfl) ?_
    refine va_get (D := (dC, dI)) (ci := 10) (v := .ref (a0 2)) (C := RX12) (T := TX12) (N := 17) hx hb hts in_X12 hown hK hP 0 rfl rfl 6 (by decide) lk0 (fun _ h9 => h9) rfl dX12_sum_37 ?_
    refine va_get (D := (dC, dI)) (ci := 7) (v := .ref (a0 3)) (C := RX9) (T := TX9) (N := 9) hx hb hts in_X9 hown hK hP 1 rfl rfl 2 (by decide) lk3 (fun _ h9 => h9) rfl dX12_sum_40 ?_
    refine lv_iload_n hx hb dX12_sum_43 rfl (lv_at hl 1 rfl) ?_
    refine lv_iload_n hx hb dX12_sum_44 rfl (lv_at hl 2 rfl) ?_
    refine lv_aload_n hx hb dX12_sum_45 rfl (lv_at hl 0 rfl) ?_
    refine va_get (D := (dC, dI)) (ci := 10) (v := .ref (a0 2)) (C := RX12) (T := TX12) (N := 17) hx hb hts in_X12 hown hK hP 0 rfl rfl 6 (by decide) lk0 (fun _ h9 => h9) rfl dX12_sum_46 ?_
    refine va_get (D := (dC, dI)) (ci := 7) (v := .int gvn.2.1) (C := RX9) (T := TX9) (N := 9) hx hb hts in_X9 hown hK hP 1 rfl rfl 1 (by decide) lk1 (fun _ h9 => h9) rfl dX12_sum_49 ?_
    obtain ⟨v6, hv7, h⟩ := ok_bind h
    refine cl_vv (w2 := fun (u : (Int32 × Int32 × (Nat → Int32))) => w_X12_sum cy a0 gg gvn gdn u) (As := [.ref (a0 3), .int x1, .int x2, .int gvn.2.1]) (rest := []) ⟨hx, hb, hml, hown, hts⟩ (c_X1_add l dC dI cy (fun k => a0 (k + 78)) (fun k => a0 (k + 3)) gcs gdn x1 x2 gvn.2.1 H.size v6 hv7) (cwV 4 hts gX12_sum_X1_add rfl rfl rfl (by decide +kernel) ⟨Nat.le_of_ble_eq_true rfl, Nat.le_of_ble_eq_true rfl⟩) (va_recv hK hP (ci := 0) (q0 := 12) rfl rfl) cl_blind (cl_pre hK hP hD [12, 13, 2, 3, 4, 5, 6] (by decide) rfl) hP hD hS hA [12, 13, 2, 3, 4, 5, 6] rfl rfl hl.1 rfl (lv_room (Nat.le_of_ble_eq_true rfl)) dX12_sum_52 ⟨Nat.le_of_ble_eq_true rfl, Nat.le_of_ble_eq_true rfl⟩ ⟨rfl, rfl⟩ (fun _ => updM [12, 13, 2, 3, 4, 5, 6] [0, 1, 7, 8, 9, 10, 11] [(a0 0, .inr (10, [.ref (a0 1), .int (gg.1), .int (gg.2.1), .int (gg.2.2.1), .int (gg.2.2.2.1), .int (gg.2.2.2.2.1), .ref (a0 2), .ref (a0 17), .ref (a0 32), .int (gg.2.2.2.2.2), .ref (a0 47), .ref (a0 48), .ref (a0 49), .ref (a0 50), .ref (a0 68), .ref (a0 78), .ref (a0 80)])), (a0 2, .inr (7, [.int (gvn.1), .int (gvn.2.1), .ref (a0 3), .ref (a0 8), .ref (a0 12), .ref (a0 13), .ref (a0 14), .ref (a0 15), .ref (a0 16)])), (a0 12, .inl (cy 1, 5, .inl (gvn.2.2.1))), (a0 13, .inl (cy 1, 5, .inl (gvn.2.2.2.1))), (a0 14, .inl (cy 1, 5, .inl (gvn.2.2.2.2.1))), (a0 15, .inl (cy 1, 5, .inl (gvn.2.2.2.2.2.1))), (a0 16, .inl (cy 1, 5, .inl (gvn.2.2.2.2.2.2)))] 14 rfl rfl rfl rfl rfl (by decide +kernel) (by decide +kernel) rfl) (fun u H locs hw hP hD hS => ?_)
    have hw := hw.symm
    subst hw
    have hP : va_P (dC, dI) vwCl (w_X12_sum cy a0 gg gvn gdn v6) H := hP
    have hD : va_D A (w_X12_sum cy a0 gg gvn gdn v6) := hD
    refine lv_iload_n hx hb dX12_sum_55 rfl (lv_at hl 3 rfl) ?_
    refine lv_iconst (v := (-1 : Int32)) hx hb dX12_sum_56 (by decide) ?_
    refine lv_icmp_ne (tgt := 68) hx hb dX12_sum_57 (by decide) (fun c8 => ?_) (fun c8 => ?_)
    · rw [if_neg c8] at h
      refine lv_iload_n hx hb dX12_sum_68 rfl (lv_at hl 3 rfl) ?_
      refine lv_bipush (v := (-2 : Int32)) hx hb dX12_sum_69 (by decide) ?_
      refine lv_icmp_ne (tgt := 82) hx hb dX12_sum_71 (by decide) (fun c9 => ?_) (fun c9 => ?_)
      · rw [if_neg c9] at h
        refine lv_iload_n hx hb dX12_sum_82 rfl (lv_at hl 3 rfl) ?_
        refine lv_if_lt (tgt := 97) hx hb dX12_sum_83 (by decide) (fun c10 => ?_) (fun c10 => ?_)
        · rw [if_pos c10] at h
          refine vx_throwSW (XC := xx) (text := "no such figure") (names := ["java/lang/RuntimeException", "java/lang/Exception"]) hx hb hl9 hown (by decide) (by decide) lk4 lk5 (hX.tx 354 "no such figure" (by decide)) (ex_at165 gd165 hX) (by decide +kernel) hX.us hX.ss hS (by rw [hml]; exact hl.1) dX12_sum_97 dX12_sum_100 dX12_sum_101 dX12_sum_104 dX12_sum_107 (fun x9 hx9 => (htab x9 hx9).elim) (Nat.le_of_ble_eq_true rfl) (Nat.le_of_ble_eq_true rfl) (Nat.le_of_ble_eq_true rfl) (Nat.le_of_ble_eq_true rfl) hlocks (fun t h1 h2 h3 => by rw [hxx]; have hh := Option.some.inj h; exact ⟨(v6), snd_of hh, ⟨exE_1 (fst_of hh).symm, ex_po hP hK h1 h3⟩, ex_F hS h2 h3⟩) hS.2.2 (by decide) (by decide)
        · rw [if_neg c10] at h
          refine lv_iload_n hx hb dX12_sum_86 rfl (lv_at hl 3 rfl) ?_
          refine lv_aload_n hx hb dX12_sum_87 rfl (lv_at hl 0 rfl) ?_
          refine va_get (D := (dC, dI)) (ci := 10) (v := .ref (a0 78)) (C := RX12) (T := TX12) (N := 17) hx hb hts in_X12 hown hK hP 0 rfl rfl 15 (by decide) lk2 (fun _ h9 => h9) rfl dX12_sum_88 ?_
          refine va_get (D := (dC, dI)) (ci := 0) (v := .int v6.1) (C := RX1) (T := TX1) (N := 3) hx hb hts in_X1 hown hK hP 12 rfl rfl 0 (by decide) lk6 (fun _ h9 => h9) rfl dX12_sum_91 ?_
          refine lv_icmp_lt (tgt := 108) hx hb dX12_sum_94 (by decide) (fun c11 => ?_) (fun c11 => ?_)
          · rw [if_pos c11] at h
            refine lv_aload_n hx hb dX12_sum_108 rfl (lv_at hl 0 rfl) ?_
            refine va_get (D := (dC, dI)) (ci := 10) (v := .ref (a0 78)) (C := RX12) (T := TX12) (N := 17) hx hb hts in_X12 hown hK hP 0 rfl rfl 15 (by decide) lk2 (fun _ h9 => h9) rfl dX12_sum_109 ?_
            refine lv_iload_n hx hb dX12_sum_112 rfl (lv_at hl 3 rfl) ?_
            obtain ⟨v12, hv13, h⟩ := ok_bind h
            refine cl_vi (w2 := fun (_ : Unit) => w_X12_sum cy a0 gg gvn gdn v6) (As := [.int x3]) (rest := []) ⟨hx, hb, hml, hown, hts⟩ (c_X1_figureAt l dC dI cy (fun k => a0 (k + 78)) v6 x3 H.size v12 hv13) (cwV 1 hts gX12_sum_X1_figureAt rfl rfl rfl (by decide +kernel) ⟨Nat.le_of_ble_eq_true rfl, Nat.le_of_ble_eq_true rfl⟩) (va_recv hK hP (ci := 0) (q0 := 12) rfl rfl) cl_blind (cl_pre hK hP hD [12, 13] (by decide) rfl) hP hD hS hA [12, 13] rfl rfl hl.1 rfl (lv_room (Nat.le_of_ble_eq_true rfl)) dX12_sum_113 ⟨Nat.le_of_ble_eq_true rfl, Nat.le_of_ble_eq_true rfl⟩ ⟨rfl, rfl⟩ (fun _ => updR [12, 13] rfl) (fun r u H locs hw hP hD hS => ?_)
            have hw := hw.symm
            subst hw
            have hP : va_P (dC, dI) vwCl (w_X12_sum cy a0 gg gvn gdn v6) H := hP
            have hD : va_D A (w_X12_sum cy a0 gg gvn gdn v6) := hD
            refine vx_ret ?_
            refine W.widen (k := 3) (n := 18) (by decide) (by decide) ?_
            exact W.iret (v := v12) hx hb hr (fun t ht hW => by rw [hqq]; have hh := Option.some.inj h; exact ⟨⟨v12, (v6), rfl, ⟨fst_of hh, snd_of hh⟩, by rw [ht]; exact hP, va_K.moved hW.alike hK⟩, hS.F ht⟩) hS.2.2 dX12_sum_116
          · rw [if_neg c11] at h
            refine vx_throwSW (XC := xx) (text := "no such figure") (names := ["java/lang/RuntimeException", "java/lang/Exception"]) hx hb hl9 hown (by decide) (by decide) lk4 lk5 (hX.tx 354 "no such figure" (by decide)) (ex_at165 gd165 hX) (by decide +kernel) hX.us hX.ss hS (by rw [hml]; exact hl.1) dX12_sum_97 dX12_sum_100 dX12_sum_101 dX12_sum_104 dX12_sum_107 (fun x9 hx9 => (htab x9 hx9).elim) (Nat.le_of_ble_eq_true rfl) (Nat.le_of_ble_eq_true rfl) (Nat.le_of_ble_eq_true rfl) (Nat.le_of_ble_eq_true rfl) hlocks (fun t h1 h2 h3 => by rw [hxx]; have hh := Option.some.inj h; exact ⟨(v6), snd_of hh, ⟨exE_1 (fst_of hh).symm, ex_po hP hK h1 h3⟩, ex_F hS h2 h3⟩) hS.2.2 (by decide) (by decide)
      · rw [if_pos c9] at h
        refine lv_aload_n hx hb dX12_sum_74 rfl (lv_at hl 0 rfl) ?_
        refine va_get (D := (dC, dI)) (ci := 10) (v := .ref (a0 78)) (C := RX12) (T := TX12) (N := 17) hx hb hts in_X12 hown hK hP 0 rfl rfl 15 (by decide) lk2 (fun _ h9 => h9) rfl dX12_sum_75 ?_
        refine va_get (D := (dC, dI)) (ci := 0) (v := .int v6.2.1) (C := RX1) (T := TX1) (N := 3) hx hb hts in_X1 hown hK hP 12 rfl rfl 1 (by decide) lk7 (fun _ h9 => h9) rfl dX12_sum_78 ?_
        refine vx_ret ?_
        refine W.widen (k := 3) (n := 18) (by decide) (by decide) ?_
        exact W.iret (v := v6.2.1) hx hb hr (fun t ht hW => by rw [hqq]; have hh := Option.some.inj h; exact ⟨⟨v6.2.1, (v6), rfl, ⟨fst_of hh, snd_of hh⟩, by rw [ht]; exact hP, va_K.moved hW.alike hK⟩, hS.F ht⟩) hS.2.2 dX12_sum_81
    · rw [if_pos c8] at h
      refine lv_aload_n hx hb dX12_sum_60 rfl (lv_at hl 0 rfl) ?_
      refine va_get (D := (dC, dI)) (ci := 10) (v := .ref (a0 78)) (C := RX12) (T := TX12) (N := 17) hx hb hts in_X12 hown hK hP 0 rfl rfl 15 (by decide) lk2 (fun _ h9 => h9) rfl dX12_sum_61 ?_
      refine va_get (D := (dC, dI)) (ci := 0) (v := .int v6.1) (C := RX1) (T := TX1) (N := 3) hx hb hts in_X1 hown hK hP 12 rfl rfl 0 (by decide) lk6 (fun _ h9 => h9) rfl dX12_sum_64 ?_
      refine vx_ret ?_
      refine W.widen (k := 3) (n := 18) (by decide) (by decide) ?_
      exact W.iret (v := v6.1) hx hb hr (fun t ht hW => by rw [hqq]; have hh := Option.some.inj h; exact ⟨⟨v6.1, (v6), rfl, ⟨fst_of hh, snd_of hh⟩, by rw [ht]; exact hP, va_K.moved hW.alike hK⟩, hS.F ht⟩) hS.2.2 dX12_sum_67
  · rw [if_neg c5] at h
    refine vx_throwSW (XC := xx) (text := "no figures can be added in such a base") (names := ["java/lang/RuntimeException", "java/lang/Exception"]) hx hb hl9 hown (by decide) (by decide) lk8 lk9 (hX.tx 343 "no figures can be added in such a base" (by decide)) (ex_at256 gd256 hX) (by decide +kernel) hX.us hX.ss hS (by rw [hml]; exact hl.1) dX12_sum_21 dX12_sum_24 dX12_sum_25 dX12_sum_28 dX12_sum_31 (fun x9 hx9 => (htab x9 hx9).elim) (Nat.le_of_ble_eq_true rfl) (Nat.le_of_ble_eq_true rfl) (Nat.le_of_ble_eq_true rfl) (Nat.le_of_ble_eq_true rfl) hlocks (fun t h1 h2 h3 => by rw [hxx]; have hh := Option.some.inj h; exact ⟨(gcs), snd_of hh, ⟨exE_2 (fst_of hh).symm, ex_po hP hK h1 h3⟩, ex_F hS h2 h3⟩) hS.2.2 (by decide) (by decide)
