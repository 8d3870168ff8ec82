abbrev i_X4_0 : Int32 × Int32 × (Nat → Int32) × (Nat → Int32) × (Nat → Int32) × (Nat → Int32) := (0, 0, (fun _ => 0), (fun _ => 0), (fun _ => 0), (fun _ => 0))
abbrev wi_X4 (cy : Nat → ClassId) (a : Nat → Nat) : va_W := [(a 0, .inr (2, [.int (i_X4_0.1), .int (i_X4_0.2.1), .ref (a 1), .ref (a 2), .ref (a 3), .ref (a 4)])), (a 1, .inl (cy 1, 10, .inl (i_X4_0.2.2.1))), (a 2, .inl (cy 1, 10, .inl (i_X4_0.2.2.2.1))), (a 3, .inl (cy 1, 10, .inl (i_X4_0.2.2.2.2.1))), (a 4, .inl (cy 1, 50, .inl (i_X4_0.2.2.2.2.2)))]
abbrev rm_X4_init : Room := { frames := 1, cells := 4, slots := 80, locals := 20 }
set_option maxHeartbeats 1000000 in
set_option maxRecDepth 100000 in
theorem c_X4_init (l : Launch) (dC : Nat → ClassId) (dI : Nat → Nat → Nat) (cy : Nat → ClassId) (h0 : Nat) (sz : Nat) : Met l yX4_init wsX4_init rm_X4_init (va_Pc [.ref h0] (prC dC dI cy [(h0, .inr (2, [.int 0, .int 0, .null, .null, .null, .null]))] sz)) (va_Qv (fun u : Nat → Nat => u 0 = h0) (fun u t => poI dC dI cy (va_A [(h0, .inr (2, [.int 0, .int 0, .null, .null, .null, .null]))] sz) (wi_X4 cy u) t) (va_A [(h0, .inr (2, [.int 0, .int 0, .null, .null, .null, .null]))] sz)) 4 80 (va_A [(h0, .inr (2, [.int 0, .int 0, .null, .null, .null, .null]))] sz) := by
  refine Met.ofW (cc := cX4_init) (maxL := 1) (ret := none) (by decide) rfl ?_
  intro p e s m aa below meth c s₁ B hml hv
  obtain ⟨haa, hsz, hP, hK, hD0⟩ := hv
  have hx := B.exec
  have hb := B.bytes
  have hr := B.returns
  have hts := atoms_spec (ws := wsX4_init) B.pre
  have hown : s.vm.findClass RX4 = some m.cls := findClass_of_methodNamed B.named
  have hlocks := B.notSynchronized
  have hin : meth.name = "<init>" := (name_of_methodNamed B.named B.method).1
  subst hsz
  have hD := hD0.self (sz := s.heap.size)
  obtain ⟨qq, hqq⟩ : ∃ qq, qq = (va_Qv (fun u : Nat → Nat => u 0 = h0) (fun u t => poI dC dI cy (va_A [(h0, .inr (2, [.int 0, .int 0, .null, .null, .null, .null]))] s.heap.size) (wi_X4 cy u) t) (va_A [(h0, .inr (2, [.int 0, .int 0, .null, .null, .null, .null]))] s.heap.size)) := ⟨_, rfl⟩
  rw [← hqq]
  generalize hAe : va_A [(h0, .inr (2, [.int 0, .int 0, .null, .null, .null, .null]))] s.heap.size = A at hD hqq ⊢
  have hA : ∀ q : Nat, s.heap.size ≤ q → A q := fun q h => by rw [← hAe]; exact Or.inr h
  have hS : va_S A s.heap s.heap [] := va_S.rf
  have hl := lv_entry ([.ref h0]) (n := 1) (Nat.le_of_ble_eq_true rfl)
  have hE : entryFrame m aa 1 = F0 m 0 ((lg_sl ([.ref h0]) ++ List.replicate (1 - (lg_sl ([.ref h0])).length) Slot.unset).toArray) [] := by rw [haa]; exact lg_entry_eq m _ 1
  refine W.eq hE ?_
  generalize (lg_sl ([.ref h0]) ++ List.replicate (1 - (lg_sl ([.ref h0])).length) Slot.unset).toArray = ls at hl ⊢
  have hl : lv_has ls 1 [(0, .ref h0)] := hl
  change W p l e rm_X4_init s m aa below meth c s.heap [] 0 0 (MQ below qq aa s 4 80 A) (F0 m 0 ls [])
  have lk0 := hts (.methodLink RX4 3 objectInit) (by decide +kernel)
  have lk1 := hts (.instanceMethod objectInit) (by decide +kernel)
  have lk2 := hts (.code objectInit ⟨#[0xb1]⟩ 1 none) (by decide +kernel)
  have lk3 := hts (.arrayClass .int) (by decide +kernel)
  have lk4 := hts (.fieldLink RX4 9 "GoatDoors$Doors" "debtors" "[I") (by decide +kernel)
  have lk5 := hts (.fieldLink RX4 15 "GoatDoors$Doors" "lenders" "[I") (by decide +kernel)
  have lk6 := hts (.fieldLink RX4 18 "GoatDoors$Doors" "lengths" "[I") (by decide +kernel)
  have lk7 := hts (.fieldLink RX4 21 "GoatDoors$Doors" "figures" "[I") (by decide +kernel)
  have in_X4 : ∀ w ∈ wsX40, w ∈ wsX4_init := by decide +kernel
  obtain ⟨H, hH⟩ : ∃ H : Heap, H = s.heap := ⟨_, rfl⟩
  obtain ⟨locs, hlocs⟩ : ∃ locs : List Loc, locs = [] := ⟨_, rfl⟩
  have hS : va_S A s.heap H locs := by rw [hH, hlocs]; exact hS
  rw [← hH] at hP
  suffices hg : W p l e rm_X4_init s m aa below meth c H locs 0 0 (MQ below qq aa s 4 80 A) (F0 m 0 ls []) by subst hH; subst hlocs; exact hg
  refine lv_aload_n hx hb dX4_init_0 rfl (lv_at hl 0 rfl) ?_
  refine W.objInit hx hb hown lk0 lk1 lk2 rfl (by rw [hml]; exact hl.1) rfl dX4_init_1 (Nat.le_of_ble_eq_true rfl) (Nat.le_of_ble_eq_true rfl) ?_
  refine W.eq (g2 := F0 m 4 ls []) rfl ?_
  refine lv_aload_n hx hb dX4_init_4 rfl (lv_at hl 0 rfl) ?_
  refine lv_bipush (v := (10 : Int32)) hx hb dX4_init_5 (by decide) ?_
  refine nw_i hx hb lk3 hK hP hD hS hA 10 (by decide) (by decide) (by decide) (Nat.le_of_ble_eq_true rfl) (Nat.le_of_ble_eq_true rfl) (cells' := 1) (slots' := 10) ⟨rfl, rfl⟩ dX4_init_7 (fun q7 H hP hD hS => ?_)
  have hP : va_P (dC, dI) vwCl [(h0, .inr (2, [.int 0, .int 0, .null, .null, .null, .null])), (q7, .inl (cy 1, 10, .inl (fun _ => 0)))] H := hP
  have hD : va_D A [(h0, .inr (2, [.int 0, .int 0, .null, .null, .null, .null])), (q7, .inl (cy 1, 10, .inl (fun _ => 0)))] := hD
  refine va_putF (D := (dC, dI)) (ci := 2) (v := .ref q7) (ty := .array (.int)) (C := RX4) (T := TX4) (N := 6) hx hb hts in_X4 tyX4 tyX4_ok nmX4 hown hK hP hD hS 0 rfl rfl 2 (by decide) lk4 (fun _ h9 => h9) rfl hin rfl (by decide +kernel) rfl rfl (Nat.le_of_ble_eq_true rfl) dX4_init_9 (fun H locs hP hD hS => ?_)
  have hP : va_P (dC, dI) vwCl [(h0, .inr (2, [.int 0, .int 0, .ref q7, .null, .null, .null])), (q7, .inl (cy 1, 10, .inl (fun _ => 0)))] H := hP
  have hD : va_D A [(h0, .inr (2, [.int 0, .int 0, .ref q7, .null, .null, .null])), (q7, .inl (cy 1, 10, .inl (fun _ => 0)))] := hD
  refine lv_aload_n hx hb dX4_init_12 rfl (lv_at hl 0 rfl) ?_
  refine lv_bipush (v := (10 : Int32)) hx hb dX4_init_13 (by decide) ?_
  refine nw_i hx hb lk3 hK hP hD hS hA 10 (by decide) (by decide) (by decide) (Nat.le_of_ble_eq_true rfl) (Nat.le_of_ble_eq_true rfl) (cells' := 2) (slots' := 20) ⟨rfl, rfl⟩ dX4_init_15 (fun q15 H hP hD hS => ?_)
  have hP : va_P (dC, dI) vwCl [(h0, .inr (2, [.int 0, .int 0, .ref q7, .null, .null, .null])), (q7, .inl (cy 1, 10, .inl (fun _ => 0))), (q15, .inl (cy 1, 10, .inl (fun _ => 0)))] H := hP
  have hD : va_D A [(h0, .inr (2, [.int 0, .int 0, .ref q7, .null, .null, .null])), (q7, .inl (cy 1, 10, .inl (fun _ => 0))), (q15, .inl (cy 1, 10, .inl (fun _ => 0)))] := hD
  refine va_putF (D := (dC, dI)) (ci := 2) (v := .ref q15) (ty := .array (.int)) (C := RX4) (T := TX4) (N := 6) hx hb hts in_X4 tyX4 tyX4_ok nmX4 hown hK hP hD hS 0 rfl rfl 3 (by decide) lk5 (fun _ h9 => h9) rfl hin rfl (by decide +kernel) rfl rfl (Nat.le_of_ble_eq_true rfl) dX4_init_17 (fun H locs hP hD hS => ?_)
  have hP : va_P (dC, dI) vwCl [(h0, .inr (2, [.int 0, .int 0, .ref q7, .ref q15, .null, .null])), (q7, .inl (cy 1, 10, .inl (fun _ => 0))), (q15, .inl (cy 1, 10, .inl (fun _ => 0)))] H := hP
  have hD : va_D A [(h0, .inr (2, [.int 0, .int 0, .ref q7, .ref q15, .null, .null])), (q7, .inl (cy 1, 10, .inl (fun _ => 0))), (q15, .inl (cy 1, 10, .inl (fun _ => 0)))] := hD
  refine lv_aload_n hx hb dX4_init_20 rfl (lv_at hl 0 rfl) ?_
  refine lv_bipush (v := (10 : Int32)) hx hb dX4_init_21 (by decide) ?_
  refine nw_i hx hb lk3 hK hP hD hS hA 10 (by decide) (by decide) (by decide) (Nat.le_of_ble_eq_true rfl) (Nat.le_of_ble_eq_true rfl) (cells' := 3) (slots' := 30) ⟨rfl, rfl⟩ dX4_init_23 (fun q23 H hP hD hS => ?_)
  have hP : va_P (dC, dI) vwCl [(h0, .inr (2, [.int 0, .int 0, .ref q7, .ref q15, .null, .null])), (q7, .inl (cy 1, 10, .inl (fun _ => 0))), (q15, .inl (cy 1, 10, .inl (fun _ => 0))), (q23, .inl (cy 1, 10, .inl (fun _ => 0)))] H := hP
  have hD : va_D A [(h0, .inr (2, [.int 0, .int 0, .ref q7, .ref q15, .null, .null])), (q7, .inl (cy 1, 10, .inl (fun _ => 0))), (q15, .inl (cy 1, 10, .inl (fun _ => 0))), (q23, .inl (cy 1, 10, .inl (fun _ => 0)))] := hD
  refine va_putF (D := (dC, dI)) (ci := 2) (v := .ref q23) (ty := .array (.int)) (C := RX4) (T := TX4) (N := 6) hx hb hts in_X4 tyX4 tyX4_ok nmX4 hown hK hP hD hS 0 rfl rfl 4 (by decide) lk6 (fun _ h9 => h9) rfl hin rfl (by decide +kernel) rfl rfl (Nat.le_of_ble_eq_true rfl) dX4_init_25 (fun H locs hP hD hS => ?_)
  have hP : va_P (dC, dI) vwCl [(h0, .inr (2, [.int 0, .int 0, .ref q7, .ref q15, .ref q23, .null])), (q7, .inl (cy 1, 10, .inl (fun _ => 0))), (q15, .inl (cy 1, 10, .inl (fun _ => 0))), (q23, .inl (cy 1, 10, .inl (fun _ => 0)))] H := hP
  have hD : va_D A [(h0, .inr (2, [.int 0, .int 0, .ref q7, .ref q15, .ref q23, .null])), (q7, .inl (cy 1, 10, .inl (fun _ => 0))), (q15, .inl (cy 1, 10, .inl (fun _ => 0))), (q23, .inl (cy 1, 10, .inl (fun _ => 0)))] := hD
  refine lv_aload_n hx hb dX4_init_28 rfl (lv_at hl 0 rfl) ?_
  refine lv_bipush (v := (50 : Int32)) hx hb dX4_init_29 (by decide) ?_
  refine nw_i hx hb lk3 hK hP hD hS hA 50 (by decide) (by decide) (by decide) (Nat.le_of_ble_eq_true rfl) (Nat.le_of_ble_eq_true rfl) (cells' := 4) (slots' := 80) ⟨rfl, rfl⟩ dX4_init_31 (fun q31 H hP hD hS => ?_)
  have hP : va_P (dC, dI) vwCl [(h0, .inr (2, [.int 0, .int 0, .ref q7, .ref q15, .ref q23, .null])), (q7, .inl (cy 1, 10, .inl (fun _ => 0))), (q15, .inl (cy 1, 10, .inl (fun _ => 0))), (q23, .inl (cy 1, 10, .inl (fun _ => 0))), (q31, .inl (cy 1, 50, .inl (fun _ => 0)))] H := hP
  have hD : va_D A [(h0, .inr (2, [.int 0, .int 0, .ref q7, .ref q15, .ref q23, .null])), (q7, .inl (cy 1, 10, .inl (fun _ => 0))), (q15, .inl (cy 1, 10, .inl (fun _ => 0))), (q23, .inl (cy 1, 10, .inl (fun _ => 0))), (q31, .inl (cy 1, 50, .inl (fun _ => 0)))] := hD
  refine va_putF (D := (dC, dI)) (ci := 2) (v := .ref q31) (ty := .array (.int)) (C := RX4) (T := TX4) (N := 6) hx hb hts in_X4 tyX4 tyX4_ok nmX4 hown hK hP hD hS 0 rfl rfl 5 (by decide) lk7 (fun _ h9 => h9) rfl hin rfl (by decide +kernel) rfl rfl (Nat.le_of_ble_eq_true rfl) dX4_init_33 (fun H locs hP hD hS => ?_)
  have hP : va_P (dC, dI) vwCl [(h0, .inr (2, [.int 0, .int 0, .ref q7, .ref q15, .ref q23, .ref q31])), (q7, .inl (cy 1, 10, .inl (fun _ => 0))), (q15, .inl (cy 1, 10, .inl (fun _ => 0))), (q23, .inl (cy 1, 10, .inl (fun _ => 0))), (q31, .inl (cy 1, 50, .inl (fun _ => 0)))] H := hP
  have hD : va_D A [(h0, .inr (2, [.int 0, .int 0, .ref q7, .ref q15, .ref q23, .ref q31])), (q7, .inl (cy 1, 10, .inl (fun _ => 0))), (q15, .inl (cy 1, 10, .inl (fun _ => 0))), (q23, .inl (cy 1, 10, .inl (fun _ => 0))), (q31, .inl (cy 1, 50, .inl (fun _ => 0)))] := hD
  have hP9 := hP.sub (ws' := wi_X4 cy (fun k => [h0, q7, q15, q23, q31].getD k 0)) [0, 1, 2, 3, 4] rfl
  have hD9 := hD.sub (ws' := wi_X4 cy (fun k => [h0, q7, q15, q23, q31].getD k 0)) [0, 1, 2, 3, 4] (by decide) rfl
  exact W.vret hx hb hr (fun t ht hW => by rw [hqq]; exact ⟨⟨(fun k => [h0, q7, q15, q23, q31].getD k 0), rfl, rfl, by rw [ht]; exact hP9, va_K.moved hW.alike hK, hD9⟩, hS.F ht⟩) hS.2.2 dX4_init_36

abbrev i_X8_0 : Int32 × (Nat → Int32) × (Nat → Int32) × (Nat → Int32) := (0, (fun _ => 0), (fun _ => 0), (fun _ => 0))
abbrev wi_X8 (cy : Nat → ClassId) (a : Nat → Nat) : va_W := [(a 0, .inr (6, [.int (i_X8_0.1), .ref (a 1), .ref (a 2), .ref (a 3)])), (a 1, .inl (cy 1, 12, .inl (i_X8_0.2.1))), (a 2, .inl (cy 1, 12, .inl (i_X8_0.2.2.1))), (a 3, .inl (cy 1, 12, .inl (i_X8_0.2.2.2)))]
abbrev rm_X8_init : Room := { frames := 1, cells := 3, slots := 36, locals := 20 }
set_option maxHeartbeats 1000000 in
set_option maxRecDepth 100000 in
theorem c_X8_init (l : Launch) (dC : Nat → ClassId) (dI : Nat → Nat → Nat) (cy : Nat → ClassId) (h0 : Nat) (sz : Nat) : Met l yX8_init wsX8_init rm_X8_init (va_Pc [.ref h0] (prC dC dI cy [(h0, .inr (6, [.int 0, .null, .null, .null]))] sz)) (va_Qv (fun u : Nat → Nat => u 0 = h0) (fun u t => poI dC dI cy (va_A [(h0, .inr (6, [.int 0, .null, .null, .null]))] sz) (wi_X8 cy u) t) (va_A [(h0, .inr (6, [.int 0, .null, .null, .null]))] sz)) 3 36 (va_A [(h0, .inr (6, [.int 0, .null, .null, .null]))] sz) := by
  refine Met.ofW (cc := cX8_init) (maxL := 1) (ret := none) (by decide) rfl ?_
  intro p e s m aa below meth c s₁ B hml hv
  obtain ⟨haa, hsz, hP, hK, hD0⟩ := hv
  have hx := B.exec
  have hb := B.bytes
  have hr := B.returns
  have hts := atoms_spec (ws := wsX8_init) B.pre
  have hown : s.vm.findClass RX8 = some m.cls := findClass_of_methodNamed B.named
  have hlocks := B.notSynchronized
  have hin : meth.name = "<init>" := (name_of_methodNamed B.named B.method).1
  subst hsz
  have hD := hD0.self (sz := s.heap.size)
  obtain ⟨qq, hqq⟩ : ∃ qq, qq = (va_Qv (fun u : Nat → Nat => u 0 = h0) (fun u t => poI dC dI cy (va_A [(h0, .inr (6, [.int 0, .null, .null, .null]))] s.heap.size) (wi_X8 cy u) t) (va_A [(h0, .inr (6, [.int 0, .null, .null, .null]))] s.heap.size)) := ⟨_, rfl⟩
  rw [← hqq]
  generalize hAe : va_A [(h0, .inr (6, [.int 0, .null, .null, .null]))] s.heap.size = A at hD hqq ⊢
  have hA : ∀ q : Nat, s.heap.size ≤ q → A q := fun q h => by rw [← hAe]; exact Or.inr h
  have hS : va_S A s.heap s.heap [] := va_S.rf
  have hl := lv_entry ([.ref h0]) (n := 1) (Nat.le_of_ble_eq_true rfl)
  have hE : entryFrame m aa 1 = F0 m 0 ((lg_sl ([.ref h0]) ++ List.replicate (1 - (lg_sl ([.ref h0])).length) Slot.unset).toArray) [] := by rw [haa]; exact lg_entry_eq m _ 1
  refine W.eq hE ?_
  generalize (lg_sl ([.ref h0]) ++ List.replicate (1 - (lg_sl ([.ref h0])).length) Slot.unset).toArray = ls at hl ⊢
  have hl : lv_has ls 1 [(0, .ref h0)] := hl
  change W p l e rm_X8_init s m aa below meth c s.heap [] 0 0 (MQ below qq aa s 3 36 A) (F0 m 0 ls [])
  have lk0 := hts (.methodLink RX8 3 objectInit) (by decide +kernel)
  have lk1 := hts (.instanceMethod objectInit) (by decide +kernel)
  have lk2 := hts (.code objectInit ⟨#[0xb1]⟩ 1 none) (by decide +kernel)
  have lk3 := hts (.arrayClass .int) (by decide +kernel)
  have lk4 := hts (.fieldLink RX8 9 "GoatDoors$Receipts" "doorBits" "[I") (by decide +kernel)
  have lk5 := hts (.fieldLink RX8 15 "GoatDoors$Receipts" "sums" "[I") (by decide +kernel)
  have lk6 := hts (.fieldLink RX8 18 "GoatDoors$Receipts" "shifts" "[I") (by decide +kernel)
  have in_X8 : ∀ w ∈ wsX80, w ∈ wsX8_init := by decide +kernel
  obtain ⟨H, hH⟩ : ∃ H : Heap, H = s.heap := ⟨_, rfl⟩
  obtain ⟨locs, hlocs⟩ : ∃ locs : List Loc, locs = [] := ⟨_, rfl⟩
  have hS : va_S A s.heap H locs := by rw [hH, hlocs]; exact hS
  rw [← hH] at hP
  suffices hg : W p l e rm_X8_init s m aa below meth c H locs 0 0 (MQ below qq aa s 3 36 A) (F0 m 0 ls []) by subst hH; subst hlocs; exact hg
  refine lv_aload_n hx hb dX8_init_0 rfl (lv_at hl 0 rfl) ?_
  refine W.objInit hx hb hown lk0 lk1 lk2 rfl (by rw [hml]; exact hl.1) rfl dX8_init_1 (Nat.le_of_ble_eq_true rfl) (Nat.le_of_ble_eq_true rfl) ?_
  refine W.eq (g2 := F0 m 4 ls []) rfl ?_
  refine lv_aload_n hx hb dX8_init_4 rfl (lv_at hl 0 rfl) ?_
  refine lv_bipush (v := (12 : Int32)) hx hb dX8_init_5 (by decide) ?_
  refine nw_i hx hb lk3 hK hP hD hS hA 12 (by decide) (by decide) (by decide) (Nat.le_of_ble_eq_true rfl) (Nat.le_of_ble_eq_true rfl) (cells' := 1) (slots' := 12) ⟨rfl, rfl⟩ dX8_init_7 (fun q7 H hP hD hS => ?_)
  have hP : va_P (dC, dI) vwCl [(h0, .inr (6, [.int 0, .null, .null, .null])), (q7, .inl (cy 1, 12, .inl (fun _ => 0)))] H := hP
  have hD : va_D A [(h0, .inr (6, [.int 0, .null, .null, .null])), (q7, .inl (cy 1, 12, .inl (fun _ => 0)))] := hD
  refine va_putF (D := (dC, dI)) (ci := 6) (v := .ref q7) (ty := .array (.int)) (C := RX8) (T := TX8) (N := 4) hx hb hts in_X8 tyX8 tyX8_ok nmX8 hown hK hP hD hS 0 rfl rfl 1 (by decide) lk4 (fun _ h9 => h9) rfl hin rfl (by decide +kernel) rfl rfl (Nat.le_of_ble_eq_true rfl) dX8_init_9 (fun H locs hP hD hS => ?_)
  have hP : va_P (dC, dI) vwCl [(h0, .inr (6, [.int 0, .ref q7, .null, .null])), (q7, .inl (cy 1, 12, .inl (fun _ => 0)))] H := hP
  have hD : va_D A [(h0, .inr (6, [.int 0, .ref q7, .null, .null])), (q7, .inl (cy 1, 12, .inl (fun _ => 0)))] := hD
  refine lv_aload_n hx hb dX8_init_12 rfl (lv_at hl 0 rfl) ?_
  refine lv_bipush (v := (12 : Int32)) hx hb dX8_init_13 (by decide) ?_
  refine nw_i hx hb lk3 hK hP hD hS hA 12 (by decide) (by decide) (by decide) (Nat.le_of_ble_eq_true rfl) (Nat.le_of_ble_eq_true rfl) (cells' := 2) (slots' := 24) ⟨rfl, rfl⟩ dX8_init_15 (fun q15 H hP hD hS => ?_)
  have hP : va_P (dC, dI) vwCl [(h0, .inr (6, [.int 0, .ref q7, .null, .null])), (q7, .inl (cy 1, 12, .inl (fun _ => 0))), (q15, .inl (cy 1, 12, .inl (fun _ => 0)))] H := hP
  have hD : va_D A [(h0, .inr (6, [.int 0, .ref q7, .null, .null])), (q7, .inl (cy 1, 12, .inl (fun _ => 0))), (q15, .inl (cy 1, 12, .inl (fun _ => 0)))] := hD
  refine va_putF (D := (dC, dI)) (ci := 6) (v := .ref q15) (ty := .array (.int)) (C := RX8) (T := TX8) (N := 4) hx hb hts in_X8 tyX8 tyX8_ok nmX8 hown hK hP hD hS 0 rfl rfl 2 (by decide) lk5 (fun _ h9 => h9) rfl hin rfl (by decide +kernel) rfl rfl (Nat.le_of_ble_eq_true rfl) dX8_init_17 (fun H locs hP hD hS => ?_)
  have hP : va_P (dC, dI) vwCl [(h0, .inr (6, [.int 0, .ref q7, .ref q15, .null])), (q7, .inl (cy 1, 12, .inl (fun _ => 0))), (q15, .inl (cy 1, 12, .inl (fun _ => 0)))] H := hP
  have hD : va_D A [(h0, .inr (6, [.int 0, .ref q7, .ref q15, .null])), (q7, .inl (cy 1, 12, .inl (fun _ => 0))), (q15, .inl (cy 1, 12, .inl (fun _ => 0)))] := hD
  refine lv_aload_n hx hb dX8_init_20 rfl (lv_at hl 0 rfl) ?_
  refine lv_bipush (v := (12 : Int32)) hx hb dX8_init_21 (by decide) ?_
  refine nw_i hx hb lk3 hK hP hD hS hA 12 (by decide) (by decide) (by decide) (Nat.le_of_ble_eq_true rfl) (Nat.le_of_ble_eq_true rfl) (cells' := 3) (slots' := 36) ⟨rfl, rfl⟩ dX8_init_23 (fun q23 H hP hD hS => ?_)
  have hP : va_P (dC, dI) vwCl [(h0, .inr (6, [.int 0, .ref q7, .ref q15, .null])), (q7, .inl (cy 1, 12, .inl (fun _ => 0))), (q15, .inl (cy 1, 12, .inl (fun _ => 0))), (q23, .inl (cy 1, 12, .inl (fun _ => 0)))] H := hP
  have hD : va_D A [(h0, .inr (6, [.int 0, .ref q7, .ref q15, .null])), (q7, .inl (cy 1, 12, .inl (fun _ => 0))), (q15, .inl (cy 1, 12, .inl (fun _ => 0))), (q23, .inl (cy 1, 12, .inl (fun _ => 0)))] := hD
  refine va_putF (D := (dC, dI)) (ci := 6) (v := .ref q23) (ty := .array (.int)) (C := RX8) (T := TX8) (N := 4) hx hb hts in_X8 tyX8 tyX8_ok nmX8 hown hK hP hD hS 0 rfl rfl 3 (by decide) lk6 (fun _ h9 => h9) rfl hin rfl (by decide +kernel) rfl rfl (Nat.le_of_ble_eq_true rfl) dX8_init_25 (fun H locs hP hD hS => ?_)
  have hP : va_P (dC, dI) vwCl [(h0, .inr (6, [.int 0, .ref q7, .ref q15, .ref q23])), (q7, .inl (cy 1, 12, .inl (fun _ => 0))), (q15, .inl (cy 1, 12, .inl (fun _ => 0))), (q23, .inl (cy 1, 12, .inl (fun _ => 0)))] H := hP
  have hD : va_D A [(h0, .inr (6, [.int 0, .ref q7, .ref q15, .ref q23])), (q7, .inl (cy 1, 12, .inl (fun _ => 0))), (q15, .inl (cy 1, 12, .inl (fun _ => 0))), (q23, .inl (cy 1, 12, .inl (fun _ => 0)))] := hD
  have hP9 := hP.sub (ws' := wi_X8 cy (fun k => [h0, q7, q15, q23].getD k 0)) [0, 1, 2, 3] rfl
  have hD9 := hD.sub (ws' := wi_X8 cy (fun k => [h0, q7, q15, q23].getD k 0)) [0, 1, 2, 3] (by decide) rfl
  exact W.vret hx hb hr (fun t ht hW => by rw [hqq]; exact ⟨⟨(fun k => [h0, q7, q15, q23].getD k 0), rfl, rfl, by rw [ht]; exact hP9, va_K.moved hW.alike hK, hD9⟩, hS.F ht⟩) hS.2.2 dX8_init_28

abbrev i_X1_0 : Int32 × Int32 × (Nat → Int32) := (0, 0, (fun _ => 0))
abbrev wi_X1 (cy : Nat → ClassId) (a : Nat → Nat) : va_W := [(a 0, .inr (0, [.int (i_X1_0.1), .int (i_X1_0.2.1), .ref (a 1)])), (a 1, .inl (cy 1, 6, .inl (i_X1_0.2.2)))]
abbrev rm_X1_init : Room := { frames := 1, cells := 1, slots := 6, locals := 20 }
set_option maxHeartbeats 1000000 in
set_option maxRecDepth 100000 in
theorem c_X1_init (l : Launch) (dC : Nat → ClassId) (dI : Nat → Nat → Nat) (cy : Nat → ClassId) (h0 : Nat) (sz : Nat) : Met l yX1_init wsX1_init rm_X1_init (va_Pc [.ref h0] (prC dC dI cy [(h0, .inr (0, [.int 0, .int 0, .null]))] sz)) (va_Qv (fun u : Nat → Nat => u 0 = h0) (fun u t => poI dC dI cy (va_A [(h0, .inr (0, [.int 0, .int 0, .null]))] sz) (wi_X1 cy u) t) (va_A [(h0, .inr (0, [.int 0, .int 0, .null]))] sz)) 1 6 (va_A [(h0, .inr (0, [.int 0, .int 0, .null]))] sz) := by
  refine Met.ofW (cc := cX1_init) (maxL := 1) (ret := none) (by decide) rfl ?_
  intro p e s m aa below meth c s₁ B hml hv
  obtain ⟨haa, hsz, hP, hK, hD0⟩ := hv
  have hx := B.exec
  have hb := B.bytes
  have hr := B.returns
  have hts := atoms_spec (ws := wsX1_init) B.pre
  have hown : s.vm.findClass RX1 = some m.cls := findClass_of_methodNamed B.named
  have hlocks := B.notSynchronized
  have hin : meth.name = "<init>" := (name_of_methodNamed B.named B.method).1
  subst hsz
  have hD := hD0.self (sz := s.heap.size)
  obtain ⟨qq, hqq⟩ : ∃ qq, qq = (va_Qv (fun u : Nat → Nat => u 0 = h0) (fun u t => poI dC dI cy (va_A [(h0, .inr (0, [.int 0, .int 0, .null]))] s.heap.size) (wi_X1 cy u) t) (va_A [(h0, .inr (0, [.int 0, .int 0, .null]))] s.heap.size)) := ⟨_, rfl⟩
  rw [← hqq]
  generalize hAe : va_A [(h0, .inr (0, [.int 0, .int 0, .null]))] s.heap.size = A at hD hqq ⊢
  have hA : ∀ q : Nat, s.heap.size ≤ q → A q := fun q h => by rw [← hAe]; exact Or.inr h
  have hS : va_S A s.heap s.heap [] := va_S.rf
  have hl := lv_entry ([.ref h0]) (n := 1) (Nat.le_of_ble_eq_true rfl)
  have hE : entryFrame m aa 1 = F0 m 0 ((lg_sl ([.ref h0]) ++ List.replicate (1 - (lg_sl ([.ref h0])).length) Slot.unset).toArray) [] := by rw [haa]; exact lg_entry_eq m _ 1
  refine W.eq hE ?_
  generalize (lg_sl ([.ref h0]) ++ List.replicate (1 - (lg_sl ([.ref h0])).length) Slot.unset).toArray = ls at hl ⊢
  have hl : lv_has ls 1 [(0, .ref h0)] := hl
  change W p l e rm_X1_init s m aa below meth c s.heap [] 0 0 (MQ below qq aa s 1 6 A) (F0 m 0 ls [])
  have lk0 := hts (.methodLink RX1 3 objectInit) (by decide +kernel)
  have lk1 := hts (.instanceMethod objectInit) (by decide +kernel)
  have lk2 := hts (.code objectInit ⟨#[0xb1]⟩ 1 none) (by decide +kernel)
  have lk3 := hts (.arrayClass .int) (by decide +kernel)
  have lk4 := hts (.fieldLink RX1 11 "GoatDoors$ChildSum" "figures" "[I") (by decide +kernel)
  have in_X1 : ∀ w ∈ wsX10, w ∈ wsX1_init := by decide +kernel
  obtain ⟨H, hH⟩ : ∃ H : Heap, H = s.heap := ⟨_, rfl⟩
  obtain ⟨locs, hlocs⟩ : ∃ locs : List Loc, locs = [] := ⟨_, rfl⟩
  have hS : va_S A s.heap H locs := by rw [hH, hlocs]; exact hS
  rw [← hH] at hP
  suffices hg : W p l e rm_X1_init s m aa below meth c H locs 0 0 (MQ below qq aa s 1 6 A) (F0 m 0 ls []) by subst hH; subst hlocs; exact hg
  refine lv_aload_n hx hb dX1_init_0 rfl (lv_at hl 0 rfl) ?_
  refine W.objInit hx hb hown lk0 lk1 lk2 rfl (by rw [hml]; exact hl.1) rfl dX1_init_1 (Nat.le_of_ble_eq_true rfl) (Nat.le_of_ble_eq_true rfl) ?_
  refine W.eq (g2 := F0 m 4 ls []) rfl ?_
  refine lv_aload_n hx hb dX1_init_4 rfl (lv_at hl 0 rfl) ?_
  refine lv_bipush (v := (6 : Int32)) hx hb dX1_init_5 (by decide) ?_
  refine nw_i hx hb lk3 hK hP hD hS hA 6 (by decide) (by decide) (by decide) (Nat.le_of_ble_eq_true rfl) (Nat.le_of_ble_eq_true rfl) (cells' := 1) (slots' := 6) ⟨rfl, rfl⟩ dX1_init_7 (fun q7 H hP hD hS => ?_)
  have hP : va_P (dC, dI) vwCl [(h0, .inr (0, [.int 0, .int 0, .null])), (q7, .inl (cy 1, 6, .inl (fun _ => 0)))] H := hP
  have hD : va_D A [(h0, .inr (0, [.int 0, .int 0, .null])), (q7, .inl (cy 1, 6, .inl (fun _ => 0)))] := hD
  refine va_putF (D := (dC, dI)) (ci := 0) (v := .ref q7) (ty := .array (.int)) (C := RX1) (T := TX1) (N := 3) hx hb hts in_X1 tyX1 tyX1_ok nmX1 hown hK hP hD hS 0 rfl rfl 2 (by decide) lk4 (fun _ h9 => h9) rfl hin rfl (by decide +kernel) rfl rfl (Nat.le_of_ble_eq_true rfl) dX1_init_9 (fun H locs hP hD hS => ?_)
  have hP : va_P (dC, dI) vwCl [(h0, .inr (0, [.int 0, .int 0, .ref q7])), (q7, .inl (cy 1, 6, .inl (fun _ => 0)))] H := hP
  have hD : va_D A [(h0, .inr (0, [.int 0, .int 0, .ref q7])), (q7, .inl (cy 1, 6, .inl (fun _ => 0)))] := hD
  have hP9 := hP.sub (ws' := wi_X1 cy (fun k => [h0, q7].getD k 0)) [0, 1] rfl
  have hD9 := hD.sub (ws' := wi_X1 cy (fun k => [h0, q7].getD k 0)) [0, 1] (by decide) rfl
  exact W.vret hx hb hr (fun t ht hW => by rw [hqq]; exact ⟨⟨(fun k => [h0, q7].getD k 0), rfl, rfl, by rw [ht]; exact hP9, va_K.moved hW.alike hK, hD9⟩, hS.F ht⟩) hS.2.2 dX1_init_12

abbrev i_X11_0 : (Nat → Int64) × Int64 := ((fun _ => 0), 1)
abbrev wi_X11 (cy : Nat → ClassId) (a : Nat → Nat) : va_W := [(a 0, .inr (9, [.ref (a 1), .long (i_X11_0.2)])), (a 1, .inl (cy 2, 49, .inr (.inl (i_X11_0.1))))]
abbrev rm_X11_init : Room := { frames := 1, cells := 1, slots := 49, locals := 20 }
set_option maxHeartbeats 1000000 in
set_option maxRecDepth 100000 in
theorem c_X11_init (l : Launch) (dC : Nat → ClassId) (dI : Nat → Nat → Nat) (cy : Nat → ClassId) (h0 : Nat) (sz : Nat) : Met l yX11_init wsX11_init rm_X11_init (va_Pc [.ref h0] (prC dC dI cy [(h0, .inr (9, [.null, .long 0]))] sz)) (va_Qv (fun u : Nat → Nat => u 0 = h0) (fun u t => poI dC dI cy (va_A [(h0, .inr (9, [.null, .long 0]))] sz) (wi_X11 cy u) t) (va_A [(h0, .inr (9, [.null, .long 0]))] sz)) 1 49 (va_A [(h0, .inr (9, [.null, .long 0]))] sz) := by
  refine Met.ofW (cc := cX11_init) (maxL := 1) (ret := none) (by decide) rfl ?_
  intro p e s m aa below meth c s₁ B hml hv
  obtain ⟨haa, hsz, hP, hK, hD0⟩ := hv
  have hx := B.exec
  have hb := B.bytes
  have hr := B.returns
  have hts := atoms_spec (ws := wsX11_init) B.pre
  have hown : s.vm.findClass RX11 = some m.cls := findClass_of_methodNamed B.named
  have hlocks := B.notSynchronized
  have hin : meth.name = "<init>" := (name_of_methodNamed B.named B.method).1
  subst hsz
  have hD := hD0.self (sz := s.heap.size)
  obtain ⟨qq, hqq⟩ : ∃ qq, qq = (va_Qv (fun u : Nat → Nat => u 0 = h0) (fun u t => poI dC dI cy (va_A [(h0, .inr (9, [.null, .long 0]))] s.heap.size) (wi_X11 cy u) t) (va_A [(h0, .inr (9, [.null, .long 0]))] s.heap.size)) := ⟨_, rfl⟩
  rw [← hqq]
  generalize hAe : va_A [(h0, .inr (9, [.null, .long 0]))] s.heap.size = A at hD hqq ⊢
  have hA : ∀ q : Nat, s.heap.size ≤ q → A q := fun q h => by rw [← hAe]; exact Or.inr h
  have hS : va_S A s.heap s.heap [] := va_S.rf
  have hl := lv_entry ([.ref h0]) (n := 1) (Nat.le_of_ble_eq_true rfl)
  have hE : entryFrame m aa 1 = F0 m 0 ((lg_sl ([.ref h0]) ++ List.replicate (1 - (lg_sl ([.ref h0])).length) Slot.unset).toArray) [] := by rw [haa]; exact lg_entry_eq m _ 1
  refine W.eq hE ?_
  generalize (lg_sl ([.ref h0]) ++ List.replicate (1 - (lg_sl ([.ref h0])).length) Slot.unset).toArray = ls at hl ⊢
  have hl : lv_has ls 1 [(0, .ref h0)] := hl
  change W p l e rm_X11_init s m aa below meth c s.heap [] 0 0 (MQ below qq aa s 1 49 A) (F0 m 0 ls [])
  have lk0 := hts (.methodLink RX11 3 objectInit) (by decide +kernel)
  have lk1 := hts (.instanceMethod objectInit) (by decide +kernel)
  have lk2 := hts (.code objectInit ⟨#[0xb1]⟩ 1 none) (by decide +kernel)
  have lk3 := hts (.arrayClass .long) (by decide +kernel)
  have lk4 := hts (.fieldLink RX11 11 "GoatDoors$Walk" "parts" "[J") (by decide +kernel)
  have lk5 := hts (.fieldLink RX11 15 "GoatDoors$Walk" "whole" "J") (by decide +kernel)
  have in_X11 : ∀ w ∈ wsX110, w ∈ wsX11_init := by decide +kernel
  obtain ⟨H, hH⟩ : ∃ H : Heap, H = s.heap := ⟨_, rfl⟩
  obtain ⟨locs, hlocs⟩ : ∃ locs : List Loc, locs = [] := ⟨_, rfl⟩
  have hS : va_S A s.heap H locs := by rw [hH, hlocs]; exact hS
  rw [← hH] at hP
  suffices hg : W p l e rm_X11_init s m aa below meth c H locs 0 0 (MQ below qq aa s 1 49 A) (F0 m 0 ls []) by subst hH; subst hlocs; exact hg
  refine lv_aload_n hx hb dX11_init_0 rfl (lv_at hl 0 rfl) ?_
  refine W.objInit hx hb hown lk0 lk1 lk2 rfl (by rw [hml]; exact hl.1) rfl dX11_init_1 (Nat.le_of_ble_eq_true rfl) (Nat.le_of_ble_eq_true rfl) ?_
  refine W.eq (g2 := F0 m 4 ls []) rfl ?_
  refine lv_aload_n hx hb dX11_init_4 rfl (lv_at hl 0 rfl) ?_
  refine lv_bipush (v := (49 : Int32)) hx hb dX11_init_5 (by decide) ?_
  refine nw_j hx hb lk3 hK hP hD hS hA 49 (by decide) (by decide) (by decide) (Nat.le_of_ble_eq_true rfl) (Nat.le_of_ble_eq_true rfl) (cells' := 1) (slots' := 49) ⟨rfl, rfl⟩ dX11_init_7 (fun q7 H hP hD hS => ?_)
  have hP : va_P (dC, dI) vwCl [(h0, .inr (9, [.null, .long 0])), (q7, .inl (cy 2, 49, .inr (.inl (fun _ => 0))))] H := hP
  have hD : va_D A [(h0, .inr (9, [.null, .long 0])), (q7, .inl (cy 2, 49, .inr (.inl (fun _ => 0))))] := hD
  refine va_putF (D := (dC, dI)) (ci := 9) (v := .ref q7) (ty := .array (.long)) (C := RX11) (T := TX11) (N := 2) hx hb hts in_X11 tyX11 tyX11_ok nmX11 hown hK hP hD hS 0 rfl rfl 0 (by decide) lk4 (fun _ h9 => h9) rfl hin rfl (by decide +kernel) rfl rfl (Nat.le_of_ble_eq_true rfl) dX11_init_9 (fun H locs hP hD hS => ?_)
  have hP : va_P (dC, dI) vwCl [(h0, .inr (9, [.ref q7, .long 0])), (q7, .inl (cy 2, 49, .inr (.inl (fun _ => 0))))] H := hP
  have hD : va_D A [(h0, .inr (9, [.ref q7, .long 0])), (q7, .inl (cy 2, 49, .inr (.inl (fun _ => 0))))] := hD
  refine lv_aload_n hx hb dX11_init_12 rfl (lv_at hl 0 rfl) ?_
  refine lv_lconst (v := (1 : Int64)) hx hb dX11_init_13 (by decide) ?_
  refine va_put (D := (dC, dI)) (ci := 9) (v := .long (1 : Int64)) (ty := .long) (C := RX11) (T := TX11) (N := 2) hx hb hts in_X11 tyX11 tyX11_ok nmX11 hown hK hP hD hS 0 rfl rfl 1 (by decide) lk5 (fun _ h9 => h9) rfl (by decide +kernel) rfl rfl (Nat.le_of_ble_eq_true rfl) dX11_init_14 (fun H locs hP hD hS => ?_)
  have hP : va_P (dC, dI) vwCl [(h0, .inr (9, [.ref q7, .long (1 : Int64)])), (q7, .inl (cy 2, 49, .inr (.inl (fun _ => 0))))] H := hP
  have hD : va_D A [(h0, .inr (9, [.ref q7, .long (1 : Int64)])), (q7, .inl (cy 2, 49, .inr (.inl (fun _ => 0))))] := hD
  have hP9 := hP.sub (ws' := wi_X11 cy (fun k => [h0, q7].getD k 0)) [0, 1] rfl
  have hD9 := hD.sub (ws' := wi_X11 cy (fun k => [h0, q7].getD k 0)) [0, 1] (by decide) rfl
  exact W.vret hx hb hr (fun t ht hW => by rw [hqq]; exact ⟨⟨(fun k => [h0, q7].getD k 0), rfl, rfl, by rw [ht]; exact hP9, va_K.moved hW.alike hK, hD9⟩, hS.F ht⟩) hS.2.2 dX11_init_17

abbrev i_X7_0 : Int32 × Int32 × Int32 × Int32 × Int32 × Int32 × Int32 × Int32 × Int32 := (0, 0, 0, 0, 0, 0, 0, 0, 0)
abbrev i_X7_1 : (Nat → Int32) := (fun _ => 0)
abbrev wi_X7 (cy : Nat → ClassId) (e1 : Nat) (a : Nat → Nat) : va_W := [(a 0, .inr (5, [.ref (e1), .int (i_X7_0.1), .int (i_X7_0.2.1), .int (i_X7_0.2.2.1), .int (i_X7_0.2.2.2.1), .int (i_X7_0.2.2.2.2.1), .int (i_X7_0.2.2.2.2.2.1), .int (i_X7_0.2.2.2.2.2.2.1), .int (i_X7_0.2.2.2.2.2.2.2.1), .int (i_X7_0.2.2.2.2.2.2.2.2)]))]
abbrev rm_X7_init : Room := { frames := 1, cells := 0, slots := 0, locals := 20 }
set_option maxHeartbeats 1000000 in
set_option maxRecDepth 100000 in
theorem c_X7_init (l : Launch) (dC : Nat → ClassId) (dI : Nat → Nat → Nat) (cy : Nat → ClassId) (h0 : Nat) (e1 : Nat) (sz : Nat) : Met l yX7_init wsX7_init rm_X7_init (va_Pc [.ref h0, .ref e1] (prC dC dI cy [(h0, .inr (5, [.null, .int 0, .int 0, .int 0, .int 0, .int 0, .int 0, .int 0, .int 0, .int 0]))] sz)) (va_Qv (fun u : Nat → Nat => u 0 = h0) (fun u t => poI dC dI cy (va_A [(h0, .inr (5, [.null, .int 0, .int 0, .int 0, .int 0, .int 0, .int 0, .int 0, .int 0, .int 0]))] sz) (wi_X7 cy e1 u) t) (va_A [(h0, .inr (5, [.null, .int 0, .int 0, .int 0, .int 0, .int 0, .int 0, .int 0, .int 0, .int 0]))] sz)) 0 0 (va_A [(h0, .inr (5, [.null, .int 0, .int 0, .int 0, .int 0, .int 0, .int 0, .int 0, .int 0, .int 0]))] sz) := by
  refine Met.ofW (cc := cX7_init) (maxL := 2) (ret := none) (by decide) rfl ?_
  intro p e s m aa below meth c s₁ B hml hv
  obtain ⟨haa, hsz, hP, hK, hD0⟩ := hv
  have hx := B.exec
  have hb := B.bytes
  have hr := B.returns
  have hts := atoms_spec (ws := wsX7_init) B.pre
  have hown : s.vm.findClass RX7 = some m.cls := findClass_of_methodNamed B.named
  have hlocks := B.notSynchronized
  have hin : meth.name = "<init>" := (name_of_methodNamed B.named B.method).1
  subst hsz
  have hD := hD0.self (sz := s.heap.size)
  obtain ⟨qq, hqq⟩ : ∃ qq, qq = (va_Qv (fun u : Nat → Nat => u 0 = h0) (fun u t => poI dC dI cy (va_A [(h0, .inr (5, [.null, .int 0, .int 0, .int 0, .int 0, .int 0, .int 0, .int 0, .int 0, .int 0]))] s.heap.size) (wi_X7 cy e1 u) t) (va_A [(h0, .inr (5, [.null, .int 0, .int 0, .int 0, .int 0, .int 0, .int 0, .int 0, .int 0, .int 0]))] s.heap.size)) := ⟨_, rfl⟩
  rw [← hqq]
  generalize hAe : va_A [(h0, .inr (5, [.null, .int 0, .int 0, .int 0, .int 0, .int 0, .int 0, .int 0, .int 0, .int 0]))] s.heap.size = A at hD hqq ⊢
  have hA : ∀ q : Nat, s.heap.size ≤ q → A q := fun q h => by rw [← hAe]; exact Or.inr h
  have hS : va_S A s.heap s.heap [] := va_S.rf
  have hl := lv_entry ([.ref h0, .ref e1]) (n := 2) (Nat.le_of_ble_eq_true rfl)
  have hE : entryFrame m aa 2 = F0 m 0 ((lg_sl ([.ref h0, .ref e1]) ++ List.replicate (2 - (lg_sl ([.ref h0, .ref e1])).length) Slot.unset).toArray) [] := by rw [haa]; exact lg_entry_eq m _ 2
  refine W.eq hE ?_
  generalize (lg_sl ([.ref h0, .ref e1]) ++ List.replicate (2 - (lg_sl ([.ref h0, .ref e1])).length) Slot.unset).toArray = ls at hl ⊢
  have hl : lv_has ls 2 [(0, .ref h0), (1, .ref e1)] := hl
  change W p l e rm_X7_init s m aa below meth c s.heap [] 0 0 (MQ below qq aa s 0 0 A) (F0 m 0 ls [])
  have lk0 := hts (.methodLink RX7 3 objectInit) (by decide +kernel)
  have lk1 := hts (.instanceMethod objectInit) (by decide +kernel)
  have lk2 := hts (.code objectInit ⟨#[0xb1]⟩ 1 none) (by decide +kernel)
  have lk3 := hts (.fieldLink RX7 9 "GoatDoors$Reader" "text" "[B") (by decide +kernel)
  have in_X7 : ∀ w ∈ wsX70, w ∈ wsX7_init := by decide +kernel
  obtain ⟨H, hH⟩ : ∃ H : Heap, H = s.heap := ⟨_, rfl⟩
  obtain ⟨locs, hlocs⟩ : ∃ locs : List Loc, locs = [] := ⟨_, rfl⟩
  have hS : va_S A s.heap H locs := by rw [hH, hlocs]; exact hS
  rw [← hH] at hP
  suffices hg : W p l e rm_X7_init s m aa below meth c H locs 0 0 (MQ below qq aa s 0 0 A) (F0 m 0 ls []) by subst hH; subst hlocs; exact hg
  refine lv_aload_n hx hb dX7_init_0 rfl (lv_at hl 0 rfl) ?_
  refine W.objInit hx hb hown lk0 lk1 lk2 rfl (by rw [hml]; exact hl.1) rfl dX7_init_1 (Nat.le_of_ble_eq_true rfl) (Nat.le_of_ble_eq_true rfl) ?_
  refine W.eq (g2 := F0 m 4 ls []) rfl ?_
  refine lv_aload_n hx hb dX7_init_4 rfl (lv_at hl 0 rfl) ?_
  refine lv_aload_n hx hb dX7_init_5 rfl (lv_at hl 1 rfl) ?_
  refine va_putF (D := (dC, dI)) (ci := 5) (v := .ref e1) (ty := .array (.byte)) (C := RX7) (T := TX7) (N := 10) hx hb hts in_X7 tyX7 tyX7_ok nmX7 hown hK hP hD hS 0 rfl rfl 0 (by decide) lk3 (fun _ h9 => h9) rfl hin rfl (by decide +kernel) rfl rfl (Nat.le_of_ble_eq_true rfl) dX7_init_6 (fun H locs hP hD hS => ?_)
  have hP : va_P (dC, dI) vwCl [(h0, .inr (5, [.ref e1, .int 0, .int 0, .int 0, .int 0, .int 0, .int 0, .int 0, .int 0, .int 0]))] H := hP
  have hD : va_D A [(h0, .inr (5, [.ref e1, .int 0, .int 0, .int 0, .int 0, .int 0, .int 0, .int 0, .int 0, .int 0]))] := hD
  have hP9 := hP.sub (ws' := wi_X7 cy e1 (fun k => [h0, 0].getD k 0)) [0] rfl
  have hD9 := hD.sub (ws' := wi_X7 cy e1 (fun k => [h0, 0].getD k 0)) [0] (by decide) rfl
  exact W.vret hx hb hr (fun t ht hW => by rw [hqq]; exact ⟨⟨(fun k => [h0, 0].getD k 0), rfl, rfl, by rw [ht]; exact hP9, va_K.moved hW.alike hK, hD9⟩, hS.F ht⟩) hS.2.2 dX7_init_9

abbrev i_X10_0 : Int32 × Int32 := (0, 0)
abbrev i_X10_1 : Int32 × Int32 × Int32 × Int32 × Int32 × Int32 × Int32 × Int32 × Int32 := (0, 0, 0, 0, 0, 0, 0, 0, 0)
abbrev i_X10_2 : (Nat → Int32) := (fun _ => 0)
abbrev wi_X10 (cy : Nat → ClassId) (e1 : Nat) (a : Nat → Nat) : va_W := [(a 0, .inr (8, [.ref (e1), .int (i_X10_0.1), .int (i_X10_0.2)]))]
abbrev rm_X10_init : Room := { frames := 1, cells := 0, slots := 0, locals := 20 }
set_option maxHeartbeats 1000000 in
set_option maxRecDepth 100000 in
theorem c_X10_init (l : Launch) (dC : Nat → ClassId) (dI : Nat → Nat → Nat) (cy : Nat → ClassId) (h0 : Nat) (e1 : Nat) (sz : Nat) : Met l yX10_init wsX10_init rm_X10_init (va_Pc [.ref h0, .ref e1] (prC dC dI cy [(h0, .inr (8, [.null, .int 0, .int 0]))] sz)) (va_Qv (fun u : Nat → Nat => u 0 = h0) (fun u t => poI dC dI cy (va_A [(h0, .inr (8, [.null, .int 0, .int 0]))] sz) (wi_X10 cy e1 u) t) (va_A [(h0, .inr (8, [.null, .int 0, .int 0]))] sz)) 0 0 (va_A [(h0, .inr (8, [.null, .int 0, .int 0]))] sz) := by
  refine Met.ofW (cc := cX10_init) (maxL := 2) (ret := none) (by decide) rfl ?_
  intro p e s m aa below meth c s₁ B hml hv
  obtain ⟨haa, hsz, hP, hK, hD0⟩ := hv
  have hx := B.exec
  have hb := B.bytes
  have hr := B.returns
  have hts := atoms_spec (ws := wsX10_init) B.pre
  have hown : s.vm.findClass RX10 = some m.cls := findClass_of_methodNamed B.named
  have hlocks := B.notSynchronized
  have hin : meth.name = "<init>" := (name_of_methodNamed B.named B.method).1
  subst hsz
  have hD := hD0.self (sz := s.heap.size)
  obtain ⟨qq, hqq⟩ : ∃ qq, qq = (va_Qv (fun u : Nat → Nat => u 0 = h0) (fun u t => poI dC dI cy (va_A [(h0, .inr (8, [.null, .int 0, .int 0]))] s.heap.size) (wi_X10 cy e1 u) t) (va_A [(h0, .inr (8, [.null, .int 0, .int 0]))] s.heap.size)) := ⟨_, rfl⟩
  rw [← hqq]
  generalize hAe : va_A [(h0, .inr (8, [.null, .int 0, .int 0]))] s.heap.size = A at hD hqq ⊢
  have hA : ∀ q : Nat, s.heap.size ≤ q → A q := fun q h => by rw [← hAe]; exact Or.inr h
  have hS : va_S A s.heap s.heap [] := va_S.rf
  have hl := lv_entry ([.ref h0, .ref e1]) (n := 2) (Nat.le_of_ble_eq_true rfl)
  have hE : entryFrame m aa 2 = F0 m 0 ((lg_sl ([.ref h0, .ref e1]) ++ List.replicate (2 - (lg_sl ([.ref h0, .ref e1])).length) Slot.unset).toArray) [] := by rw [haa]; exact lg_entry_eq m _ 2
  refine W.eq hE ?_
  generalize (lg_sl ([.ref h0, .ref e1]) ++ List.replicate (2 - (lg_sl ([.ref h0, .ref e1])).length) Slot.unset).toArray = ls at hl ⊢
  have hl : lv_has ls 2 [(0, .ref h0), (1, .ref e1)] := hl
  change W p l e rm_X10_init s m aa below meth c s.heap [] 0 0 (MQ below qq aa s 0 0 A) (F0 m 0 ls [])
  have lk0 := hts (.methodLink RX10 3 objectInit) (by decide +kernel)
  have lk1 := hts (.instanceMethod objectInit) (by decide +kernel)
  have lk2 := hts (.code objectInit ⟨#[0xb1]⟩ 1 none) (by decide +kernel)
  have lk3 := hts (.fieldLink RX10 9 "GoatDoors$VillageReader" "reader" "LGoatDoors$Reader;") (by decide +kernel)
  have in_X10 : ∀ w ∈ wsX100, w ∈ wsX10_init := by decide +kernel
  obtain ⟨H, hH⟩ : ∃ H : Heap, H = s.heap := ⟨_, rfl⟩
  obtain ⟨locs, hlocs⟩ : ∃ locs : List Loc, locs = [] := ⟨_, rfl⟩
  have hS : va_S A s.heap H locs := by rw [hH, hlocs]; exact hS
  rw [← hH] at hP
  suffices hg : W p l e rm_X10_init s m aa below meth c H locs 0 0 (MQ below qq aa s 0 0 A) (F0 m 0 ls []) by subst hH; subst hlocs; exact hg
  refine lv_aload_n hx hb dX10_init_0 rfl (lv_at hl 0 rfl) ?_
  refine W.objInit hx hb hown lk0 lk1 lk2 rfl (by rw [hml]; exact hl.1) rfl dX10_init_1 (Nat.le_of_ble_eq_true rfl) (Nat.le_of_ble_eq_true rfl) ?_
  refine W.eq (g2 := F0 m 4 ls []) rfl ?_
  refine lv_aload_n hx hb dX10_init_4 rfl (lv_at hl 0 rfl) ?_
  refine lv_aload_n hx hb dX10_init_5 rfl (lv_at hl 1 rfl) ?_
  refine va_putF (D := (dC, dI)) (ci := 8) (v := .ref e1) (ty := .object "GoatDoors$Reader") (C := RX10) (T := TX10) (N := 3) hx hb hts in_X10 tyX10 tyX10_ok nmX10 hown hK hP hD hS 0 rfl rfl 0 (by decide) lk3 (fun _ h9 => h9) rfl hin rfl (by decide +kernel) rfl rfl (Nat.le_of_ble_eq_true rfl) dX10_init_6 (fun H locs hP hD hS => ?_)
  have hP : va_P (dC, dI) vwCl [(h0, .inr (8, [.ref e1, .int 0, .int 0]))] H := hP
  have hD : va_D A [(h0, .inr (8, [.ref e1, .int 0, .int 0]))] := hD
  have hP9 := hP.sub (ws' := wi_X10 cy e1 (fun k => [h0, 0, 0].getD k 0)) [0] rfl
  have hD9 := hD.sub (ws' := wi_X10 cy e1 (fun k => [h0, 0, 0].getD k 0)) [0] (by decide) rfl
  exact W.vret hx hb hr (fun t ht hW => by rw [hqq]; exact ⟨⟨(fun k => [h0, 0, 0].getD k 0), rfl, rfl, by rw [ht]; exact hP9, va_K.moved hW.alike hK, hD9⟩, hS.F ht⟩) hS.2.2 dX10_init_9

abbrev i_X9_0 : Int32 × Int32 × (Nat → Int32) × (Nat → Int32) × (Nat → Int32) × (Nat → Int32) × (Nat → Int32) := (0, 0, (fun _ => 0), (fun _ => 0), (fun _ => 0), (fun _ => 0), (fun _ => 0))
abbrev i_X9_1 : Int32 × Int32 × (Nat → Int32) × (Nat → Int32) × (Nat → Int32) × (Nat → Int32) := (0, 0, (fun _ => 0), (fun _ => 0), (fun _ => 0), (fun _ => 0))
abbrev i_X9_2 : Int32 × (Nat → Int32) × (Nat → Int32) × (Nat → Int32) := (0, (fun _ => 0), (fun _ => 0), (fun _ => 0))
abbrev wi_X9 (cy : Nat → ClassId) (a : Nat → Nat) : va_W := [(a 0, .inr (7, [.int (i_X9_0.1), .int (i_X9_0.2.1), .ref (a 1), .ref (a 6), .ref (a 10), .ref (a 11), .ref (a 12), .ref (a 13), .ref (a 14)])), (a 1, .inr (2, [.int (i_X9_1.1), .int (i_X9_1.2.1), .ref (a 2), .ref (a 3), .ref (a 4), .ref (a 5)])), (a 2, .inl (cy 1, 10, .inl (i_X9_1.2.2.1))), (a 3, .inl (cy 1, 10, .inl (i_X9_1.2.2.2.1))), (a 4, .inl (cy 1, 10, .inl (i_X9_1.2.2.2.2.1))), (a 5, .inl (cy 1, 50, .inl (i_X9_1.2.2.2.2.2))), (a 6, .inr (6, [.int (i_X9_2.1), .ref (a 7), .ref (a 8), .ref (a 9)])), (a 7, .inl (cy 1, 12, .inl (i_X9_2.2.1))), (a 8, .inl (cy 1, 12, .inl (i_X9_2.2.2.1))), (a 9, .inl (cy 1, 12, .inl (i_X9_2.2.2.2))), (a 10, .inl (cy 1, 5, .inl (i_X9_0.2.2.1))), (a 11, .inl (cy 1, 5, .inl (i_X9_0.2.2.2.1))), (a 12, .inl (cy 1, 5, .inl (i_X9_0.2.2.2.2.1))), (a 13, .inl (cy 1, 5, .inl (i_X9_0.2.2.2.2.2.1))), (a 14, .inl (cy 1, 5, .inl (i_X9_0.2.2.2.2.2.2)))]
abbrev rm_X9_init : Room := { frames := 2, cells := 14, slots := 151, locals := 40 }
set_option maxHeartbeats 1000000 in
set_option maxRecDepth 100000 in
theorem c_X9_init (l : Launch) (dC : Nat → ClassId) (dI : Nat → Nat → Nat) (cy : Nat → ClassId) (h0 : Nat) (sz : Nat) : Met l yX9_init wsX9_init rm_X9_init (va_Pc [.ref h0] (prC dC dI cy [(h0, .inr (7, [.int 0, .int 0, .null, .null, .null, .null, .null, .null, .null]))] sz)) (va_Qv (fun u : Nat → Nat => u 0 = h0) (fun u t => poI dC dI cy (va_A [(h0, .inr (7, [.int 0, .int 0, .null, .null, .null, .null, .null, .null, .null]))] sz) (wi_X9 cy u) t) (va_A [(h0, .inr (7, [.int 0, .int 0, .null, .null, .null, .null, .null, .null, .null]))] sz)) 14 151 (va_A [(h0, .inr (7, [.int 0, .int 0, .null, .null, .null, .null, .null, .null, .null]))] sz) := by
  refine Met.ofW (cc := cX9_init) (maxL := 1) (ret := none) (by decide) rfl ?_
  intro p e s m aa below meth c s₁ B hml hv
  obtain ⟨haa, hsz, hP, hK, hD0⟩ := hv
  have hx := B.exec
  have hb := B.bytes
  have hr := B.returns
  have hts := atoms_spec (ws := wsX9_init) B.pre
  have hown : s.vm.findClass RX9 = some m.cls := findClass_of_methodNamed B.named
  have hlocks := B.notSynchronized
  have hin : meth.name = "<init>" := (name_of_methodNamed B.named B.method).1
  subst hsz
  have hD := hD0.self (sz := s.heap.size)
  obtain ⟨qq, hqq⟩ : ∃ qq, qq = (va_Qv (fun u : Nat → Nat => u 0 = h0) (fun u t => poI dC dI cy (va_A [(h0, .inr (7, [.int 0, .int 0, .null, .null, .null, .null, .null, .null, .null]))] s.heap.size) (wi_X9 cy u) t) (va_A [(h0, .inr (7, [.int 0, .int 0, .null, .null, .null, .null, .null, .null, .null]))] s.heap.size)) := ⟨_, rfl⟩
  rw [← hqq]
  generalize hAe : va_A [(h0, .inr (7, [.int 0, .int 0, .null, .null, .null, .null, .null, .null, .null]))] s.heap.size = A at hD hqq ⊢
  have hA : ∀ q : Nat, s.heap.size ≤ q → A q := fun q h => by rw [← hAe]; exact Or.inr h
  have hS : va_S A s.heap s.heap [] := va_S.rf
  have hl := lv_entry ([.ref h0]) (n := 1) (Nat.le_of_ble_eq_true rfl)
  have hE : entryFrame m aa 1 = F0 m 0 ((lg_sl ([.ref h0]) ++ List.replicate (1 - (lg_sl ([.ref h0])).length) Slot.unset).toArray) [] := by rw [haa]; exact lg_entry_eq m _ 1
  refine W.eq hE ?_
  generalize (lg_sl ([.ref h0]) ++ List.replicate (1 - (lg_sl ([.ref h0])).length) Slot.unset).toArray = ls at hl ⊢
  have hl : lv_has ls 1 [(0, .ref h0)] := hl
  change W p l e rm_X9_init s m aa below meth c s.heap [] 0 0 (MQ below qq aa s 14 151 A) (F0 m 0 ls [])
  have lk0 := hts (.methodLink RX9 3 objectInit) (by decide +kernel)
  have lk1 := hts (.instanceMethod objectInit) (by decide +kernel)
  have lk2 := hts (.code objectInit ⟨#[0xb1]⟩ 1 none) (by decide +kernel)
  have lk3 := hts (.classLink RX9 9 RX4) (by decide +kernel)
  have lk4 := hts (.instantiable RX4 6) (by decide +kernel)
  have lk5 := hts (.initialized RX4) (by decide +kernel)
  have lk6 := hts (.methodLink RX9 11 yX4_init) (by decide +kernel)
  have lk7 := hts (.instanceMethod yX4_init) (by decide +kernel)
  have lk8 := hts (.fieldLink RX9 12 "GoatDoors$Village" "doors" "LGoatDoors$Doors;") (by decide +kernel)
  have lk9 := hts (.classLink RX9 18 RX8) (by decide +kernel)
  have lk10 := hts (.instantiable RX8 4) (by decide +kernel)
  have lk11 := hts (.initialized RX8) (by decide +kernel)
  have lk12 := hts (.methodLink RX9 20 yX8_init) (by decide +kernel)
  have lk13 := hts (.instanceMethod yX8_init) (by decide +kernel)
  have lk14 := hts (.fieldLink RX9 21 "GoatDoors$Village" "receipts" "LGoatDoors$Receipts;") (by decide +kernel)
  have lk15 := hts (.arrayClass .int) (by decide +kernel)
  have lk16 := hts (.fieldLink RX9 25 "GoatDoors$Village" "goats" "[I") (by decide +kernel)
  have lk17 := hts (.fieldLink RX9 29 "GoatDoors$Village" "hides" "[I") (by decide +kernel)
  have lk18 := hts (.fieldLink RX9 32 "GoatDoors$Village" "hidden" "[I") (by decide +kernel)
  have lk19 := hts (.fieldLink RX9 35 "GoatDoors$Village" "lent" "[I") (by decide +kernel)
  have lk20 := hts (.fieldLink RX9 38 "GoatDoors$Village" "borrowed" "[I") (by decide +kernel)
  have in_X4 : ∀ w ∈ wsX40, w ∈ wsX9_init := by decide +kernel
  have in_X9 : ∀ w ∈ wsX90, w ∈ wsX9_init := by decide +kernel
  have in_X8 : ∀ w ∈ wsX80, w ∈ wsX9_init := by decide +kernel
  obtain ⟨H, hH⟩ : ∃ H : Heap, H = s.heap := ⟨_, rfl⟩
  obtain ⟨locs, hlocs⟩ : ∃ locs : List Loc, locs = [] := ⟨_, rfl⟩
  have hS : va_S A s.heap H locs := by rw [hH, hlocs]; exact hS
  rw [← hH] at hP
  suffices hg : W p l e rm_X9_init s m aa below meth c H locs 0 0 (MQ below qq aa s 14 151 A) (F0 m 0 ls []) by subst hH; subst hlocs; exact hg
  refine lv_aload_n hx hb dX9_init_0 rfl (lv_at hl 0 rfl) ?_
  refine W.objInit hx hb hown lk0 lk1 lk2 rfl (by rw [hml]; exact hl.1) rfl dX9_init_1 (Nat.le_of_ble_eq_true rfl) (Nat.le_of_ble_eq_true rfl) ?_
  refine W.eq (g2 := F0 m 4 ls []) rfl ?_
  refine lv_aload_n hx hb dX9_init_4 rfl (lv_at hl 0 rfl) ?_
  refine va_new (ci := 2) (fs := [.int 0, .int 0, .null, .null, .null, .null]) (C := RX4) (T := TX4) (N := 6) hx hb hts in_X4 tyX4 tyX4_ok hown lk3 lk4 lk5 hK hP hD hS hA rfl (fun j hj => by rcases (show j = 0 ∨ j = 1 ∨ j = 2 ∨ j = 3 ∨ j = 4 ∨ j = 5 by omega) with rfl | rfl | rfl | rfl | rfl | rfl <;> rfl) (Nat.le_of_ble_eq_true rfl) (Nat.le_of_ble_eq_true rfl) dX9_init_5 (fun q5 H hP hD hS => ?_)
  refine W.widen (k := 1) (n := 6) (by decide) (by decide) ?_
  have hP : va_P (dC, dI) vwCl [(h0, .inr (7, [.int 0, .int 0, .null, .null, .null, .null, .null, .null, .null])), (q5, .inr (2, [.int 0, .int 0, .null, .null, .null, .null]))] H := hP
  have hD : va_D A [(h0, .inr (7, [.int 0, .int 0, .null, .null, .null, .null, .null, .null, .null])), (q5, .inr (2, [.int 0, .int 0, .null, .null, .null, .null]))] := hD
  refine lv_dup hx hb dX9_init_8 rfl ?_
  have hFc := va_free (wc := [(q5, .inr (2, [.int 0, .int 0, .null, .null, .null, .null]))]) hD hS hA [1] rfl
  refine va_callv (va_runI (As := []) (rest := [.ref q5, .ref h0]) ⟨hx, hb, hml, hown, hts⟩ (c_X4_init l dC dI cy q5 H.size) (cwI 0 hts gX9_init_X4_init rfl rfl rfl lk5 lk6 lk7 rfl (by decide +kernel) ⟨Nat.le_of_ble_eq_true rfl, Nat.le_of_ble_eq_true rfl⟩) ⟨cl_blind, (cl_pre hK hP hD [1] rfl rfl)⟩ rfl rfl hl.1 rfl (lv_room (Nat.le_of_ble_eq_true rfl)) dX9_init_9 ⟨Nat.le_of_ble_eq_true rfl, Nat.le_of_ble_eq_true rfl⟩) hS (fun q _ h => hFc q h) hFc (fun u9 t H1 locs ht hvm hw hB hz1 hk1 hS => ?_)
  obtain ⟨hP1, hK1, hD1⟩ := hB
  rw [ht] at hP1
  obtain ⟨hPn, hDn⟩ := va_join (wr := [(h0, .inr (7, [.int 0, .int 0, .null, .null, .null, .null, .null, .null, .null]))]) hP hD [1] [0] rfl rfl (by decide) (by decide) hk1 hFc hP1 hD1
  generalize H1 = H at hPn hS ⊢
  refine W.widen (k := 5) (n := 86) (by decide) (by decide) ?_
  subst hw
  have hP := hPn
  have hD := hDn
  have hP : va_P (dC, dI) vwCl [(h0, .inr (7, [.int 0, .int 0, .null, .null, .null, .null, .null, .null, .null])), (u9 0, .inr (2, [.int (i_X4_0.1), .int (i_X4_0.2.1), .ref (u9 1), .ref (u9 2), .ref (u9 3), .ref (u9 4)])), (u9 1, .inl (cy 1, 10, .inl (i_X4_0.2.2.1))), (u9 2, .inl (cy 1, 10, .inl (i_X4_0.2.2.2.1))), (u9 3, .inl (cy 1, 10, .inl (i_X4_0.2.2.2.2.1))), (u9 4, .inl (cy 1, 50, .inl (i_X4_0.2.2.2.2.2)))] H := hP
  have hD : va_D A [(h0, .inr (7, [.int 0, .int 0, .null, .null, .null, .null, .null, .null, .null])), (u9 0, .inr (2, [.int (i_X4_0.1), .int (i_X4_0.2.1), .ref (u9 1), .ref (u9 2), .ref (u9 3), .ref (u9 4)])), (u9 1, .inl (cy 1, 10, .inl (i_X4_0.2.2.1))), (u9 2, .inl (cy 1, 10, .inl (i_X4_0.2.2.2.1))), (u9 3, .inl (cy 1, 10, .inl (i_X4_0.2.2.2.2.1))), (u9 4, .inl (cy 1, 50, .inl (i_X4_0.2.2.2.2.2)))] := hD
  refine va_putF (D := (dC, dI)) (ci := 7) (v := .ref (u9 0)) (ty := .object "GoatDoors$Doors") (C := RX9) (T := TX9) (N := 9) hx hb hts in_X9 tyX9 tyX9_ok nmX9 hown hK hP hD hS 0 rfl rfl 2 (by decide) lk8 (fun _ h9 => h9) rfl hin rfl (by decide +kernel) rfl rfl (Nat.le_of_ble_eq_true rfl) dX9_init_12 (fun H locs hP hD hS => ?_)
  have hP : va_P (dC, dI) vwCl [(h0, .inr (7, [.int 0, .int 0, .ref (u9 0), .null, .null, .null, .null, .null, .null])), (u9 0, .inr (2, [.int (i_X4_0.1), .int (i_X4_0.2.1), .ref (u9 1), .ref (u9 2), .ref (u9 3), .ref (u9 4)])), (u9 1, .inl (cy 1, 10, .inl (i_X4_0.2.2.1))), (u9 2, .inl (cy 1, 10, .inl (i_X4_0.2.2.2.1))), (u9 3, .inl (cy 1, 10, .inl (i_X4_0.2.2.2.2.1))), (u9 4, .inl (cy 1, 50, .inl (i_X4_0.2.2.2.2.2)))] H := hP
  have hD : va_D A [(h0, .inr (7, [.int 0, .int 0, .ref (u9 0), .null, .null, .null, .null, .null, .null])), (u9 0, .inr (2, [.int (i_X4_0.1), .int (i_X4_0.2.1), .ref (u9 1), .ref (u9 2), .ref (u9 3), .ref (u9 4)])), (u9 1, .inl (cy 1, 10, .inl (i_X4_0.2.2.1))), (u9 2, .inl (cy 1, 10, .inl (i_X4_0.2.2.2.1))), (u9 3, .inl (cy 1, 10, .inl (i_X4_0.2.2.2.2.1))), (u9 4, .inl (cy 1, 50, .inl (i_X4_0.2.2.2.2.2)))] := hD
  refine lv_aload_n hx hb dX9_init_15 rfl (lv_at hl 0 rfl) ?_
  refine va_new (ci := 6) (fs := [.int 0, .null, .null, .null]) (C := RX8) (T := TX8) (N := 4) hx hb hts in_X8 tyX8 tyX8_ok hown lk9 lk10 lk11 hK hP hD hS hA rfl (fun j hj => by rcases (show j = 0 ∨ j = 1 ∨ j = 2 ∨ j = 3 by omega) with rfl | rfl | rfl | rfl <;> rfl) (Nat.le_of_ble_eq_true rfl) (Nat.le_of_ble_eq_true rfl) dX9_init_16 (fun q16 H hP hD hS => ?_)
  refine W.widen (k := 6) (n := 90) (by decide) (by decide) ?_
  have hP : va_P (dC, dI) vwCl [(h0, .inr (7, [.int 0, .int 0, .ref (u9 0), .null, .null, .null, .null, .null, .null])), (u9 0, .inr (2, [.int (i_X4_0.1), .int (i_X4_0.2.1), .ref (u9 1), .ref (u9 2), .ref (u9 3), .ref (u9 4)])), (u9 1, .inl (cy 1, 10, .inl (i_X4_0.2.2.1))), (u9 2, .inl (cy 1, 10, .inl (i_X4_0.2.2.2.1))), (u9 3, .inl (cy 1, 10, .inl (i_X4_0.2.2.2.2.1))), (u9 4, .inl (cy 1, 50, .inl (i_X4_0.2.2.2.2.2))), (q16, .inr (6, [.int 0, .null, .null, .null]))] H := hP
  have hD : va_D A [(h0, .inr (7, [.int 0, .int 0, .ref (u9 0), .null, .null, .null, .null, .null, .null])), (u9 0, .inr (2, [.int (i_X4_0.1), .int (i_X4_0.2.1), .ref (u9 1), .ref (u9 2), .ref (u9 3), .ref (u9 4)])), (u9 1, .inl (cy 1, 10, .inl (i_X4_0.2.2.1))), (u9 2, .inl (cy 1, 10, .inl (i_X4_0.2.2.2.1))), (u9 3, .inl (cy 1, 10, .inl (i_X4_0.2.2.2.2.1))), (u9 4, .inl (cy 1, 50, .inl (i_X4_0.2.2.2.2.2))), (q16, .inr (6, [.int 0, .null, .null, .null]))] := hD
  refine lv_dup hx hb dX9_init_19 rfl ?_
  have hFc := va_free (wc := [(q16, .inr (6, [.int 0, .null, .null, .null]))]) hD hS hA [6] rfl
  refine va_callv (va_runI (As := []) (rest := [.ref q16, .ref h0]) ⟨hx, hb, hml, hown, hts⟩ (c_X8_init l dC dI cy q16 H.size) (cwI 0 hts gX9_init_X8_init rfl rfl rfl lk11 lk12 lk13 rfl (by decide +kernel) ⟨Nat.le_of_ble_eq_true rfl, Nat.le_of_ble_eq_true rfl⟩) ⟨cl_blind, (cl_pre hK hP hD [6] rfl rfl)⟩ rfl rfl hl.1 rfl (lv_room (Nat.le_of_ble_eq_true rfl)) dX9_init_20 ⟨Nat.le_of_ble_eq_true rfl, Nat.le_of_ble_eq_true rfl⟩) hS (fun q _ h => hFc q h) hFc (fun u20 t H1 locs ht hvm hw hB hz1 hk1 hS => ?_)
  obtain ⟨hP1, hK1, hD1⟩ := hB
  rw [ht] at hP1
  obtain ⟨hPn, hDn⟩ := va_join (wr := [(h0, .inr (7, [.int 0, .int 0, .ref (u9 0), .null, .null, .null, .null, .null, .null])), (u9 0, .inr (2, [.int (i_X4_0.1), .int (i_X4_0.2.1), .ref (u9 1), .ref (u9 2), .ref (u9 3), .ref (u9 4)])), (u9 1, .inl (cy 1, 10, .inl (i_X4_0.2.2.1))), (u9 2, .inl (cy 1, 10, .inl (i_X4_0.2.2.2.1))), (u9 3, .inl (cy 1, 10, .inl (i_X4_0.2.2.2.2.1))), (u9 4, .inl (cy 1, 50, .inl (i_X4_0.2.2.2.2.2)))]) hP hD [6] [0, 1, 2, 3, 4, 5] rfl rfl (by decide) (by decide) hk1 hFc hP1 hD1
  generalize H1 = H at hPn hS ⊢
  refine W.widen (k := 9) (n := 126) (by decide) (by decide) ?_
  subst hw
  have hP := hPn
  have hD := hDn
  have hP : va_P (dC, dI) vwCl [(h0, .inr (7, [.int 0, .int 0, .ref (u9 0), .null, .null, .null, .null, .null, .null])), (u9 0, .inr (2, [.int (i_X4_0.1), .int (i_X4_0.2.1), .ref (u9 1), .ref (u9 2), .ref (u9 3), .ref (u9 4)])), (u9 1, .inl (cy 1, 10, .inl (i_X4_0.2.2.1))), (u9 2, .inl (cy 1, 10, .inl (i_X4_0.2.2.2.1))), (u9 3, .inl (cy 1, 10, .inl (i_X4_0.2.2.2.2.1))), (u9 4, .inl (cy 1, 50, .inl (i_X4_0.2.2.2.2.2))), (u20 0, .inr (6, [.int (i_X8_0.1), .ref (u20 1), .ref (u20 2), .ref (u20 3)])), (u20 1, .inl (cy 1, 12, .inl (i_X8_0.2.1))), (u20 2, .inl (cy 1, 12, .inl (i_X8_0.2.2.1))), (u20 3, .inl (cy 1, 12, .inl (i_X8_0.2.2.2)))] H := hP
  have hD : va_D A [(h0, .inr (7, [.int 0, .int 0, .ref (u9 0), .null, .null, .null, .null, .null, .null])), (u9 0, .inr (2, [.int (i_X4_0.1), .int (i_X4_0.2.1), .ref (u9 1), .ref (u9 2), .ref (u9 3), .ref (u9 4)])), (u9 1, .inl (cy 1, 10, .inl (i_X4_0.2.2.1))), (u9 2, .inl (cy 1, 10, .inl (i_X4_0.2.2.2.1))), (u9 3, .inl (cy 1, 10, .inl (i_X4_0.2.2.2.2.1))), (u9 4, .inl (cy 1, 50, .inl (i_X4_0.2.2.2.2.2))), (u20 0, .inr (6, [.int (i_X8_0.1), .ref (u20 1), .ref (u20 2), .ref (u20 3)])), (u20 1, .inl (cy 1, 12, .inl (i_X8_0.2.1))), (u20 2, .inl (cy 1, 12, .inl (i_X8_0.2.2.1))), (u20 3, .inl (cy 1, 12, .inl (i_X8_0.2.2.2)))] := hD
  refine va_putF (D := (dC, dI)) (ci := 7) (v := .ref (u20 0)) (ty := .object "GoatDoors$Receipts") (C := RX9) (T := TX9) (N := 9) hx hb hts in_X9 tyX9 tyX9_ok nmX9 hown hK hP hD hS 0 rfl rfl 3 (by decide) lk14 (fun _ h9 => h9) rfl hin rfl (by decide +kernel) rfl rfl (Nat.le_of_ble_eq_true rfl) dX9_init_23 (fun H locs hP hD hS => ?_)
  have hP : va_P (dC, dI) vwCl [(h0, .inr (7, [.int 0, .int 0, .ref (u9 0), .ref (u20 0), .null, .null, .null, .null, .null])), (u9 0, .inr (2, [.int (i_X4_0.1), .int (i_X4_0.2.1), .ref (u9 1), .ref (u9 2), .ref (u9 3), .ref (u9 4)])), (u9 1, .inl (cy 1, 10, .inl (i_X4_0.2.2.1))), (u9 2, .inl (cy 1, 10, .inl (i_X4_0.2.2.2.1))), (u9 3, .inl (cy 1, 10, .inl (i_X4_0.2.2.2.2.1))), (u9 4, .inl (cy 1, 50, .inl (i_X4_0.2.2.2.2.2))), (u20 0, .inr (6, [.int (i_X8_0.1), .ref (u20 1), .ref (u20 2), .ref (u20 3)])), (u20 1, .inl (cy 1, 12, .inl (i_X8_0.2.1))), (u20 2, .inl (cy 1, 12, .inl (i_X8_0.2.2.1))), (u20 3, .inl (cy 1, 12, .inl (i_X8_0.2.2.2)))] H := hP
  have hD : va_D A [(h0, .inr (7, [.int 0, .int 0, .ref (u9 0), .ref (u20 0), .null, .null, .null, .null, .null])), (u9 0, .inr (2, [.int (i_X4_0.1), .int (i_X4_0.2.1), .ref (u9 1), .ref (u9 2), .ref (u9 3), .ref (u9 4)])), (u9 1, .inl (cy 1, 10, .inl (i_X4_0.2.2.1))), (u9 2, .inl (cy 1, 10, .inl (i_X4_0.2.2.2.1))), (u9 3, .inl (cy 1, 10, .inl (i_X4_0.2.2.2.2.1))), (u9 4, .inl (cy 1, 50, .inl (i_X4_0.2.2.2.2.2))), (u20 0, .inr (6, [.int (i_X8_0.1), .ref (u20 1), .ref (u20 2), .ref (u20 3)])), (u20 1, .inl (cy 1, 12, .inl (i_X8_0.2.1))), (u20 2, .inl (cy 1, 12, .inl (i_X8_0.2.2.1))), (u20 3, .inl (cy 1, 12, .inl (i_X8_0.2.2.2)))] := hD
  refine lv_aload_n hx hb dX9_init_26 rfl (lv_at hl 0 rfl) ?_
  refine lv_iconst (v := (5 : Int32)) hx hb dX9_init_27 (by decide) ?_
  refine nw_i hx hb lk15 hK hP hD hS hA 5 (by decide) (by decide) (by decide) (Nat.le_of_ble_eq_true rfl) (Nat.le_of_ble_eq_true rfl) (cells' := 10) (slots' := 131) ⟨rfl, rfl⟩ dX9_init_28 (fun q28 H hP hD hS => ?_)
  have hP : va_P (dC, dI) vwCl [(h0, .inr (7, [.int 0, .int 0, .ref (u9 0), .ref (u20 0), .null, .null, .null, .null, .null])), (u9 0, .inr (2, [.int (i_X4_0.1), .int (i_X4_0.2.1), .ref (u9 1), .ref (u9 2), .ref (u9 3), .ref (u9 4)])), (u9 1, .inl (cy 1, 10, .inl (i_X4_0.2.2.1))), (u9 2, .inl (cy 1, 10, .inl (i_X4_0.2.2.2.1))), (u9 3, .inl (cy 1, 10, .inl (i_X4_0.2.2.2.2.1))), (u9 4, .inl (cy 1, 50, .inl (i_X4_0.2.2.2.2.2))), (u20 0, .inr (6, [.int (i_X8_0.1), .ref (u20 1), .ref (u20 2), .ref (u20 3)])), (u20 1, .inl (cy 1, 12, .inl (i_X8_0.2.1))), (u20 2, .inl (cy 1, 12, .inl (i_X8_0.2.2.1))), (u20 3, .inl (cy 1, 12, .inl (i_X8_0.2.2.2))), (q28, .inl (cy 1, 5, .inl (fun _ => 0)))] H := hP
  have hD : va_D A [(h0, .inr (7, [.int 0, .int 0, .ref (u9 0), .ref (u20 0), .null, .null, .null, .null, .null])), (u9 0, .inr (2, [.int (i_X4_0.1), .int (i_X4_0.2.1), .ref (u9 1), .ref (u9 2), .ref (u9 3), .ref (u9 4)])), (u9 1, .inl (cy 1, 10, .inl (i_X4_0.2.2.1))), (u9 2, .inl (cy 1, 10, .inl (i_X4_0.2.2.2.1))), (u9 3, .inl (cy 1, 10, .inl (i_X4_0.2.2.2.2.1))), (u9 4, .inl (cy 1, 50, .inl (i_X4_0.2.2.2.2.2))), (u20 0, .inr (6, [.int (i_X8_0.1), .ref (u20 1), .ref (u20 2), .ref (u20 3)])), (u20 1, .inl (cy 1, 12, .inl (i_X8_0.2.1))), (u20 2, .inl (cy 1, 12, .inl (i_X8_0.2.2.1))), (u20 3, .inl (cy 1, 12, .inl (i_X8_0.2.2.2))), (q28, .inl (cy 1, 5, .inl (fun _ => 0)))] := hD
  refine va_putF (D := (dC, dI)) (ci := 7) (v := .ref q28) (ty := .array (.int)) (C := RX9) (T := TX9) (N := 9) hx hb hts in_X9 tyX9 tyX9_ok nmX9 hown hK hP hD hS 0 rfl rfl 4 (by decide) lk16 (fun _ h9 => h9) rfl hin rfl (by decide +kernel) rfl rfl (Nat.le_of_ble_eq_true rfl) dX9_init_30 (fun H locs hP hD hS => ?_)
  have hP : va_P (dC, dI) vwCl [(h0, .inr (7, [.int 0, .int 0, .ref (u9 0), .ref (u20 0), .ref q28, .null, .null, .null, .null])), (u9 0, .inr (2, [.int (i_X4_0.1), .int (i_X4_0.2.1), .ref (u9 1), .ref (u9 2), .ref (u9 3), .ref (u9 4)])), (u9 1, .inl (cy 1, 10, .inl (i_X4_0.2.2.1))), (u9 2, .inl (cy 1, 10, .inl (i_X4_0.2.2.2.1))), (u9 3, .inl (cy 1, 10, .inl (i_X4_0.2.2.2.2.1))), (u9 4, .inl (cy 1, 50, .inl (i_X4_0.2.2.2.2.2))), (u20 0, .inr (6, [.int (i_X8_0.1), .ref (u20 1), .ref (u20 2), .ref (u20 3)])), (u20 1, .inl (cy 1, 12, .inl (i_X8_0.2.1))), (u20 2, .inl (cy 1, 12, .inl (i_X8_0.2.2.1))), (u20 3, .inl (cy 1, 12, .inl (i_X8_0.2.2.2))), (q28, .inl (cy 1, 5, .inl (fun _ => 0)))] H := hP
  have hD : va_D A [(h0, .inr (7, [.int 0, .int 0, .ref (u9 0), .ref (u20 0), .ref q28, .null, .null, .null, .null])), (u9 0, .inr (2, [.int (i_X4_0.1), .int (i_X4_0.2.1), .ref (u9 1), .ref (u9 2), .ref (u9 3), .ref (u9 4)])), (u9 1, .inl (cy 1, 10, .inl (i_X4_0.2.2.1))), (u9 2, .inl (cy 1, 10, .inl (i_X4_0.2.2.2.1))), (u9 3, .inl (cy 1, 10, .inl (i_X4_0.2.2.2.2.1))), (u9 4, .inl (cy 1, 50, .inl (i_X4_0.2.2.2.2.2))), (u20 0, .inr (6, [.int (i_X8_0.1), .ref (u20 1), .ref (u20 2), .ref (u20 3)])), (u20 1, .inl (cy 1, 12, .inl (i_X8_0.2.1))), (u20 2, .inl (cy 1, 12, .inl (i_X8_0.2.2.1))), (u20 3, .inl (cy 1, 12, .inl (i_X8_0.2.2.2))), (q28, .inl (cy 1, 5, .inl (fun _ => 0)))] := hD
  refine lv_aload_n hx hb dX9_init_33 rfl (lv_at hl 0 rfl) ?_
  refine lv_iconst (v := (5 : Int32)) hx hb dX9_init_34 (by decide) ?_
  refine nw_i hx hb lk15 hK hP hD hS hA 5 (by decide) (by decide) (by decide) (Nat.le_of_ble_eq_true rfl) (Nat.le_of_ble_eq_true rfl) (cells' := 11) (slots' := 136) ⟨rfl, rfl⟩ dX9_init_35 (fun q35 H hP hD hS => ?_)
  have hP : va_P (dC, dI) vwCl [(h0, .inr (7, [.int 0, .int 0, .ref (u9 0), .ref (u20 0), .ref q28, .null, .null, .null, .null])), (u9 0, .inr (2, [.int (i_X4_0.1), .int (i_X4_0.2.1), .ref (u9 1), .ref (u9 2), .ref (u9 3), .ref (u9 4)])), (u9 1, .inl (cy 1, 10, .inl (i_X4_0.2.2.1))), (u9 2, .inl (cy 1, 10, .inl (i_X4_0.2.2.2.1))), (u9 3, .inl (cy 1, 10, .inl (i_X4_0.2.2.2.2.1))), (u9 4, .inl (cy 1, 50, .inl (i_X4_0.2.2.2.2.2))), (u20 0, .inr (6, [.int (i_X8_0.1), .ref (u20 1), .ref (u20 2), .ref (u20 3)])), (u20 1, .inl (cy 1, 12, .inl (i_X8_0.2.1))), (u20 2, .inl (cy 1, 12, .inl (i_X8_0.2.2.1))), (u20 3, .inl (cy 1, 12, .inl (i_X8_0.2.2.2))), (q28, .inl (cy 1, 5, .inl (fun _ => 0))), (q35, .inl (cy 1, 5, .inl (fun _ => 0)))] H := hP
  have hD : va_D A [(h0, .inr (7, [.int 0, .int 0, .ref (u9 0), .ref (u20 0), .ref q28, .null, .null, .null, .null])), (u9 0, .inr (2, [.int (i_X4_0.1), .int (i_X4_0.2.1), .ref (u9 1), .ref (u9 2), .ref (u9 3), .ref (u9 4)])), (u9 1, .inl (cy 1, 10, .inl (i_X4_0.2.2.1))), (u9 2, .inl (cy 1, 10, .inl (i_X4_0.2.2.2.1))), (u9 3, .inl (cy 1, 10, .inl (i_X4_0.2.2.2.2.1))), (u9 4, .inl (cy 1, 50, .inl (i_X4_0.2.2.2.2.2))), (u20 0, .inr (6, [.int (i_X8_0.1), .ref (u20 1), .ref (u20 2), .ref (u20 3)])), (u20 1, .inl (cy 1, 12, .inl (i_X8_0.2.1))), (u20 2, .inl (cy 1, 12, .inl (i_X8_0.2.2.1))), (u20 3, .inl (cy 1, 12, .inl (i_X8_0.2.2.2))), (q28, .inl (cy 1, 5, .inl (fun _ => 0))), (q35, .inl (cy 1, 5, .inl (fun _ => 0)))] := hD
  refine va_putF (D := (dC, dI)) (ci := 7) (v := .ref q35) (ty := .array (.int)) (C := RX9) (T := TX9) (N := 9) hx hb hts in_X9 tyX9 tyX9_ok nmX9 hown hK hP hD hS 0 rfl rfl 5 (by decide) lk17 (fun _ h9 => h9) rfl hin rfl (by decide +kernel) rfl rfl (Nat.le_of_ble_eq_true rfl) dX9_init_37 (fun H locs hP hD hS => ?_)
  have hP : va_P (dC, dI) vwCl [(h0, .inr (7, [.int 0, .int 0, .ref (u9 0), .ref (u20 0), .ref q28, .ref q35, .null, .null, .null])), (u9 0, .inr (2, [.int (i_X4_0.1), .int (i_X4_0.2.1), .ref (u9 1), .ref (u9 2), .ref (u9 3), .ref (u9 4)])), (u9 1, .inl (cy 1, 10, .inl (i_X4_0.2.2.1))), (u9 2, .inl (cy 1, 10, .inl (i_X4_0.2.2.2.1))), (u9 3, .inl (cy 1, 10, .inl (i_X4_0.2.2.2.2.1))), (u9 4, .inl (cy 1, 50, .inl (i_X4_0.2.2.2.2.2))), (u20 0, .inr (6, [.int (i_X8_0.1), .ref (u20 1), .ref (u20 2), .ref (u20 3)])), (u20 1, .inl (cy 1, 12, .inl (i_X8_0.2.1))), (u20 2, .inl (cy 1, 12, .inl (i_X8_0.2.2.1))), (u20 3, .inl (cy 1, 12, .inl (i_X8_0.2.2.2))), (q28, .inl (cy 1, 5, .inl (fun _ => 0))), (q35, .inl (cy 1, 5, .inl (fun _ => 0)))] H := hP
  have hD : va_D A [(h0, .inr (7, [.int 0, .int 0, .ref (u9 0), .ref (u20 0), .ref q28, .ref q35, .null, .null, .null])), (u9 0, .inr (2, [.int (i_X4_0.1), .int (i_X4_0.2.1), .ref (u9 1), .ref (u9 2), .ref (u9 3), .ref (u9 4)])), (u9 1, .inl (cy 1, 10, .inl (i_X4_0.2.2.1))), (u9 2, .inl (cy 1, 10, .inl (i_X4_0.2.2.2.1))), (u9 3, .inl (cy 1, 10, .inl (i_X4_0.2.2.2.2.1))), (u9 4, .inl (cy 1, 50, .inl (i_X4_0.2.2.2.2.2))), (u20 0, .inr (6, [.int (i_X8_0.1), .ref (u20 1), .ref (u20 2), .ref (u20 3)])), (u20 1, .inl (cy 1, 12, .inl (i_X8_0.2.1))), (u20 2, .inl (cy 1, 12, .inl (i_X8_0.2.2.1))), (u20 3, .inl (cy 1, 12, .inl (i_X8_0.2.2.2))), (q28, .inl (cy 1, 5, .inl (fun _ => 0))), (q35, .inl (cy 1, 5, .inl (fun _ => 0)))] := hD
  refine lv_aload_n hx hb dX9_init_40 rfl (lv_at hl 0 rfl) ?_
  refine lv_iconst (v := (5 : Int32)) hx hb dX9_init_41 (by decide) ?_
  refine nw_i hx hb lk15 hK hP hD hS hA 5 (by decide) (by decide) (by decide) (Nat.le_of_ble_eq_true rfl) (Nat.le_of_ble_eq_true rfl) (cells' := 12) (slots' := 141) ⟨rfl, rfl⟩ dX9_init_42 (fun q42 H hP hD hS => ?_)
  have hP : va_P (dC, dI) vwCl [(h0, .inr (7, [.int 0, .int 0, .ref (u9 0), .ref (u20 0), .ref q28, .ref q35, .null, .null, .null])), (u9 0, .inr (2, [.int (i_X4_0.1), .int (i_X4_0.2.1), .ref (u9 1), .ref (u9 2), .ref (u9 3), .ref (u9 4)])), (u9 1, .inl (cy 1, 10, .inl (i_X4_0.2.2.1))), (u9 2, .inl (cy 1, 10, .inl (i_X4_0.2.2.2.1))), (u9 3, .inl (cy 1, 10, .inl (i_X4_0.2.2.2.2.1))), (u9 4, .inl (cy 1, 50, .inl (i_X4_0.2.2.2.2.2))), (u20 0, .inr (6, [.int (i_X8_0.1), .ref (u20 1), .ref (u20 2), .ref (u20 3)])), (u20 1, .inl (cy 1, 12, .inl (i_X8_0.2.1))), (u20 2, .inl (cy 1, 12, .inl (i_X8_0.2.2.1))), (u20 3, .inl (cy 1, 12, .inl (i_X8_0.2.2.2))), (q28, .inl (cy 1, 5, .inl (fun _ => 0))), (q35, .inl (cy 1, 5, .inl (fun _ => 0))), (q42, .inl (cy 1, 5, .inl (fun _ => 0)))] H := hP
  have hD : va_D A [(h0, .inr (7, [.int 0, .int 0, .ref (u9 0), .ref (u20 0), .ref q28, .ref q35, .null, .null, .null])), (u9 0, .inr (2, [.int (i_X4_0.1), .int (i_X4_0.2.1), .ref (u9 1), .ref (u9 2), .ref (u9 3), .ref (u9 4)])), (u9 1, .inl (cy 1, 10, .inl (i_X4_0.2.2.1))), (u9 2, .inl (cy 1, 10, .inl (i_X4_0.2.2.2.1))), (u9 3, .inl (cy 1, 10, .inl (i_X4_0.2.2.2.2.1))), (u9 4, .inl (cy 1, 50, .inl (i_X4_0.2.2.2.2.2))), (u20 0, .inr (6, [.int (i_X8_0.1), .ref (u20 1), .ref (u20 2), .ref (u20 3)])), (u20 1, .inl (cy 1, 12, .inl (i_X8_0.2.1))), (u20 2, .inl (cy 1, 12, .inl (i_X8_0.2.2.1))), (u20 3, .inl (cy 1, 12, .inl (i_X8_0.2.2.2))), (q28, .inl (cy 1, 5, .inl (fun _ => 0))), (q35, .inl (cy 1, 5, .inl (fun _ => 0))), (q42, .inl (cy 1, 5, .inl (fun _ => 0)))] := hD
  refine va_putF (D := (dC, dI)) (ci := 7) (v := .ref q42) (ty := .array (.int)) (C := RX9) (T := TX9) (N := 9) hx hb hts in_X9 tyX9 tyX9_ok nmX9 hown hK hP hD hS 0 rfl rfl 6 (by decide) lk18 (fun _ h9 => h9) rfl hin rfl (by decide +kernel) rfl rfl (Nat.le_of_ble_eq_true rfl) dX9_init_44 (fun H locs hP hD hS => ?_)
  have hP : va_P (dC, dI) vwCl [(h0, .inr (7, [.int 0, .int 0, .ref (u9 0), .ref (u20 0), .ref q28, .ref q35, .ref q42, .null, .null])), (u9 0, .inr (2, [.int (i_X4_0.1), .int (i_X4_0.2.1), .ref (u9 1), .ref (u9 2), .ref (u9 3), .ref (u9 4)])), (u9 1, .inl (cy 1, 10, .inl (i_X4_0.2.2.1))), (u9 2, .inl (cy 1, 10, .inl (i_X4_0.2.2.2.1))), (u9 3, .inl (cy 1, 10, .inl (i_X4_0.2.2.2.2.1))), (u9 4, .inl (cy 1, 50, .inl (i_X4_0.2.2.2.2.2))), (u20 0, .inr (6, [.int (i_X8_0.1), .ref (u20 1), .ref (u20 2), .ref (u20 3)])), (u20 1, .inl (cy 1, 12, .inl (i_X8_0.2.1))), (u20 2, .inl (cy 1, 12, .inl (i_X8_0.2.2.1))), (u20 3, .inl (cy 1, 12, .inl (i_X8_0.2.2.2))), (q28, .inl (cy 1, 5, .inl (fun _ => 0))), (q35, .inl (cy 1, 5, .inl (fun _ => 0))), (q42, .inl (cy 1, 5, .inl (fun _ => 0)))] H := hP
  have hD : va_D A [(h0, .inr (7, [.int 0, .int 0, .ref (u9 0), .ref (u20 0), .ref q28, .ref q35, .ref q42, .null, .null])), (u9 0, .inr (2, [.int (i_X4_0.1), .int (i_X4_0.2.1), .ref (u9 1), .ref (u9 2), .ref (u9 3), .ref (u9 4)])), (u9 1, .inl (cy 1, 10, .inl (i_X4_0.2.2.1))), (u9 2, .inl (cy 1, 10, .inl (i_X4_0.2.2.2.1))), (u9 3, .inl (cy 1, 10, .inl (i_X4_0.2.2.2.2.1))), (u9 4, .inl (cy 1, 50, .inl (i_X4_0.2.2.2.2.2))), (u20 0, .inr (6, [.int (i_X8_0.1), .ref (u20 1), .ref (u20 2), .ref (u20 3)])), (u20 1, .inl (cy 1, 12, .inl (i_X8_0.2.1))), (u20 2, .inl (cy 1, 12, .inl (i_X8_0.2.2.1))), (u20 3, .inl (cy 1, 12, .inl (i_X8_0.2.2.2))), (q28, .inl (cy 1, 5, .inl (fun _ => 0))), (q35, .inl (cy 1, 5, .inl (fun _ => 0))), (q42, .inl (cy 1, 5, .inl (fun _ => 0)))] := hD
  refine lv_aload_n hx hb dX9_init_47 rfl (lv_at hl 0 rfl) ?_
  refine lv_iconst (v := (5 : Int32)) hx hb dX9_init_48 (by decide) ?_
  refine nw_i hx hb lk15 hK hP hD hS hA 5 (by decide) (by decide) (by decide) (Nat.le_of_ble_eq_true rfl) (Nat.le_of_ble_eq_true rfl) (cells' := 13) (slots' := 146) ⟨rfl, rfl⟩ dX9_init_49 (fun q49 H hP hD hS => ?_)
  have hP : va_P (dC, dI) vwCl [(h0, .inr (7, [.int 0, .int 0, .ref (u9 0), .ref (u20 0), .ref q28, .ref q35, .ref q42, .null, .null])), (u9 0, .inr (2, [.int (i_X4_0.1), .int (i_X4_0.2.1), .ref (u9 1), .ref (u9 2), .ref (u9 3), .ref (u9 4)])), (u9 1, .inl (cy 1, 10, .inl (i_X4_0.2.2.1))), (u9 2, .inl (cy 1, 10, .inl (i_X4_0.2.2.2.1))), (u9 3, .inl (cy 1, 10, .inl (i_X4_0.2.2.2.2.1))), (u9 4, .inl (cy 1, 50, .inl (i_X4_0.2.2.2.2.2))), (u20 0, .inr (6, [.int (i_X8_0.1), .ref (u20 1), .ref (u20 2), .ref (u20 3)])), (u20 1, .inl (cy 1, 12, .inl (i_X8_0.2.1))), (u20 2, .inl (cy 1, 12, .inl (i_X8_0.2.2.1))), (u20 3, .inl (cy 1, 12, .inl (i_X8_0.2.2.2))), (q28, .inl (cy 1, 5, .inl (fun _ => 0))), (q35, .inl (cy 1, 5, .inl (fun _ => 0))), (q42, .inl (cy 1, 5, .inl (fun _ => 0))), (q49, .inl (cy 1, 5, .inl (fun _ => 0)))] H := hP
  have hD : va_D A [(h0, .inr (7, [.int 0, .int 0, .ref (u9 0), .ref (u20 0), .ref q28, .ref q35, .ref q42, .null, .null])), (u9 0, .inr (2, [.int (i_X4_0.1), .int (i_X4_0.2.1), .ref (u9 1), .ref (u9 2), .ref (u9 3), .ref (u9 4)])), (u9 1, .inl (cy 1, 10, .inl (i_X4_0.2.2.1))), (u9 2, .inl (cy 1, 10, .inl (i_X4_0.2.2.2.1))), (u9 3, .inl (cy 1, 10, .inl (i_X4_0.2.2.2.2.1))), (u9 4, .inl (cy 1, 50, .inl (i_X4_0.2.2.2.2.2))), (u20 0, .inr (6, [.int (i_X8_0.1), .ref (u20 1), .ref (u20 2), .ref (u20 3)])), (u20 1, .inl (cy 1, 12, .inl (i_X8_0.2.1))), (u20 2, .inl (cy 1, 12, .inl (i_X8_0.2.2.1))), (u20 3, .inl (cy 1, 12, .inl (i_X8_0.2.2.2))), (q28, .inl (cy 1, 5, .inl (fun _ => 0))), (q35, .inl (cy 1, 5, .inl (fun _ => 0))), (q42, .inl (cy 1, 5, .inl (fun _ => 0))), (q49, .inl (cy 1, 5, .inl (fun _ => 0)))] := hD
  refine va_putF (D := (dC, dI)) (ci := 7) (v := .ref q49) (ty := .array (.int)) (C := RX9) (T := TX9) (N := 9) hx hb hts in_X9 tyX9 tyX9_ok nmX9 hown hK hP hD hS 0 rfl rfl 7 (by decide) lk19 (fun _ h9 => h9) rfl hin rfl (by decide +kernel) rfl rfl (Nat.le_of_ble_eq_true rfl) dX9_init_51 (fun H locs hP hD hS => ?_)
  have hP : va_P (dC, dI) vwCl [(h0, .inr (7, [.int 0, .int 0, .ref (u9 0), .ref (u20 0), .ref q28, .ref q35, .ref q42, .ref q49, .null])), (u9 0, .inr (2, [.int (i_X4_0.1), .int (i_X4_0.2.1), .ref (u9 1), .ref (u9 2), .ref (u9 3), .ref (u9 4)])), (u9 1, .inl (cy 1, 10, .inl (i_X4_0.2.2.1))), (u9 2, .inl (cy 1, 10, .inl (i_X4_0.2.2.2.1))), (u9 3, .inl (cy 1, 10, .inl (i_X4_0.2.2.2.2.1))), (u9 4, .inl (cy 1, 50, .inl (i_X4_0.2.2.2.2.2))), (u20 0, .inr (6, [.int (i_X8_0.1), .ref (u20 1), .ref (u20 2), .ref (u20 3)])), (u20 1, .inl (cy 1, 12, .inl (i_X8_0.2.1))), (u20 2, .inl (cy 1, 12, .inl (i_X8_0.2.2.1))), (u20 3, .inl (cy 1, 12, .inl (i_X8_0.2.2.2))), (q28, .inl (cy 1, 5, .inl (fun _ => 0))), (q35, .inl (cy 1, 5, .inl (fun _ => 0))), (q42, .inl (cy 1, 5, .inl (fun _ => 0))), (q49, .inl (cy 1, 5, .inl (fun _ => 0)))] H := hP
  have hD : va_D A [(h0, .inr (7, [.int 0, .int 0, .ref (u9 0), .ref (u20 0), .ref q28, .ref q35, .ref q42, .ref q49, .null])), (u9 0, .inr (2, [.int (i_X4_0.1), .int (i_X4_0.2.1), .ref (u9 1), .ref (u9 2), .ref (u9 3), .ref (u9 4)])), (u9 1, .inl (cy 1, 10, .inl (i_X4_0.2.2.1))), (u9 2, .inl (cy 1, 10, .inl (i_X4_0.2.2.2.1))), (u9 3, .inl (cy 1, 10, .inl (i_X4_0.2.2.2.2.1))), (u9 4, .inl (cy 1, 50, .inl (i_X4_0.2.2.2.2.2))), (u20 0, .inr (6, [.int (i_X8_0.1), .ref (u20 1), .ref (u20 2), .ref (u20 3)])), (u20 1, .inl (cy 1, 12, .inl (i_X8_0.2.1))), (u20 2, .inl (cy 1, 12, .inl (i_X8_0.2.2.1))), (u20 3, .inl (cy 1, 12, .inl (i_X8_0.2.2.2))), (q28, .inl (cy 1, 5, .inl (fun _ => 0))), (q35, .inl (cy 1, 5, .inl (fun _ => 0))), (q42, .inl (cy 1, 5, .inl (fun _ => 0))), (q49, .inl (cy 1, 5, .inl (fun _ => 0)))] := hD
  refine lv_aload_n hx hb dX9_init_54 rfl (lv_at hl 0 rfl) ?_
  refine lv_iconst (v := (5 : Int32)) hx hb dX9_init_55 (by decide) ?_
  refine nw_i hx hb lk15 hK hP hD hS hA 5 (by decide) (by decide) (by decide) (Nat.le_of_ble_eq_true rfl) (Nat.le_of_ble_eq_true rfl) (cells' := 14) (slots' := 151) ⟨rfl, rfl⟩ dX9_init_56 (fun q56 H hP hD hS => ?_)
  have hP : va_P (dC, dI) vwCl [(h0, .inr (7, [.int 0, .int 0, .ref (u9 0), .ref (u20 0), .ref q28, .ref q35, .ref q42, .ref q49, .null])), (u9 0, .inr (2, [.int (i_X4_0.1), .int (i_X4_0.2.1), .ref (u9 1), .ref (u9 2), .ref (u9 3), .ref (u9 4)])), (u9 1, .inl (cy 1, 10, .inl (i_X4_0.2.2.1))), (u9 2, .inl (cy 1, 10, .inl (i_X4_0.2.2.2.1))), (u9 3, .inl (cy 1, 10, .inl (i_X4_0.2.2.2.2.1))), (u9 4, .inl (cy 1, 50, .inl (i_X4_0.2.2.2.2.2))), (u20 0, .inr (6, [.int (i_X8_0.1), .ref (u20 1), .ref (u20 2), .ref (u20 3)])), (u20 1, .inl (cy 1, 12, .inl (i_X8_0.2.1))), (u20 2, .inl (cy 1, 12, .inl (i_X8_0.2.2.1))), (u20 3, .inl (cy 1, 12, .inl (i_X8_0.2.2.2))), (q28, .inl (cy 1, 5, .inl (fun _ => 0))), (q35, .inl (cy 1, 5, .inl (fun _ => 0))), (q42, .inl (cy 1, 5, .inl (fun _ => 0))), (q49, .inl (cy 1, 5, .inl (fun _ => 0))), (q56, .inl (cy 1, 5, .inl (fun _ => 0)))] H := hP
  have hD : va_D A [(h0, .inr (7, [.int 0, .int 0, .ref (u9 0), .ref (u20 0), .ref q28, .ref q35, .ref q42, .ref q49, .null])), (u9 0, .inr (2, [.int (i_X4_0.1), .int (i_X4_0.2.1), .ref (u9 1), .ref (u9 2), .ref (u9 3), .ref (u9 4)])), (u9 1, .inl (cy 1, 10, .inl (i_X4_0.2.2.1))), (u9 2, .inl (cy 1, 10, .inl (i_X4_0.2.2.2.1))), (u9 3, .inl (cy 1, 10, .inl (i_X4_0.2.2.2.2.1))), (u9 4, .inl (cy 1, 50, .inl (i_X4_0.2.2.2.2.2))), (u20 0, .inr (6, [.int (i_X8_0.1), .ref (u20 1), .ref (u20 2), .ref (u20 3)])), (u20 1, .inl (cy 1, 12, .inl (i_X8_0.2.1))), (u20 2, .inl (cy 1, 12, .inl (i_X8_0.2.2.1))), (u20 3, .inl (cy 1, 12, .inl (i_X8_0.2.2.2))), (q28, .inl (cy 1, 5, .inl (fun _ => 0))), (q35, .inl (cy 1, 5, .inl (fun _ => 0))), (q42, .inl (cy 1, 5, .inl (fun _ => 0))), (q49, .inl (cy 1, 5, .inl (fun _ => 0))), (q56, .inl (cy 1, 5, .inl (fun _ => 0)))] := hD
  refine va_putF (D := (dC, dI)) (ci := 7) (v := .ref q56) (ty := .array (.int)) (C := RX9) (T := TX9) (N := 9) hx hb hts in_X9 tyX9 tyX9_ok nmX9 hown hK hP hD hS 0 rfl rfl 8 (by decide) lk20 (fun _ h9 => h9) rfl hin rfl (by decide +kernel) rfl rfl (Nat.le_of_ble_eq_true rfl) dX9_init_58 (fun H locs hP hD hS => ?_)
  have hP : va_P (dC, dI) vwCl [(h0, .inr (7, [.int 0, .int 0, .ref (u9 0), .ref (u20 0), .ref q28, .ref q35, .ref q42, .ref q49, .ref q56])), (u9 0, .inr (2, [.int (i_X4_0.1), .int (i_X4_0.2.1), .ref (u9 1), .ref (u9 2), .ref (u9 3), .ref (u9 4)])), (u9 1, .inl (cy 1, 10, .inl (i_X4_0.2.2.1))), (u9 2, .inl (cy 1, 10, .inl (i_X4_0.2.2.2.1))), (u9 3, .inl (cy 1, 10, .inl (i_X4_0.2.2.2.2.1))), (u9 4, .inl (cy 1, 50, .inl (i_X4_0.2.2.2.2.2))), (u20 0, .inr (6, [.int (i_X8_0.1), .ref (u20 1), .ref (u20 2), .ref (u20 3)])), (u20 1, .inl (cy 1, 12, .inl (i_X8_0.2.1))), (u20 2, .inl (cy 1, 12, .inl (i_X8_0.2.2.1))), (u20 3, .inl (cy 1, 12, .inl (i_X8_0.2.2.2))), (q28, .inl (cy 1, 5, .inl (fun _ => 0))), (q35, .inl (cy 1, 5, .inl (fun _ => 0))), (q42, .inl (cy 1, 5, .inl (fun _ => 0))), (q49, .inl (cy 1, 5, .inl (fun _ => 0))), (q56, .inl (cy 1, 5, .inl (fun _ => 0)))] H := hP
  have hD : va_D A [(h0, .inr (7, [.int 0, .int 0, .ref (u9 0), .ref (u20 0), .ref q28, .ref q35, .ref q42, .ref q49, .ref q56])), (u9 0, .inr (2, [.int (i_X4_0.1), .int (i_X4_0.2.1), .ref (u9 1), .ref (u9 2), .ref (u9 3), .ref (u9 4)])), (u9 1, .inl (cy 1, 10, .inl (i_X4_0.2.2.1))), (u9 2, .inl (cy 1, 10, .inl (i_X4_0.2.2.2.1))), (u9 3, .inl (cy 1, 10, .inl (i_X4_0.2.2.2.2.1))), (u9 4, .inl (cy 1, 50, .inl (i_X4_0.2.2.2.2.2))), (u20 0, .inr (6, [.int (i_X8_0.1), .ref (u20 1), .ref (u20 2), .ref (u20 3)])), (u20 1, .inl (cy 1, 12, .inl (i_X8_0.2.1))), (u20 2, .inl (cy 1, 12, .inl (i_X8_0.2.2.1))), (u20 3, .inl (cy 1, 12, .inl (i_X8_0.2.2.2))), (q28, .inl (cy 1, 5, .inl (fun _ => 0))), (q35, .inl (cy 1, 5, .inl (fun _ => 0))), (q42, .inl (cy 1, 5, .inl (fun _ => 0))), (q49, .inl (cy 1, 5, .inl (fun _ => 0))), (q56, .inl (cy 1, 5, .inl (fun _ => 0)))] := hD
  have hP9 := hP.sub (ws' := wi_X9 cy (fun k => [h0, u9 0, u9 1, u9 2, u9 3, u9 4, u20 0, u20 1, u20 2, u20 3, q28, q35, q42, q49, q56].getD k 0)) [0, 1, 2, 3, 4, 5, 6, 7, 8, 9, 10, 11, 12, 13, 14] rfl
  have hD9 := hD.sub (ws' := wi_X9 cy (fun k => [h0, u9 0, u9 1, u9 2, u9 3, u9 4, u20 0, u20 1, u20 2, u20 3, q28, q35, q42, q49, q56].getD k 0)) [0, 1, 2, 3, 4, 5, 6, 7, 8, 9, 10, 11, 12, 13, 14] (by decide) rfl
  exact W.vret hx hb hr (fun t ht hW => by rw [hqq]; exact ⟨⟨(fun k => [h0, u9 0, u9 1, u9 2, u9 3, u9 4, u20 0, u20 1, u20 2, u20 3, q28, q35, q42, q49, q56].getD k 0), rfl, rfl, by rw [ht]; exact hP9, va_K.moved hW.alike hK, hD9⟩, hS.F ht⟩) hS.2.2 dX9_init_61
