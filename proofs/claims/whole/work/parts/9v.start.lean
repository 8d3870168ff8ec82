/-! the law from its entry -/
theorem ins_X1 : ∀ w ∈ wsX10, w ∈ lw_tbl := by decide +kernel
theorem ins_X3 : ∀ w ∈ wsX30, w ∈ lw_tbl := by decide +kernel
theorem ins_X4 : ∀ w ∈ wsX40, w ∈ lw_tbl := by decide +kernel
theorem ins_X5 : ∀ w ∈ wsX50, w ∈ lw_tbl := by decide +kernel
theorem ins_X6 : ∀ w ∈ wsX60, w ∈ lw_tbl := by decide +kernel
theorem ins_X7 : ∀ w ∈ wsX70, w ∈ lw_tbl := by decide +kernel
theorem ins_X8 : ∀ w ∈ wsX80, w ∈ lw_tbl := by decide +kernel
theorem ins_X9 : ∀ w ∈ wsX90, w ∈ lw_tbl := by decide +kernel
theorem ins_X10 : ∀ w ∈ wsX100, w ∈ lw_tbl := by decide +kernel
theorem ins_X11 : ∀ w ∈ wsX110, w ∈ lw_tbl := by decide +kernel
theorem ins_X12 : ∀ w ∈ wsX120, w ∈ lw_tbl := by decide +kernel
theorem ins_X13 : ∀ w ∈ wsX130, w ∈ lw_tbl := by decide +kernel
theorem ins_lX12 : ∀ w ∈ wsX120, w ∈ wsL_law := by decide +kernel
theorem ins_lX13 : ∀ w ∈ wsX130, w ∈ wsL_law := by decide +kernel
theorem k_start {args : Array Value} {s : State} (hts : ∀ w ∈ lw_tbl, w.before args s = true) : ∃ (dC : Nat → ClassId) (dI : Nat → Nat → Nat) (cy : Nat → ClassId), va_K (dC, dI) vwCl (tyA cy) s := by
  obtain ⟨c0, i0, h0⟩ := u_known (C := RX1) (T := TX1) (N := 3) (n := 3) hts ins_X1 (hts (.instantiable RX1 3) (by decide +kernel))
  obtain ⟨c1, i1, h1⟩ := u_known (C := RX3) (T := TX3) (N := 6) (n := 6) hts ins_X3 (hts (.instantiable RX3 6) (by decide +kernel))
  obtain ⟨c2, i2, h2⟩ := u_known (C := RX4) (T := TX4) (N := 6) (n := 6) hts ins_X4 (hts (.instantiable RX4 6) (by decide +kernel))
  obtain ⟨c3, i3, h3⟩ := u_known (C := RX5) (T := TX5) (N := 7) (n := 7) hts ins_X5 (hts (.instantiable RX5 7) (by decide +kernel))
  obtain ⟨c4, i4, h4⟩ := u_known (C := RX6) (T := TX6) (N := 2) (n := 2) hts ins_X6 (hts (.instantiable RX6 2) (by decide +kernel))
  obtain ⟨c5, i5, h5⟩ := u_known (C := RX7) (T := TX7) (N := 10) (n := 10) hts ins_X7 (hts (.instantiable RX7 10) (by decide +kernel))
  obtain ⟨c6, i6, h6⟩ := u_known (C := RX8) (T := TX8) (N := 4) (n := 4) hts ins_X8 (hts (.instantiable RX8 4) (by decide +kernel))
  obtain ⟨c7, i7, h7⟩ := u_known (C := RX9) (T := TX9) (N := 9) (n := 9) hts ins_X9 (hts (.instantiable RX9 9) (by decide +kernel))
  obtain ⟨c8, i8, h8⟩ := u_known (C := RX10) (T := TX10) (N := 3) (n := 3) hts ins_X10 (hts (.instantiable RX10 3) (by decide +kernel))
  obtain ⟨c9, i9, h9⟩ := u_known (C := RX11) (T := TX11) (N := 2) (n := 2) hts ins_X11 (hts (.instantiable RX11 2) (by decide +kernel))
  obtain ⟨c10, i10, h10⟩ := u_known (C := RX12) (T := TX12) (N := 17) (n := 17) hts ins_X12 (hts (.instantiable RX12 17) (by decide +kernel))
  obtain ⟨c11, i11, h11⟩ := u_known (C := RX13) (T := TX13) (N := 64) (n := 64) hts ins_X13 (hts (.instantiable RX13 64) (by decide +kernel))
  obtain ⟨a0, k0, p0, x0, y0, w0⟩ := Cond.arrayClass_spec (type := .byte) (hts (.arrayClass .byte) (by decide +kernel))
  obtain ⟨a1, k1, p1, x1, y1, w1⟩ := Cond.arrayClass_spec (type := .int) (hts (.arrayClass .int) (by decide +kernel))
  obtain ⟨a2, k2, p2, x2, y2, w2⟩ := Cond.arrayClass_spec (type := .long) (hts (.arrayClass .long) (by decide +kernel))
  obtain ⟨p3, a3, k3, -, y3, w3, x3⟩ := Cond.arrayOver_specA (t := .int) (hts (.arrayOver (.array .int)) (by decide +kernel))
  obtain ⟨p4, a4, k4, -, y4, w4, x4⟩ := Cond.arrayOver_specA (t := .long) (hts (.arrayOver (.array .long)) (by decide +kernel))
  refine ⟨fun k => [c0, c1, c2, c3, c4, c5, c6, c7, c8, c9, c10, c11].getD k c0, fun k => [i0, i1, i2, i3, i4, i5, i6, i7, i8, i9, i10, i11].getD k i0, fun k => [a0, a1, a2, a3, a4].getD k a0, fun k q hq => ?_, fun k q hq => ?_⟩
  · match k, hq with
    | 0, hq => cases hq; exact h0
    | 1, hq => cases hq; exact h1
    | 2, hq => cases hq; exact h2
    | 3, hq => cases hq; exact h3
    | 4, hq => cases hq; exact h4
    | 5, hq => cases hq; exact h5
    | 6, hq => cases hq; exact h6
    | 7, hq => cases hq; exact h7
    | 8, hq => cases hq; exact h8
    | 9, hq => cases hq; exact h9
    | 10, hq => cases hq; exact h10
    | 11, hq => cases hq; exact h11
    | k + 12, hq => simp [vwCl] at hq
  · match k, hq with
    | 0, hq => cases hq; exact ⟨fun n z => ⟨fun k h => (by cases h), k0, y0, p0, w0⟩, x0⟩
    | 1, hq => cases hq; exact ⟨fun n z => ⟨fun k h => (by cases h), k1, y1, p1, w1⟩, x1⟩
    | 2, hq => cases hq; exact ⟨fun n z => ⟨fun k h => (by cases h), k2, y2, p2, w2⟩, x2⟩
    | 3, hq => cases hq; exact ⟨fun n z => ⟨fun k h => (by cases h), k3, y3, p3, w3⟩, x3⟩
    | 4, hq => cases hq; exact ⟨fun n z => ⟨fun k h => (by cases h), k4, y4, p4, w4⟩, x4⟩
    | k + 5, hq => simp [tyA] at hq

set_option maxHeartbeats 4000000 in
set_option maxRecDepth 100000 in
/-- THE LAW, from its entry -/
theorem whole_start {p : Program} {e : Env} {s : State} {m : MethodId} {below : List Frame} {meth : Method} {c : Code} (l : Launch) (hl9 : l.stackTraces = false) {b L : Nat} {xs : Nat → Int32} (hL : L ≤ 3072) (C0 : lw_At p s m meth c b L xs) : W p l e room_1 s m #[Value.ref b] below meth c s.heap [] 0 0 (lw_Z below #[Value.ref b] s) (entryFrame m ([Value.ref b] : List Value).toArray 7) := by
  obtain ⟨hx, hb, hr, hml, hown, hts0, hXs, hbl, hlocks, hgv⟩ := id C0
  have hb : c.code = cL_law := hb
  have hown : s.vm.findClass RL = some m.cls := hown
  have hts : ∀ w ∈ wsL_law, w.before #[Value.ref b] s = true := fun w h => hts0 w (wsL_law_in w h)
  have hs := flat_of_before _ hgv
  have hA : ∀ q : Nat, s.heap.size ≤ q → lA s q := fun _ h => h
  obtain ⟨z, hSx⟩ := sx_start hs hts0
  obtain ⟨dC, dI, cy, hK⟩ := k_start hts0
  have hN : va_Nc "java/lang/IllegalArgumentException" "java/util/NoSuchElementException" s := va_Nc.of (hs (.not (.castable "java/lang/IllegalArgumentException" "java/util/NoSuchElementException")) (by decide +kernel))
  have hOi : va_AOA .int s := va_AOA.of (hts0 (.arrayOver (.array .int)) (by decide +kernel))
  have hOj : va_AOA .long s := va_AOA.of (hts0 (.arrayOver (.array .long)) (by decide +kernel))
  have hS : va_S (lA s) s.heap s.heap [] := va_S.rf
  have hP : va_P (dC, dI) vwCl [] s.heap := fun k q h => by simp at h
  have hD : va_D (lA s) [] := ⟨fun i j p q h => by simp at h, fun k q h => by simp at h⟩
  have hl := lv_entry ([.ref b]) (n := 7) (Nat.le_of_ble_eq_true rfl)
  rw [lg_entry_eq]
  generalize (lg_sl ([.ref b]) ++ List.replicate (7 - (lg_sl ([.ref b])).length) Slot.unset).toArray = ls at hl ⊢
  have hl : lv_has ls 7 [(0, .ref b)] := hl
  refine va_new (ci := 10) (fs := [.null, .int 0, .int 0, .int 0, .int 0, .int 0, .null, .null, .null, .int 0, .null, .null, .null, .null, .null, .null, .null]) (C := RX12) (T := TX12) (N := 17) hx hb hts ins_lX12 tyX12 tyX12_ok hown (hts (.classLink RL 8 RX12) (by decide +kernel)) (hts (.instantiable RX12 17) (by decide +kernel)) (hts (.initialized RX12) (by decide +kernel)) hK hP hD hS hA rfl (fun j hj => by rcases (show j = 0 ∨ j = 1 ∨ j = 2 ∨ j = 3 ∨ j = 4 ∨ j = 5 ∨ j = 6 ∨ j = 7 ∨ j = 8 ∨ j = 9 ∨ j = 10 ∨ j = 11 ∨ j = 12 ∨ j = 13 ∨ j = 14 ∨ j = 15 ∨ j = 16 by omega) with rfl | rfl | rfl | rfl | rfl | rfl | rfl | rfl | rfl | rfl | rfl | rfl | rfl | rfl | rfl | rfl | rfl <;> rfl) (Nat.le_of_ble_eq_true rfl) (Nat.le_of_ble_eq_true rfl) dL_law_0 (fun q0 H hP hD hS => ?_)
  refine W.widen (k := 1) (n := 17) (by decide) (by decide) ?_
  have hP : va_P (dC, dI) vwCl [(q0, .inr (10, [.null, .int 0, .int 0, .int 0, .int 0, .int 0, .null, .null, .null, .int 0, .null, .null, .null, .null, .null, .null, .null]))] H := hP
  have hD : va_D (lA s) [(q0, .inr (10, [.null, .int 0, .int 0, .int 0, .int 0, .int 0, .null, .null, .null, .int 0, .null, .null, .null, .null, .null, .null, .null]))] := hD
  refine lv_dup hx hb dL_law_3 rfl ?_
  have hFc := va_free (wc := [(q0, .inr (10, [.null, .int 0, .int 0, .int 0, .int 0, .int 0, .null, .null, .null, .int 0, .null, .null, .null, .null, .null, .null, .null]))]) hD hS hA [0] rfl
  refine va_callv (va_runI (As := []) (rest := [.ref q0]) ⟨hx, hb, hml, hown, hts⟩ (c_X12_init l dC dI cy z q0 H.size) (cwI 0 hts gL_law_X12_init rfl rfl rfl (hts (.initialized RX12) (by decide +kernel)) (hts (.methodLink RL 75 yX12_init) (by decide +kernel)) (hts (.instanceMethod yX12_init) (by decide +kernel)) rfl (by decide +kernel) ⟨Nat.le_of_ble_eq_true rfl, Nat.le_of_ble_eq_true rfl⟩) ⟨cl_blindSI, cl_preSI hK hP hD hS hA hSx hOi hOj [0] rfl rfl⟩ rfl rfl hl.1 rfl (lv_room (Nat.le_of_ble_eq_true rfl)) dL_law_4 ⟨Nat.le_of_ble_eq_true rfl, Nat.le_of_ble_eq_true rfl⟩) hS (fun q _ h => hFc q h) hFc (fun u0 t H1 locs ht hvm hw hB hz1 hk1 hS => ?_)
  obtain ⟨hP1, hK1, hD1⟩ := hB
  rw [ht] at hP1
  obtain ⟨hPn, hDn⟩ := va_join (wr := []) (w1 := wi_X12 cy z u0) hP hD [0] [] rfl rfl (by decide) (by decide) hk1 hFc hP1 hD1
  generalize H1 = H at hPn hS ⊢
  refine W.widen (k := 82) (n := 1965) (by decide) (by decide) ?_
  subst hw
  have hP : va_P (dC, dI) vwCl (wi_X12 cy z u0) H := hPn
  have hD : va_D (lA s) (wi_X12 cy z u0) := hDn
  refine lv_astore_n (lv' := [(1, .ref (u0 0)), (0, .ref b)]) hx hb dL_law_7 rfl hl (by decide) rfl (fun ls hl => ?_)
  refine va_new (ci := 11) (fs := [.int 0, .int 0, .int 0, .int 0, .null, .null, .null, .null, .null, .null, .null, .null, .null, .null, .int 0, .int 0, .int 0, .null, .int 0, .int 0, .int 0, .int 0, .int 0, .int 0, .long 0, .null, .int 0, .int 0, .int 0, .int 0, .int 0, .null, .null, .null, .null, .null, .null, .int 0, .null, .null, .null, .null, .null, .null, .null, .null, .null, .int 0, .null, .null, .null, .null, .int 0, .int 0, .int 0, .null, .null, .null, .null, .null, .null, .null, .null, .null]) (C := RX13) (T := TX13) (N := 64) hx hb hts ins_lX13 tyX13 tyX13_ok hown (hts (.classLink RL 76 RX13) (by decide +kernel)) (hts (.instantiable RX13 64) (by decide +kernel)) (hts (.initialized RX13) (by decide +kernel)) hK hP hD hS hA rfl (fun j hj => by rcases (show j = 0 ∨ j = 1 ∨ j = 2 ∨ j = 3 ∨ j = 4 ∨ j = 5 ∨ j = 6 ∨ j = 7 ∨ j = 8 ∨ j = 9 ∨ j = 10 ∨ j = 11 ∨ j = 12 ∨ j = 13 ∨ j = 14 ∨ j = 15 ∨ j = 16 ∨ j = 17 ∨ j = 18 ∨ j = 19 ∨ j = 20 ∨ j = 21 ∨ j = 22 ∨ j = 23 ∨ j = 24 ∨ j = 25 ∨ j = 26 ∨ j = 27 ∨ j = 28 ∨ j = 29 ∨ j = 30 ∨ j = 31 ∨ j = 32 ∨ j = 33 ∨ j = 34 ∨ j = 35 ∨ j = 36 ∨ j = 37 ∨ j = 38 ∨ j = 39 ∨ j = 40 ∨ j = 41 ∨ j = 42 ∨ j = 43 ∨ j = 44 ∨ j = 45 ∨ j = 46 ∨ j = 47 ∨ j = 48 ∨ j = 49 ∨ j = 50 ∨ j = 51 ∨ j = 52 ∨ j = 53 ∨ j = 54 ∨ j = 55 ∨ j = 56 ∨ j = 57 ∨ j = 58 ∨ j = 59 ∨ j = 60 ∨ j = 61 ∨ j = 62 ∨ j = 63 by omega) with rfl | rfl | rfl | rfl | rfl | rfl | rfl | rfl | rfl | rfl | rfl | rfl | rfl | rfl | rfl | rfl | rfl | rfl | rfl | rfl | rfl | rfl | rfl | rfl | rfl | rfl | rfl | rfl | rfl | rfl | rfl | rfl | rfl | rfl | rfl | rfl | rfl | rfl | rfl | rfl | rfl | rfl | rfl | rfl | rfl | rfl | rfl | rfl | rfl | rfl | rfl | rfl | rfl | rfl | rfl | rfl | rfl | rfl | rfl | rfl | rfl | rfl | rfl | rfl <;> rfl) (Nat.le_of_ble_eq_true rfl) (Nat.le_of_ble_eq_true rfl) dL_law_8 (fun q1 H hP hD hS => ?_)
  refine W.widen (k := 83) (n := 2029) (by decide) (by decide) ?_
  refine lv_dup hx hb dL_law_11 rfl ?_
  have hFc := va_free (wc := [(q1, .inr (11, [.int 0, .int 0, .int 0, .int 0, .null, .null, .null, .null, .null, .null, .null, .null, .null, .null, .int 0, .int 0, .int 0, .null, .int 0, .int 0, .int 0, .int 0, .int 0, .int 0, .long 0, .null, .int 0, .int 0, .int 0, .int 0, .int 0, .null, .null, .null, .null, .null, .null, .int 0, .null, .null, .null, .null, .null, .null, .null, .null, .null, .int 0, .null, .null, .null, .null, .int 0, .int 0, .int 0, .null, .null, .null, .null, .null, .null, .null, .null, .null]))]) hD hS hA [82] rfl
  refine va_callv (va_runI (As := []) (rest := [.ref q1]) ⟨hx, hb, hml, hown, hts⟩ (c_X13_init l dC dI cy q1 H.size) (cwI 0 hts gL_law_X13_init rfl rfl rfl (hts (.initialized RX13) (by decide +kernel)) (hts (.methodLink RL 78 yX13_init) (by decide +kernel)) (hts (.instanceMethod yX13_init) (by decide +kernel)) rfl (by decide +kernel) ⟨Nat.le_of_ble_eq_true rfl, Nat.le_of_ble_eq_true rfl⟩) ⟨cl_blind, cl_pre hK hP hD [82] rfl rfl⟩ rfl rfl hl.1 rfl (lv_room (Nat.le_of_ble_eq_true rfl)) dL_law_12 ⟨Nat.le_of_ble_eq_true rfl, Nat.le_of_ble_eq_true rfl⟩) hS (fun q _ h => hFc q h) hFc (fun u1 t H1 locs ht hvm hw hB hz1 hk1 hS => ?_)
  obtain ⟨hP1, hK1, hD1⟩ := hB
  rw [ht] at hP1
  obtain ⟨hPn, hDn⟩ := va_join (wr := wi_X12 cy z u0) (w1 := wi_X13 cy u1) hP hD [82] [0, 1, 2, 3, 4, 5, 6, 7, 8, 9, 10, 11, 12, 13, 14, 15, 16, 17, 18, 19, 20, 21, 22, 23, 24, 25, 26, 27, 28, 29, 30, 31, 32, 33, 34, 35, 36, 37, 38, 39, 40, 41, 42, 43, 44, 45, 46, 47, 48, 49, 50, 51, 52, 53, 54, 55, 56, 57, 58, 59, 60, 61, 62, 63, 64, 65, 66, 67, 68, 69, 70, 71, 72, 73, 74, 75, 76, 77, 78, 79, 80, 81] rfl rfl (by decide) (by decide +kernel) hk1 hFc hP1 hD1
  generalize H1 = H at hPn hS ⊢
  refine W.widen (k := 123) (n := 5280) (by decide) (by decide) ?_
  subst hw
  have hP : va_P (dC, dI) vwCl (wi_X12 cy z u0 ++ wi_X13 cy u1) H := hPn
  have hD : va_D (lA s) (wi_X12 cy z u0 ++ wi_X13 cy u1) := hDn
  refine lv_astore_n (lv' := [(2, .ref (u1 0)), (1, .ref (u0 0)), (0, .ref b)]) hx hb dL_law_15 rfl hl (by decide) rfl (fun ls hl => ?_)
  refine lv_iconst (v := (1 : Int32)) hx hb dL_law_16 (by decide) ?_
  refine nw_j hx hb (hts0 (.arrayClass .long) (by decide +kernel)) hK hP hD hS hA 1 (by decide) (by decide) (by decide) (Nat.le_of_ble_eq_true rfl) (Nat.le_of_ble_eq_true rfl) (cells' := 124) (slots' := 5281) ⟨rfl, rfl⟩ dL_law_17 (fun q2 H hP hD hS => ?_)
  refine lv_astore_n (lv' := [(3, .ref q2), (2, .ref (u1 0)), (1, .ref (u0 0)), (0, .ref b)]) hx hb dL_law_19 rfl hl (by decide) rfl (fun ls hl => ?_)
  refine lv_iconst (v := (0 : Int32)) hx hb dL_law_20 (by decide) ?_
  refine lv_istore (lv' := [(4, .int (0 : Int32)), (3, .ref q2), (2, .ref (u1 0)), (1, .ref (u0 0)), (0, .ref b)]) hx hb dL_law_21 hl (by decide) rfl (fun ls hl => ?_)
  have E : LE p l s m c dC dI cy z b L xs := ⟨hx, hb, hml, hown, hts, hXs, hbl, hK, hSx, hN, hl9⟩
  exact law_loop E hL hr hlocks u0 u1 q2 512 0 124 5281 (by omega) (Nat.zero_le _) (by decide) (by decide) i_X12_0 i_X12_1 i_X12_2 i_X12_3 i_X12_4 i_X12_5 i_X12_6 i_X12_7 i_X12_8 i_X12_9 i_X12_10 i_X12_11 i_X12_12 i_X12_13 i_X12_14 i_X12_15 i_X12_16 i_X12_17 i_X13_0 i_X13_1 i_X13_2 i_X13_3 i_X13_4 i_X13_5 i_X13_6 i_X13_7 i_X13_8 i_X13_9 i_X13_10 i_X13_11 i_X13_12 i_X13_13 i_X13_14 i_X13_15 i_X13_16 (fun _ => 0) H _ ls inv0 hP hD hS (lv_sub hl [4, 3, 2, 1, 0] rfl)

