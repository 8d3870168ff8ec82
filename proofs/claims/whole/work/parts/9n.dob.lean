-- census
theorem sN_le2 {f g : Nat → Nat} : ∀ O, (∀ i, i < O → f i ≤ g i) → sN f O ≤ sN g O := by
  intro O
  induction O with
  | zero => intro _; exact Nat.le_refl _
  | succ O ih => intro h; have := ih (fun i hi => h i (by omega)); have := h O (by omega); simp only [sN]; omega
theorem sN_mono (f : Nat → Nat) {a b : Nat} (h : a ≤ b) : sN f a ≤ sN f b := by
  obtain ⟨k, rfl⟩ : ∃ k, b = a + k := ⟨b - a, by omega⟩
  induction k with
  | zero => exact Nat.le_refl _
  | succ k ih => exact Nat.le_trans (ih (by omega)) (Nat.le_add_right _ _)
theorem c_census_loop {O T : Nat} {H : Nat → Nat} (hO : O ≤ 5) (hH : sN (fun i => if i < O then H i else 0) 5 ≤ T) : ∀ (k j q : Nat) (gv : TV), j + k = 5 → k < q → gv.1 = nI O → gv.2.1 = nI (T - sN (fun i => if i < O then H i else 0) j) → (∀ i, j ≤ i → i < O → gv.2.2.2.2.1 i = nI (H i)) → (∀ i, i < j → gv.2.2.2.2.1 i = 0 ∧ gv.2.2.2.2.2.1 i = 0 ∧ gv.2.2.2.2.2.2 i = 0) → ∃ x y z, p_X9_takeCensus_10 q gv (nI j) = some (1, (gv.1, nI (T - sN (fun i => if i < O then H i else 0) 5), gv.2.2.1, gv.2.2.2.1, x, y, z)) ∧ ∀ i, i < 5 → x i = 0 ∧ y i = 0 ∧ z i = 0 := by
  intro k
  induction k with
  | zero =>
    intro j q gv hj hq e1 e2 e3 e4
    obtain ⟨q, rfl⟩ : ∃ a, q = a + 1 := ⟨q - 1, by omega⟩
    have hj : j = 5 := by omega
    subst hj
    refine ⟨gv.2.2.2.2.1, gv.2.2.2.2.2.1, gv.2.2.2.2.2.2, ?_, e4⟩
    unfold p_X9_takeCensus_10
    rw [if_pos (le_t (c := 5) (Nat.le_refl _) (by decide)), ← e2]
  | succ k ih =>
    intro j q gv hj hq e1 e2 e3 e4
    obtain ⟨q, rfl⟩ : ∃ a, q = a + 1 := ⟨q - 1, by omega⟩
    have hj5 : j < 5 := by omega
    have hmono := sN_mono (fun i => if i < O then H i else 0) (show j + 1 ≤ 5 by omega)
    have hs : sN (fun i => if i < O then H i else 0) (j + 1) = sN (fun i => if i < O then H i else 0) j + (if j < O then H j else 0) := rfl
    have hhid : p_X9_hiddenBy gv (nI j) = some (nI (if j < O then H j else 0)) := by
      unfold p_X9_hiddenBy p_X9_hasOwner
      rw [if_neg (nI_pos (by omega)), if_neg (le_f (c := 5) hj5 (by decide)), e1]
      by_cases c : j < O
      · rw [if_neg (nI_ge c (by omega)), some_bind', if_neg n10, if_pos (ix_nI hj5 (by decide)), cl_nI (by omega), e3 j (Nat.le_refl _) c, if_pos c]
      · rw [if_pos (nI_le (by omega) (by omega)), some_bind', if_pos rfl, if_neg c]; rfl
    obtain ⟨x, y, z, a1, a2⟩ := ih (j + 1) q (gv.1, nI (T - sN (fun i => if i < O then H i else 0) (j + 1)), gv.2.2.1, gv.2.2.2.1, upd gv.2.2.2.2.1 j 0, upd gv.2.2.2.2.2.1 j 0, upd gv.2.2.2.2.2.2 j 0) (by omega) (by omega) e1 rfl (fun i h1 h2 => (pk_un (by omega)).trans (e3 i (by omega) h2)) (fun i hi => by
      by_cases e : i = j
      · subst e; exact ⟨pk_us, pk_us, pk_us⟩
      · have := e4 i (by omega); exact ⟨(pk_un e).trans this.1, (pk_un e).trans this.2.1, (pk_un e).trans this.2.2⟩)
    refine ⟨x, y, z, ?_, a2⟩
    unfold p_X9_takeCensus_10
    rw [if_neg (le_f (c := 5) hj5 (by decide)), hhid, some_bind', if_pos (ix_nI hj5 (by decide)), if_pos (ix_nI hj5 (by decide)), if_pos (ix_nI hj5 (by decide)), cl_nI (by omega), nI_1, e2, pk_sub (by omega), Nat.sub_sub]
    exact a1
theorem m_census_loop {gac : TAc} {gvm : TM} {V : MV} (h : VM gvm V) (h5 : vO V ≤ 5) {T : Nat} (hT : sN (vH V) (vO V) ≤ T) : ∀ (k j q : Nat), j + k = vO V → k < q → p_X13_does_249 gac q (gvm.1, gvm.2.1, nI (T - sN (vH V) j), gvm.2.2.2) (nI j) = ((p_X13_clears (gvm.1, gvm.2.1, nI (T - sN (vH V) (vO V)), gvm.2.2.2)).bind fun v2 => some (1, v2)) := by
  intro k
  induction k with
  | zero =>
    intro j q hj hq
    obtain ⟨q, rfl⟩ : ∃ a, q = a + 1 := ⟨q - 1, by omega⟩
    have hj : j = vO V := by omega
    subst hj
    unfold p_X13_does_249
    simp only []
    rw [h.1, if_pos (nI_le (Nat.le_refl _) (by omega))]
  | succ k ih =>
    intro j q hj hq
    obtain ⟨q, rfl⟩ : ∃ a, q = a + 1 := ⟨q - 1, by omega⟩
    have hi := ih (j + 1) q (by omega) (by omega)
    have hmono := sN_mono (vH V) (show j + 1 ≤ vO V by omega)
    have hs : sN (vH V) (j + 1) = sN (vH V) j + vH V j := rfl
    unfold p_X13_does_249
    simp only []
    rw [if_neg (by rw [h.1]; exact nI_ge (by omega) (by omega)), if_pos (ix_nI (by omega) (by decide)), cl_nI (by omega), (h.2.2.1 j (by omega)).2.2, pk_sub (by omega), Nat.sub_sub, nI_1]
    exact hi
theorem q_census {gv : TV} {gd : TD} {gvm : TM} {gac : TAc} {V : MV} {D : MD} (h : DS gv gd gvm V D) : QDo gv gd gvm ((p_X9_takeCensus gv).bind fun v4 => (if isZ v4.1 then some (v4.1, (v4.2, gd)) else none)) ((p_X13_all gvm).bind fun v38 => p_X13_does_249 gac fu (gvm.1, gvm.2.1, v38, gvm.2.2.2) 0) := by
  obtain ⟨h1, h2, h3, h4, h5, h6⟩ := h
  have o5 := h5.1
  have o40 := h5.2.2.1
  have hle : sN (vH V) (vO V) ≤ sN (vG V) (vO V) := sN_le2 _ (fun i hi => by have := (h5.2.2.2 i hi).2; omega)
  have hcut := sN_cut (vH V) (vO V) o5
  obtain ⟨x, y, z, a1, a2⟩ := c_census_loop (T := sN (vG V) (vO V)) (H := vH V) o5 (by rw [hcut]; exact hle) 5 0 fu (gv.1, nI (sN (vG V) (vO V)), gv.2.2) (by omega) (fu_lt (by decide)) h1.1 rfl (fun i _ hi => (h1.2.2 i hi).2.2.1) (fun i hi => by omega)
  have a1 : p_X9_takeCensus_10 fu (gv.1, nI (sN (vG V) (vO V)), gv.2.2) 0 = _ := a1
  have b1 := m_census_loop (gac := gac) h3 o5 hle (vO V) 0 fu (by omega) (fu_lt (by omega))
  have b1 : p_X13_does_249 gac fu (gvm.1, gvm.2.1, nI (sN (vG V) (vO V)), gvm.2.2.2) 0 = _ := b1
  obtain ⟨t, u, c1, c2, c3⟩ := m_clears (gvm.1, gvm.2.1, nI (sN (vG V) (vO V) - sN (vH V) (vO V)), gvm.2.2.2)
  unfold p_X9_takeCensus
  rw [c_allGoats h1 h5, some_bind', a1, some_bind', if_pos isZ1, m_all h3 h5, some_bind', b1, c1, some_bind', hcut]
  left
  refine ⟨(vO V, sN (vG V) (vO V) - sN (vH V) (vO V), vG V, vC V, (fun _ => 0), fun _ _ => 0), D, _, _, _, rfl, rfl, ⟨⟨h1.1, rfl, fun i hi => ?_⟩, h2, ⟨h3.1, rfl, fun i hi => ?_, fun i j hi hj => ?_⟩, h4, ⟨o5, ?_, o40, fun i hi => ⟨(h5.2.2.2 i hi).1, Nat.zero_le _⟩⟩, h6⟩, rfl, rfl, rfl⟩
  · have hi : i < vO V := hi
    have q := h1.2.2 i hi
    have z5 := a2 i (by omega)
    exact ⟨q.1, q.2.1, z5.1, z5.2.1, z5.2.2⟩
  · have hi : i < vO V := hi
    have q := h3.2.2.1 i hi
    exact ⟨q.1, q.2.1, c2 i (by omega)⟩
  · exact c3 _ (by omega)
  · show sN (vG V) (vO V) - sN (vH V) (vO V) ≤ 40; omega
-- rub
theorem clr1 : ∀ B, B < 1024 → ∀ f, f < 10 → B.testBit f = true → nI B &&& ((1 <<< (nI f &&& 31)) ^^^ (-1 : Int32)) = nI (B ^^^ 2 ^ f) := by decide +kernel
theorem q_rub {gv : TV} {gd : TD} {gvm : TM} {V : MV} {D : MD} (h : DS gv gd gvm V D) {a : Nat} (ha : a < 10) : QDo gv gd gvm ((p_X4_rub gd (nI a)).bind fun v => (if isZ v.1 then some (v.1, (gv, v.2)) else none)) (if ix (nI a) 10 then (if gvm.2.2.2.2.2.2.2.1 (nI a).toNatClampNeg = 0 then some (0, gvm) else (if ix (nI a) 10 then some (1, (gvm.1, gvm.2.1, gvm.2.2.1, gvm.2.2.2.1, gvm.2.2.2.2.1, gvm.2.2.2.2.2.1, gvm.2.2.2.2.2.2.1, upd gvm.2.2.2.2.2.2.2.1 (nI a).toNatClampNeg 0, gvm.2.2.2.2.2.2.2.2)) else none)) else none) := by
  obtain ⟨h1, h2, h3, h4, h5, h6⟩ := h
  unfold p_X4_rub
  have hix : ix (nI a) 10 := ix_nI ha (by decide)
  rw [c_has h2 h6.2.1 ha, some_bind', if_pos hix, if_pos hix, cl_nI (by omega), (h4.2 a ha).1]
  by_cases hh : dH D a = true
  · left
    rw [if_pos hh, if_neg n10, if_neg n10, some_bind', if_pos isZ1]
    have hB : ∀ d, (dB D ^^^ 2 ^ a).testBit d = (dH D d ^^ decide (d = a)) := by
      intro d
      rw [Nat.testBit_xor, Nat.testBit_two_pow]
      congr 1
      exact decide_eq_decide.2 eq_comm
    have hH : ∀ d, (dB D ^^^ 2 ^ a).testBit d = true → dH D d = true ∧ d ≠ a := by
      intro d e
      rw [hB] at e
      by_cases c : d = a
      · rw [c] at e
        have hh' : Nat.testBit (dB D) a = true := hh
        simp [hh'] at e
      · rw [decide_eq_false c] at e; exact ⟨by simpa using e, c⟩
    refine ⟨V, (dL D, dB D ^^^ 2 ^ a, dM D, dF D, dP D, dQ D), _, _, _, rfl, rfl, ⟨h1, ⟨h2.1, ?_, fun d hd e => h2.2.2 d hd (hH d e).1⟩, h3, ⟨h4.1, fun d hd => ⟨?_, fun e => (h4.2 d hd).2 (hH d e).1⟩⟩, h5, ⟨h6.1, Nat.xor_lt_two_pow (n := 10) h6.2.1 (Nat.pow_lt_pow_right (by decide) ha), fun d hd e => h6.2.2 d hd (hH d e).1⟩⟩, rfl, rfl, rfl⟩
    · show gd.2.1 &&& _ = nI (dB D ^^^ 2 ^ a)
      rw [h2.2.1, clr1 _ h6.2.1 a ha hh]
    · show upd gvm.2.2.2.2.2.2.2.1 a 0 d = if (dB D ^^^ 2 ^ a).testBit d then 1 else 0
      by_cases c : d = a
      · subst c
        rw [pk_us, if_neg (fun e => (hH d e).2 rfl)]
      · rw [pk_un c, (h4.2 d hd).1, hB, decide_eq_false c, Bool.xor_false]
  · right
    rw [if_neg hh, if_pos rfl, if_pos rfl]
    exact ⟨rfl, rfl⟩
-- write
theorem m_357 {gac : TAc} {j f m : Nat} {F : Nat → Nat} (hj : j < 120) (hf : f < 10) (hm : m ≤ 5) (hF : ∀ i, i < m → gac.2.2 (5 * j + i) = nI (F i)) : ∀ (k i q : Nat) (gvm : TM), i + k = m → k < q → gvm.2.2.2.2.2.2.2.2.2.2.1 f = nI m → (∀ e, e < i → gvm.2.2.2.2.2.2.2.2.2.2.2 (5 * f + e) = nI (F e)) → ∃ t, p_X13_does_357 gac q gvm (nI j) (nI f) (nI i) = some (1, (gvm.1, gvm.2.1, gvm.2.2.1, gvm.2.2.2.1, gvm.2.2.2.2.1, gvm.2.2.2.2.2.1, gvm.2.2.2.2.2.2.1, gvm.2.2.2.2.2.2.2.1, gvm.2.2.2.2.2.2.2.2.1, gvm.2.2.2.2.2.2.2.2.2.1, gvm.2.2.2.2.2.2.2.2.2.2.1, t)) ∧ (∀ e, e < m → t (5 * f + e) = nI (F e)) ∧ ∀ e, (e < 5 * f ∨ 5 * f + 5 ≤ e) → t e = gvm.2.2.2.2.2.2.2.2.2.2.2 e := by
  intro k
  induction k with
  | zero =>
    intro i q gvm hi hq e1 e2
    obtain ⟨q, rfl⟩ : ∃ a, q = a + 1 := ⟨q - 1, by omega⟩
    refine ⟨gvm.2.2.2.2.2.2.2.2.2.2.2, ?_, fun e he => e2 e (by omega), fun _ _ => rfl⟩
    unfold p_X13_does_357
    rw [if_pos (ix_nI hf (by decide)), cl_nI (by omega), e1, if_pos (nI_le (by omega) (by omega))]
  | succ k ih =>
    intro i q gvm hi hq e1 e2
    obtain ⟨q, rfl⟩ : ∃ a, q = a + 1 := ⟨q - 1, by omega⟩
    obtain ⟨t, a1, a2, a3⟩ := ih (i + 1) q (gvm.1, gvm.2.1, gvm.2.2.1, gvm.2.2.2.1, gvm.2.2.2.2.1, gvm.2.2.2.2.2.1, gvm.2.2.2.2.2.2.1, gvm.2.2.2.2.2.2.2.1, gvm.2.2.2.2.2.2.2.2.1, gvm.2.2.2.2.2.2.2.2.2.1, gvm.2.2.2.2.2.2.2.2.2.2.1, upd gvm.2.2.2.2.2.2.2.2.2.2.2 (5 * f + i) (nI (F i))) (by omega) (by omega) e1 (fun e he => by
      by_cases c : e = i
      · subst c; exact pk_us
      · exact (pk_un (by omega)).trans (e2 e (by omega)))
    refine ⟨t, ?_, a2, fun e he => (a3 e he).trans (pk_un (by omega))⟩
    unfold p_X13_does_357
    rw [if_pos (ix_nI hf (by decide)), cl_nI (by omega), e1, if_neg (nI_ge (by omega) (by omega)), fig_at', fig_at', if_pos (ix_nI (by omega) (by decide)), if_pos (ix_nI (by omega) (by decide)), cl_nI (by omega), cl_nI (by omega), hF i (by omega), nI_1]
    exact a1
theorem q_write {gtx gtt : TA} {C : Nat → Nat} {n q0 : Nat} {gv : TV} {gd : TD} {gvm : TM} {gac : TAc} {V : MV} {D : MD} {r : R5} {v4 : Int32} {j a b ml s0 : Nat} (ht : TX gtx gtt C n) (h : DS gv gd gvm V D) (hj : j < 120) (ha : a < vO V) (hb : b < vO V) (hab : a ≠ b) (hm1 : 1 ≤ ml) (hm5 : ml ≤ 5) (hsm : s0 + ml ≤ n) (hc : ∀ i, i < ml → isL (C (s0 + i)) = true ∨ isD (C (s0 + i)) = true) (hr1 : r.2.2.2.1 = nI ml) (hr2 : r.2.2.2.2 = nI s0) (hF : ∀ i, i < ml → gac.2.2 (5 * j + i) = nI (fg (C (s0 + i)))) (hv0 : fr D 10 0 = none → v4 = -1) (hv1 : ∀ f, fr D 10 0 = some f → v4 = nI f) : QDo gv gd gvm ((p_X4_chalk gd (rdC C n q0 r) gtx (nI a) (nI b)).bind fun v => (if isZ v.1 then some (v.1, (gv, v.2)) else none)) (if v4 = -1 then some (0, gvm) else (if ix v4 10 then p_X13_does_357 gac fu (gvm.1, gvm.2.1, gvm.2.2.1, gvm.2.2.2.1, gvm.2.2.2.2.1, gvm.2.2.2.2.2.1, gvm.2.2.2.2.2.2.1, upd gvm.2.2.2.2.2.2.2.1 v4.toNatClampNeg 1, upd gvm.2.2.2.2.2.2.2.2.1 v4.toNatClampNeg (nI a), upd gvm.2.2.2.2.2.2.2.2.2.1 v4.toNatClampNeg (nI b), upd gvm.2.2.2.2.2.2.2.2.2.2.1 v4.toNatClampNeg (nI ml), gvm.2.2.2.2.2.2.2.2.2.2.2) (nI j) v4 0 else none)) := by
  obtain ⟨h1, h2, h3, h4, h5, h6⟩ := h
  have hch := c_chalk (q := q0) (a := a) (b := b) ht h2 h6 hr1 hr2 hsm hc hm5
  cases hfr : fr D 10 0 with
  | none =>
    right
    rw [hch.1 hfr, if_pos (hv0 hfr)]
    exact ⟨rfl, rfl⟩
  | some f =>
    left
    have hf := fr_some _ _ _ hfr
    have hf10 : f < 10 := by omega
    obtain ⟨gd', c1, c2⟩ := hch.2 f hfr
    rw [c1, hv1 f hfr, if_neg (nI_ne (by omega)), if_pos (ix_nI hf10 (by decide)), cl_nI (by omega), some_bind', if_pos isZ1]
    obtain ⟨t, a1, a2, a3⟩ := m_357 (gac := gac) (j := j) (f := f) (m := ml) (F := fun i => fg (C (s0 + i))) hj hf10 hm5 hF ml 0 fu (gvm.1, gvm.2.1, gvm.2.2.1, gvm.2.2.2.1, gvm.2.2.2.2.1, gvm.2.2.2.2.2.1, gvm.2.2.2.2.2.2.1, upd gvm.2.2.2.2.2.2.2.1 f 1, upd gvm.2.2.2.2.2.2.2.2.1 f (nI a), upd gvm.2.2.2.2.2.2.2.2.2.1 f (nI b), upd gvm.2.2.2.2.2.2.2.2.2.2.1 f (nI ml), gvm.2.2.2.2.2.2.2.2.2.2.2) (by omega) (fu_lt (by omega)) pk_us (fun e he => by omega)
    have a1 : p_X13_does_357 gac fu (gvm.1, gvm.2.1, gvm.2.2.1, gvm.2.2.2.1, gvm.2.2.2.2.1, gvm.2.2.2.2.2.1, gvm.2.2.2.2.2.2.1, upd gvm.2.2.2.2.2.2.2.1 f 1, upd gvm.2.2.2.2.2.2.2.2.1 f (nI a), upd gvm.2.2.2.2.2.2.2.2.2.1 f (nI b), upd gvm.2.2.2.2.2.2.2.2.2.2.1 f (nI ml), gvm.2.2.2.2.2.2.2.2.2.2.2) (nI j) (nI f) 0 = _ := a1
    rw [a1]
    refine ⟨V, addD D f a b ml (fun i => if i < ml then fg (C (s0 + i)) else 0), _, _, _, rfl, rfl, ⟨h1, c2, h3, ⟨h4.1, fun d hd => ⟨?_, fun hh => ?_⟩⟩, h5, addD_O h6 hf10 hm1 hm5 (fun k hk => by rw [if_pos hk]; exact fg_b (hc k hk)) ha hb hab⟩, rfl, rfl, rfl⟩
    · show upd gvm.2.2.2.2.2.2.2.1 f 1 d = if dH (addD D f a b ml _) d then 1 else 0
      rw [addD_H]
      by_cases e : d = f
      · subst e; rw [pk_us, decide_eq_true rfl, Bool.or_true]; rfl
      · rw [pk_un e, (h4.2 d hd).1, decide_eq_false e, Bool.or_false]
    · rw [addD_H] at hh
      show upd gvm.2.2.2.2.2.2.2.2.1 f (nI a) d = nI (if d = f then a else dP D d) ∧ upd gvm.2.2.2.2.2.2.2.2.2.1 f (nI b) d = nI (if d = f then b else dQ D d) ∧ upd gvm.2.2.2.2.2.2.2.2.2.2.1 f (nI ml) d = nI (if d = f then ml else dM D d) ∧ ∀ k, k < (if d = f then ml else dM D d) → t (5 * d + k) = nI (if d = f then (if k < ml then fg (C (s0 + k)) else 0) else dF D d k)
      by_cases e : d = f
      · subst e
        rw [pk_us, pk_us, pk_us, if_pos rfl, if_pos rfl, if_pos rfl]
        refine ⟨rfl, rfl, rfl, fun k hk => ?_⟩
        rw [if_pos rfl, if_pos hk]; exact a2 k hk
      · rw [decide_eq_false e, Bool.or_false] at hh
        have q := (h4.2 d hd).2 hh
        have hm := (h6.2.2 d hd hh).2.1
        rw [pk_un e, pk_un e, pk_un e, if_neg e, if_neg e, if_neg e]
        refine ⟨q.1, q.2.1, q.2.2.1, fun k hk => ?_⟩
        rw [if_neg e, a3 _ (by omega)]; exact q.2.2.2 k hk
-- swap
theorem m_isSwap {O : Nat} {gvm : TM} {D : MD} (h : DM gvm D) (ho : OD O D) (hO : O ≤ 5) {d e : Nat} (hd : d < 10) (he : e < 10) : p_X13_isSwap gvm (nI d) (nI e) = some (if dH D d = true ∧ dH D e = true ∧ dP D d ≠ dQ D e ∧ dP D e ≠ dQ D d then 1 else 0) := by
  unfold p_X13_isSwap
  simp only [if_pos (ix_nI hd (show 10 < 2147483648 by decide)), if_pos (ix_nI he (show 10 < 2147483648 by decide)), cl_nI (show d < 2147483648 by omega), cl_nI (show e < 2147483648 by omega), (h.2 d hd).1, (h.2 e he).1]
  by_cases hhd : dH D d = true
  · rw [if_pos ((has1 _).2 hhd)]
    by_cases hhe : dH D e = true
    · have o1 := ho.2.2 d hd hhd
      have o2 := ho.2.2 e he hhe
      have m1 := (h.2 d hd).2 hhd
      have m2 := (h.2 e he).2 hhe
      rw [if_pos ((has1 _).2 hhe), m1.1, m1.2.1, m2.1, m2.2.1]
      by_cases c1 : dP D d = dQ D e
      · rw [if_pos (by rw [c1]), if_neg (fun c => c.2.2.1 c1)]
      · rw [if_neg (ne_f c1 (by omega) (by omega))]
        by_cases c2 : dP D e = dQ D d
        · rw [if_pos (by rw [c2]), if_neg (fun c => c.2.2.2 c2)]
        · rw [if_neg (ne_f c2 (by omega) (by omega)), if_pos ⟨hhd, hhe, c1, c2⟩]
    · rw [if_neg (fun c => hhe ((has1 _).1 c)), if_neg (fun c => hhe c.2.1)]
  · rw [if_neg (fun c => hhd ((has1 _).1 c)), if_neg (fun c => hhd c.1)]
theorem q_swap {gv : TV} {gd : TD} {gvm : TM} {V : MV} {D : MD} (h : DS gv gd gvm V D) {a b : Nat} (ha : a < 10) (hb : b < 10) (hab : a ≠ b) : QDo gv gd gvm ((p_X4_swapLenders gd (nI a) (nI b)).bind fun v => (if isZ v.1 then some (v.1, (gv, v.2)) else none)) ((p_X13_isSwap gvm (nI a) (nI b)).bind fun v51 => (if v51 = 0 then some (0, gvm) else (if ix (nI a) 10 then (if ix (nI b) 10 then some (1, (gvm.1, gvm.2.1, gvm.2.2.1, gvm.2.2.2.1, gvm.2.2.2.2.1, gvm.2.2.2.2.2.1, gvm.2.2.2.2.2.2.1, gvm.2.2.2.2.2.2.2.1, gvm.2.2.2.2.2.2.2.2.1, upd (upd gvm.2.2.2.2.2.2.2.2.2.1 (nI a).toNatClampNeg (gvm.2.2.2.2.2.2.2.2.2.1 (nI b).toNatClampNeg)) (nI b).toNatClampNeg (gvm.2.2.2.2.2.2.2.2.2.1 (nI a).toNatClampNeg), gvm.2.2.2.2.2.2.2.2.2.2)) else none) else none))) := by
  obtain ⟨h1, h2, h3, h4, h5, h6⟩ := h
  have o5 := h5.1
  have hia : ix (nI a) 10 := ix_nI ha (by decide)
  have hib : ix (nI b) 10 := ix_nI hb (by decide)
  rw [m_isSwap h4 h6 o5 ha hb, some_bind']
  unfold p_X4_swapLenders
  rw [c_has h2 h6.2.1 ha, some_bind', c_has h2 h6.2.1 hb, some_bind', cl_nI (show a < 2147483648 by omega), cl_nI (show b < 2147483648 by omega)]
  simp only [if_pos hia, if_pos hib]
  have hs0 : ¬ (dH D a = true ∧ dH D b = true ∧ dP D a ≠ dQ D b ∧ dP D b ≠ dQ D a) → (if dH D a = true ∧ dH D b = true ∧ dP D a ≠ dQ D b ∧ dP D b ≠ dQ D a then (1 : Int32) else 0) = 0 := fun c => if_neg c
  have hs1 : (dH D a = true ∧ dH D b = true ∧ dP D a ≠ dQ D b ∧ dP D b ≠ dQ D a) → (if dH D a = true ∧ dH D b = true ∧ dP D a ≠ dQ D b ∧ dP D b ≠ dQ D a then (1 : Int32) else 0) = 1 := fun c => if_pos c
  by_cases hha : dH D a = true
  · by_cases hhb : dH D b = true
    · have o1 := h6.2.2 a ha hha
      have o2 := h6.2.2 b hb hhb
      have c1 := h2.2.2 a ha hha
      have c2 := h2.2.2 b hb hhb
      have m1 := (h4.2 a ha).2 hha
      have m2 := (h4.2 b hb).2 hhb
      rw [if_pos hha, if_neg n10, if_pos hhb, if_neg n10, c1.1, c2.2.1, c2.1, c1.2.1]
      by_cases q1 : dP D a = dQ D b
      · right
        rw [if_pos (by rw [q1]), hs0 (fun c => c.2.2.1 q1), if_pos rfl]
        exact ⟨rfl, rfl⟩
      · rw [if_neg (ne_f q1 (by omega) (by omega))]
        by_cases q2 : dP D b = dQ D a
        · right
          rw [if_pos (by rw [q2]), hs0 (fun c => c.2.2.2 q2), if_pos rfl]
          exact ⟨rfl, rfl⟩
        · left
          rw [if_neg (ne_f q2 (by omega) (by omega)), hs1 ⟨hha, hhb, q1, q2⟩, if_neg n10, some_bind', if_pos isZ1, m1.2.1, m2.2.1]
          obtain ⟨Q, hQ⟩ : ∃ Q : Nat → Nat, Q = fun i => if i = b then dQ D a else if i = a then dQ D b else dQ D i := ⟨_, rfl⟩
          have Qa : Q a = dQ D b := by rw [hQ]; simp only [if_neg hab, if_pos]
          have Qb : Q b = dQ D a := by rw [hQ]; simp only [if_pos]
          have Qi : ∀ i, i ≠ a → i ≠ b → Q i = dQ D i := fun i hi hi2 => by rw [hQ]; simp only [if_neg hi, if_neg hi2]
          refine ⟨V, withQ D Q, _, _, _, rfl, rfl, ⟨h1, ⟨h2.1, h2.2.1, fun d hd hh => ?_⟩, h3, DM_to h4 (fun d hd hh => ?_), h5, OD_to h6 (fun d hd hh => ?_)⟩, rfl, rfl, rfl⟩
          · have q := h2.2.2 d hd hh
            refine ⟨q.1, ?_, q.2.2⟩
            show upd (upd gd.2.2.2.1 a (nI (dQ D b))) b (nI (dQ D a)) d = nI (Q d)
            by_cases z1 : d = b
            · rw [z1, pk_us, Qb]
            · rw [pk_un z1]
              by_cases z2 : d = a
              · rw [z2, pk_us, Qa]
              · rw [pk_un z2, Qi d z2 z1]; exact q.2.1
          · by_cases z1 : d = b
            · rw [z1, pk_us, Qb]
            · rw [pk_un z1]
              by_cases z2 : d = a
              · rw [z2, pk_us, Qa]
              · rw [pk_un z2, Qi d z2 z1]; exact ((h4.2 d hd).2 hh).2.1
          · by_cases z1 : d = b
            · rw [z1, Qb]; exact ⟨o1.2.2.2.2.1, q2⟩
            · by_cases z2 : d = a
              · rw [z2, Qa]; exact ⟨o2.2.2.2.2.1, q1⟩
              · rw [Qi d z2 z1]; exact (h6.2.2 d hd hh).2.2.2.2
    · right
      rw [if_pos hha, if_neg n10, if_neg hhb, if_pos rfl, hs0 (fun c => hhb c.2.1), if_pos rfl]
      exact ⟨rfl, rfl⟩
  · right
    rw [if_neg hha, if_pos rfl, hs0 (fun c => hha c.1), if_pos rfl]
    exact ⟨rfl, rfl⟩
