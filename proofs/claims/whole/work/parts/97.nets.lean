abbrev TN := (Nat → Nat → Int32) × (Nat → Nat → Int64)
/-- the class's tables of worths and nets -/
def NE (gne : TN) (D : MD) : Prop := (∀ d, d < 10 → ∀ b, b < 41 → gne.1 d b = nI (dW D d b)) ∧ ∀ o, o < 5 → ∀ b, b < 41 → gne.2 o b = iL (nO D o b)
theorem up_s {α : Type} (f : Nat → α) (k : Nat) (v : α) : va_up f k v k = v := va_up_self f k v
theorem up_n {α : Type} (f : Nat → α) {k j : Nat} (v : α) (h : j ≠ k) : va_up f k v j = f j := va_up_ne f v h
theorem neg_nI {w : Nat} (h : w < 2147483648) : (-(nI w)).toInt64 = iL (-(w : Int)) := by
  rw [show -(nI w) = iI (-(w : Int)) from by rw [nI_iI]; exact (Int32.ofInt_neg _).symm, iI_l (by omega) (by omega)]
/-- what has been filled of one base b -/
def N1 (gne : TN) (D : MD) (b : Nat) : Prop := (∀ d, d < 10 → ∀ c, c < b → gne.1 d c = nI (dW D d c)) ∧ ∀ o, o < 5 → ∀ c, c < b → gne.2 o c = iL (nO D o c)
def nF (D : MD) (o b d : Nat) : Int := tF D o b d - bF D o b d
theorem c_addNet {gne : TN} {D : MD} {O : Nat} (ho : OD O D) (hO : O ≤ 5) {d b q : Nat} (hd : d < 10) (hb : b < 41) (x : Int32) (z : Int) (hx : x.toInt64 = iL z) (f : Nat → Int) (hf : ∀ o, o < 5 → gne.2 o b = iL (f o)) (hq : dH D d = true → q < 5) : ∃ g2, p_X6_addNet gne (if dH D d then nI q else -1) (nI b) x = some (gne.1, g2) ∧ (∀ o, o < 5 → g2 o b = iL (f o + (if dH D d = true ∧ q = o then z else 0))) ∧ ∀ o c, c ≠ b → g2 o c = gne.2 o c := by
  unfold p_X6_addNet
  by_cases hh : dH D d = true
  · have hq := hq hh
    rw [if_pos hh, if_neg (nI_pos (by omega)), if_neg (le_f (c := 5) hq (by decide)), if_neg (nI_pos (by omega)), if_neg (le_f (c := 41) hb (by decide)), if_pos (ix_nI hq (by decide)), if_pos (ix_nI hb (by decide)), if_pos (ix_nI hb (by decide)), cl_nI (by omega), cl_nI (by omega)]
    refine ⟨_, rfl, fun o hoo => ?_, fun o c hcb => ?_⟩
    · by_cases e : o = q
      · subst e
        rw [up_s, pk_uLs, hf o hoo, hx, iL_add, if_pos ⟨hh, rfl⟩]
      · rw [up_n _ _ e, hf o hoo, if_neg (fun h => e h.2.symm), Int.add_zero]
    · by_cases e : o = q
      · subst e; rw [up_s, pk_uLn hcb]
      · rw [up_n _ _ e]
  · rw [if_neg hh, if_pos (by decide)]
    refine ⟨_, rfl, fun o hoo => ?_, fun _ _ _ => rfl⟩
    rw [hf o hoo, if_neg (fun h => hh h.1), Int.add_zero]
theorem c_fill_63 {O : Nat} {gd : TD} {D : MD} (h : DC gd D) (ho : OD O D) (hO : O ≤ 5) {b : Nat} (hb : b < 41) (k2 : TN → Int32 → Option TN) : ∀ (k j n : Nat) (gne : TN), j + k = 10 → k < n → (∀ d, d < 10 → gne.1 d b = nI (dW D d b)) → (∀ o, o < 5 → gne.2 o b = iL (sZ (nF D o b) j)) → ∃ g2, p_X6_fill_63 k2 gd n gne (nI b) (nI j) = k2 (gne.1, g2) (nI (b + 1)) ∧ (∀ o, o < 5 → g2 o b = iL (nO D o b)) ∧ ∀ o c, c ≠ b → g2 o c = gne.2 o c := by
  intro k
  induction k with
  | zero =>
    intro j n gne hj hn hw hs
    obtain ⟨n, rfl⟩ : ∃ m, n = m + 1 := ⟨n - 1, by omega⟩
    have hj : j = 10 := by omega
    subst hj
    refine ⟨gne.2, ?_, fun o hoo => ?_, fun _ _ _ => rfl⟩
    · unfold p_X6_fill_63
      rw [if_pos (le_t (c := 10) (Nat.le_refl _) (by decide)), nI_1]
    · rw [hs o hoo]
      exact congrArg iL (sZ_sub 10)
  | succ k ih =>
    intro j n gne hj hn hw hs
    obtain ⟨n, rfl⟩ : ∃ m, n = m + 1 := ⟨n - 1, by omega⟩
    have hj10 : j < 10 := by omega
    have hwi := dW_i ho hj10 (b := b) (by omega)
    obtain ⟨g1, a1, a2, a3⟩ := c_addNet ho hO hj10 hb (q := dQ D j) (nI (dW D j b)) (dW D j b : Int) (nI_lz hwi) (fun o => sZ (nF D o b) j) hs (fun hh => by have := (ho.2.2 j hj10 hh).2.2.2.2.1; omega)
    obtain ⟨g2, b1, b2, b3⟩ := c_addNet (gne := (gne.1, g1)) ho hO hj10 hb (q := dP D j) (-(nI (dW D j b))) (-(dW D j b : Int)) (neg_nI hwi) (fun o => sZ (nF D o b) j + (if dH D j = true ∧ dQ D j = o then (dW D j b : Int) else 0)) a2 (fun hh => by have := (ho.2.2 j hj10 hh).2.2.2.1; omega)
    obtain ⟨g3, c1, c2, c3⟩ := ih (j + 1) n (gne.1, g2) (by omega) (by omega) hw (fun o hoo => by
      refine (b2 o hoo).trans ?_
      apply congrArg iL
      show _ = sZ (nF D o b) j + nF D o b j
      unfold nF tF bF
      by_cases h1 : dH D j = true ∧ dQ D j = o
      · simp only [if_pos h1]
        by_cases h2 : dH D j = true ∧ dP D j = o
        · simp only [if_pos h2]; omega
        · simp only [if_neg h2]; omega
      · simp only [if_neg h1]
        by_cases h2 : dH D j = true ∧ dP D j = o
        · simp only [if_pos h2]; omega
        · simp only [if_neg h2]; omega)
    refine ⟨g3, ?_, c2, fun o c hcb => (c3 o c hcb).trans ((b3 o c hcb).trans (a3 o c hcb))⟩
    unfold p_X6_fill_63
    rw [if_neg (le_f (c := 10) hj10 (by decide)), c_lend h ho.2.1 hj10, some_bind', if_pos (ix_nI hj10 (by decide)), if_pos (ix_nI hb (by decide)), cl_nI (by omega), cl_nI (by omega), hw j hj10, a1, some_bind', c_deb h ho.2.1 hj10, some_bind', if_pos (ix_nI hj10 (by decide)), if_pos (ix_nI hb (by decide)), hw j hj10, b1, some_bind', nI_1]
    exact c1
theorem c_fill_41 {O : Nat} {gd : TD} {D : MD} (h : DC gd D) (ho : OD O D) (hO : O ≤ 5) {b : Nat} (hb : b < 41) (k2 : TN → Int32 → Option TN) : ∀ (k j n : Nat) (gne : TN), j + k = 5 → k < n → (∀ d, d < 10 → gne.1 d b = nI (dW D d b)) → (∀ o, o < j → gne.2 o b = iL 0) → ∃ g2, p_X6_fill_41 k2 gd n gne (nI b) (nI j) = k2 (gne.1, g2) (nI (b + 1)) ∧ (∀ o, o < 5 → g2 o b = iL (nO D o b)) ∧ ∀ o c, c ≠ b → g2 o c = gne.2 o c := by
  intro k
  induction k with
  | zero =>
    intro j n gne hj hn hw hs
    obtain ⟨n, rfl⟩ : ∃ m, n = m + 1 := ⟨n - 1, by omega⟩
    have hj : j = 5 := by omega
    subst hj
    unfold p_X6_fill_41
    rw [if_pos (le_t (c := 5) (Nat.le_refl _) (by decide))]
    exact c_fill_63 h ho hO hb k2 10 0 fu gne (by omega) (fu_lt (by decide)) hw hs
  | succ k ih =>
    intro j n gne hj hn hw hs
    obtain ⟨n, rfl⟩ : ∃ m, n = m + 1 := ⟨n - 1, by omega⟩
    obtain ⟨g2, c1, c2, c3⟩ := ih (j + 1) n (gne.1, va_up gne.2 j (vp_updL (gne.2 j) b 0)) (by omega) (by omega) hw (fun o hoo => by
      by_cases e : o = j
      · subst e; show va_up gne.2 o _ o b = _; rw [up_s, pk_uLs]; rfl
      · show va_up gne.2 j _ o b = _; rw [up_n _ _ e]; exact hs o (by omega))
    refine ⟨g2, ?_, c2, fun o c hcb => ?_⟩
    · unfold p_X6_fill_41
      rw [if_neg (le_f (c := 5) (by omega) (by decide)), if_pos (ix_nI (by omega) (by decide)), if_pos (ix_nI hb (by decide)), cl_nI (by omega), cl_nI (by omega), nI_1]
      exact c1
    · rw [c3 o c hcb]
      by_cases e : o = j
      · subst e; show va_up gne.2 o _ o c = _; rw [up_s, pk_uLn hcb]
      · show va_up gne.2 j _ o c = _; rw [up_n _ _ e]
theorem c_fill_10 {O : Nat} {gd : TD} {D : MD} (h : DC gd D) (ho : OD O D) (hO : O ≤ 5) {b : Nat} (hb : b < 41) (k2 : TN → Int32 → Option TN) : ∀ (k j n : Nat) (gne : TN), j + k = 10 → k < n → (∀ d, d < j → gne.1 d b = nI (dW D d b)) → ∃ g' : TN, p_X6_fill_10 k2 gd n gne (nI b) (nI j) = k2 g' (nI (b + 1)) ∧ (∀ d, d < 10 → g'.1 d b = nI (dW D d b)) ∧ (∀ o, o < 5 → g'.2 o b = iL (nO D o b)) ∧ ∀ o c, c ≠ b → g'.1 o c = gne.1 o c ∧ g'.2 o c = gne.2 o c := by
  intro k
  induction k with
  | zero =>
    intro j n gne hj hn hw
    obtain ⟨n, rfl⟩ : ∃ m, n = m + 1 := ⟨n - 1, by omega⟩
    have hj : j = 10 := by omega
    subst hj
    obtain ⟨g2, a1, a2, a3⟩ := c_fill_41 h ho hO hb k2 5 0 fu gne (by omega) (fu_lt (by decide)) hw (fun o hoo => absurd hoo (by omega))
    refine ⟨(gne.1, g2), ?_, hw, a2, fun o c hcb => ⟨rfl, a3 o c hcb⟩⟩
    unfold p_X6_fill_10
    rw [if_pos (le_t (c := 10) (Nat.le_refl _) (by decide))]
    exact a1
  | succ k ih =>
    intro j n gne hj hn hw
    obtain ⟨n, rfl⟩ : ∃ m, n = m + 1 := ⟨n - 1, by omega⟩
    obtain ⟨g', a1, a2, a3, a4⟩ := ih (j + 1) n (va_up gne.1 j (upd (gne.1 j) b (nI (dW D j b))), gne.2) (by omega) (by omega) (fun d hd => by
      by_cases e : d = j
      · subst e; show va_up gne.1 d _ d b = _; rw [up_s, pk_us]
      · show va_up gne.1 j _ d b = _; rw [up_n _ _ e]; exact hw d (by omega))
    refine ⟨g', ?_, a2, a3, fun o c hcb => ?_⟩
    · unfold p_X6_fill_10
      rw [if_neg (le_f (c := 10) (by omega) (by decide)), if_pos (ix_nI (by omega) (by decide)), c_worth h ho (by omega) (by omega), some_bind', if_pos (ix_nI hb (by decide)), cl_nI (by omega), cl_nI (by omega), nI_1]
      exact a1
    · rw [(a4 o c hcb).1, (a4 o c hcb).2]
      refine ⟨?_, rfl⟩
      by_cases e : o = j
      · subst e; show va_up gne.1 o _ o c = _; rw [up_s, pk_un hcb]
      · show va_up gne.1 j _ o c = _; rw [up_n _ _ e]
theorem c_fill_2 {O : Nat} {gd : TD} {D : MD} (h : DC gd D) (ho : OD O D) (hO : O ≤ 5) : ∀ (k b n : Nat) (gne : TN), b + k = 41 → k < n → N1 gne D b → ∃ g' : TN, p_X6_fill_2 gd n gne (nI b) = some g' ∧ NE g' D := by
  intro k
  induction k with
  | zero =>
    intro b n gne hb hn hw
    obtain ⟨n, rfl⟩ : ∃ m, n = m + 1 := ⟨n - 1, by omega⟩
    have hb : b = 41 := by omega
    subst hb
    refine ⟨gne, ?_, hw⟩
    unfold p_X6_fill_2
    rw [if_pos (le_t (c := 41) (Nat.le_refl _) (by decide))]
  | succ k ih =>
    intro b n gne hb hn hw
    obtain ⟨n, rfl⟩ : ∃ m, n = m + 1 := ⟨n - 1, by omega⟩
    obtain ⟨g1, a1, a2, a3, a4⟩ := c_fill_10 h ho hO (show b < 41 by omega) (p_X6_fill_2 gd n) 10 0 fu gne (by omega) (fu_lt (by decide)) (fun d hd => absurd hd (by omega))
    obtain ⟨g', b1, b2⟩ := ih (b + 1) n g1 (by omega) (by omega) ⟨fun d hd c hc => by
      by_cases e : c = b
      · subst e; exact a2 d hd
      · rw [(a4 d c e).1]; exact hw.1 d hd c (by omega), fun o hoo c hc => by
      by_cases e : c = b
      · subst e; exact a3 o hoo
      · rw [(a4 o c e).2]; exact hw.2 o hoo c (by omega)⟩
    refine ⟨g', ?_, b2⟩
    unfold p_X6_fill_2
    rw [if_neg (le_f (c := 41) (by omega) (by decide))]
    exact a1.trans b1
theorem c_fill {O : Nat} {gd : TD} {D : MD} (h : DC gd D) (ho : OD O D) (hO : O ≤ 5) (gne : TN) : ∃ g' : TN, p_X6_fill gne gd = some g' ∧ NE g' D := c_fill_2 h ho hO 41 0 fu gne (by omega) (fu_lt (by decide)) ⟨fun _ _ c hc => absurd hc (by omega), fun _ _ c hc => absurd hc (by omega)⟩
theorem c_netIn {gne : TN} {D : MD} (h : NE gne D) {o b : Nat} (hq : o < 5) (hb : b ≤ 40) : p_X6_netIn gne (nI o) (nI b) = some (iL (nO D o b)) := by
  unfold p_X6_netIn
  rw [if_neg (nI_pos (by omega)), if_neg (le_f (c := 5) hq (by decide)), if_neg (nI_pos (by omega)), if_neg (le_f (c := 41) (by omega) (by decide)), if_pos (ix_nI hq (by decide)), if_pos (ix_nI (by omega) (by decide)), cl_nI (by omega), cl_nI (by omega), h.2 o hq b (by omega)]
theorem c_worthOf {gne : TN} {D : MD} (h : NE gne D) {d b : Nat} (hd : d < 10) (hb : b ≤ 40) : p_X6_worthOf gne (nI d) (nI b) = some (nI (dW D d b)) := by
  unfold p_X6_worthOf
  rw [if_neg (nI_pos (by omega)), if_neg (le_f (c := 10) hd (by decide)), if_neg (nI_pos (by omega)), if_neg (le_f (c := 41) (by omega) (by decide)), if_pos (ix_nI hd (by decide)), if_pos (ix_nI (by omega) (by decide)), cl_nI (by omega), cl_nI (by omega), h.1 d hd b (by omega)]
theorem c_worthOf_no (gne : TN) (x : Int32) : p_X6_worthOf gne (-1) x = some 0 := rfl
-- the greatest and the least of f over a .. a + k
def mxZ (f : Nat → Int) (a : Nat) : Nat → Int
  | 0 => f a
  | k + 1 => if f (a + (k + 1)) < mxZ f a k then mxZ f a k else f (a + (k + 1))
def mnZ (f : Nat → Int) (a : Nat) : Nat → Int
  | 0 => f a
  | k + 1 => if f (a + (k + 1)) < mnZ f a k then f (a + (k + 1)) else mnZ f a k
theorem mxZ_b {f : Nat → Int} {a c : Nat} {lo hi : Int} (h : ∀ b, b ≤ c → lo ≤ f b ∧ f b ≤ hi) : ∀ k, a + k ≤ c → lo ≤ mxZ f a k ∧ mxZ f a k ≤ hi ∧ lo ≤ mnZ f a k ∧ mnZ f a k ≤ hi := by
  intro k
  induction k with
  | zero => intro hk; have := h a (by omega); exact ⟨this.1, this.2, this.1, this.2⟩
  | succ k ih =>
    intro hk
    have h1 := ih (by omega)
    have h2 := h (a + (k + 1)) hk
    unfold mxZ mnZ
    refine ⟨?_, ?_, ?_, ?_⟩ <;> split <;> omega
theorem mn_le_mx {f : Nat → Int} {a : Nat} : ∀ k, mnZ f a k ≤ mxZ f a k := by
  intro k
  induction k with
  | zero => exact Int.le_refl _
  | succ k ih => unfold mxZ mnZ; split <;> split <;> omega
/-- the span: greatest less least over a .. b -/
def spZ (f : Nat → Int) (a b : Nat) : Int := mxZ f a (b - a) - mnZ f a (b - a)
-- the reference's spread
theorem m_spread_loop {gne : TA} {f : Nat → Int} {a b : Nat} (hab : a ≤ b) (hb : b ≤ 40) (hg : ∀ k, a ≤ k → k ≤ b → gne k = iI (f k)) (hf : ∀ k, k ≤ b → -2147483648 ≤ f k ∧ f k ≤ 2147483647) : ∀ k j n : Nat, j + k = b - a → k < n → p_X13_spread_18 gne n (nI b) (iI (mnZ f a j)) (iI (mxZ f a j)) (nI (a + j + 1)) = some (iI (spZ f a b)) := by
  intro k
  induction k with
  | zero =>
    intro j n hj hn
    obtain ⟨n, rfl⟩ : ∃ m, n = m + 1 := ⟨n - 1, by omega⟩
    have hj : j = b - a := by omega
    subst hj
    unfold p_X13_spread_18
    rw [if_pos (nI_lt (by omega) (by omega)), iI_sub]; rfl
  | succ k ih =>
    intro j n hj hn
    obtain ⟨n, rfl⟩ : ∃ m, n = m + 1 := ⟨n - 1, by omega⟩
    have hi := ih (j + 1) n (by omega) (by omega)
    have hbd := mxZ_b (a := a) (c := b) hf j (by omega)
    have hfj := hf (a + j + 1) (by omega)
    unfold p_X13_spread_18 p_X13_spread_46 p_X13_spread_71
    rw [if_neg (nI_nlt (by omega) (by omega))]
    simp only [if_pos (ix_nI (show a + j + 1 < 41 by omega) (by decide)), cl_nI (show a + j + 1 < 2147483648 by omega), hg (a + j + 1) (by omega) (by omega), nI_1]
    rw [show mnZ f a (j + 1) = (if f (a + (j + 1)) < mnZ f a j then f (a + (j + 1)) else mnZ f a j) from rfl, show mxZ f a (j + 1) = (if f (a + (j + 1)) < mxZ f a j then mxZ f a j else f (a + (j + 1))) from rfl, show a + (j + 1) + 1 = a + j + 1 + 1 by omega, show a + (j + 1) = a + j + 1 by omega] at hi
    by_cases h1 : f (a + j + 1) < mnZ f a j
    · rw [if_neg (fun e => by rw [iI_le (by omega) (by omega) (by omega) (by omega)] at e; omega)]
      rw [if_pos h1] at hi
      by_cases h2 : f (a + j + 1) ≤ mxZ f a j
      · rw [if_pos ((iI_le (by omega) (by omega) (by omega) (by omega)).2 h2)]
        by_cases h3 : f (a + j + 1) < mxZ f a j
        · rw [if_pos h3] at hi; exact hi
        · rw [if_neg h3] at hi; rw [show mxZ f a j = f (a + j + 1) by omega]; exact hi
      · rw [if_neg (fun e => h2 ((iI_le (by omega) (by omega) (by omega) (by omega)).1 e))]
        rw [if_neg (by omega)] at hi; exact hi
    · rw [if_pos ((iI_le (by omega) (by omega) (by omega) (by omega)).2 (by omega))]
      rw [if_neg h1] at hi
      by_cases h2 : f (a + j + 1) ≤ mxZ f a j
      · rw [if_pos ((iI_le (by omega) (by omega) (by omega) (by omega)).2 h2)]
        by_cases h3 : f (a + j + 1) < mxZ f a j
        · rw [if_pos h3] at hi; exact hi
        · rw [if_neg h3] at hi; rw [show mxZ f a j = f (a + j + 1) by omega]; exact hi
      · rw [if_neg (fun e => h2 ((iI_le (by omega) (by omega) (by omega) (by omega)).1 e))]
        rw [if_neg (by omega)] at hi; exact hi
theorem m_spread {gne : TA} {f : Nat → Int} {a b : Nat} (hab : a ≤ b) (hb : b ≤ 40) (hg : ∀ k, a ≤ k → k ≤ b → gne k = iI (f k)) (hf : ∀ k, k ≤ b → -2147483648 ≤ f k ∧ f k ≤ 2147483647) : p_X13_spread gne (nI a) (nI b) = some (iI (spZ f a b)) := by
  unfold p_X13_spread
  rw [if_pos (ix_nI (by omega) (by decide)), if_pos (ix_nI (by omega) (by decide)), cl_nI (by omega), hg a (by omega) hab, show fu = 999999 + 1 from rfl]
  unfold p_X13_spread_18 p_X13_spread_46 p_X13_spread_71
  rw [if_neg (nI_nlt hab (by omega)), if_pos (ix_nI (by omega) (by decide)), cl_nI (by omega), hg a (by omega) hab, if_pos (Int32.le_refl _), if_pos (ix_nI (by omega) (by decide)), if_pos (Int32.le_refl _), nI_1]
  exact m_spread_loop hab hb hg hf (b - a) 0 999999 (by omega) (by omega)
theorem m_netsOf_loop {O : Nat} {gvm : TM} {gla : TA} {D : MD} (h : DM gvm D) (hl : LA gla D) (ho : OD O D) (hO : O ≤ 5) {o : Nat} (hq : o < 5) : ∀ (k j n : Nat) (gne : TA), j + k = 41 → k < n → (∀ i, i < j → gne i = iI (nO D o i)) → ∃ g', p_X13_netsOf_2 gvm gla n gne (nI o) (nI j) = some g' ∧ ∀ i, i < 41 → g' i = iI (nO D o i) := by
  intro k
  induction k with
  | zero =>
    intro j n gne hj hn hg
    obtain ⟨n, rfl⟩ : ∃ m, n = m + 1 := ⟨n - 1, by omega⟩
    have hj : j = 41 := by omega
    subst hj
    refine ⟨gne, ?_, hg⟩
    unfold p_X13_netsOf_2
    rw [if_pos (lt_t (c := 40) (by decide) (by decide))]
  | succ k ih =>
    intro j n gne hj hn hg
    obtain ⟨n, rfl⟩ : ∃ m, n = m + 1 := ⟨n - 1, by omega⟩
    obtain ⟨g', h1, h2⟩ := ih (j + 1) n (upd gne j (iI (nO D o j))) (by omega) (by omega) (fun i hi => by
      by_cases e : i = j
      · subst e; exact pk_us
      · rw [pk_un e]; exact hg i (by omega))
    refine ⟨g', ?_, h2⟩
    unfold p_X13_netsOf_2
    rw [if_neg (lt_f (c := 40) (by omega) (by decide)), m_net h hl ho hO hq (by omega), some_bind', if_pos (ix_nI (by omega) (by decide)), cl_nI (by omega), nI_1]
    exact h1
theorem m_netsOf {O : Nat} {gvm : TM} {gla : TA} {D : MD} (h : DM gvm D) (hl : LA gla D) (ho : OD O D) (hO : O ≤ 5) {o : Nat} (hq : o < 5) (gne : TA) : ∃ g', p_X13_netsOf gvm gla gne (nI o) = some g' ∧ ∀ i, i < 41 → g' i = iI (nO D o i) := m_netsOf_loop h hl ho hO hq 41 0 fu gne (by omega) (fu_lt (by decide)) (fun i hi => absurd hi (by omega))
theorem m_spanOf {O : Nat} {gvm : TM} {gla : TA} {D : MD} (h : DM gvm D) (hl : LA gla D) (ho : OD O D) (hO : O ≤ 5) {o a b : Nat} (hq : o < 5) (hab : a ≤ b) (hb : b ≤ 40) (gne : TA) : ∃ g', p_X13_spanOf gvm gla gne (nI o) (nI a) (nI b) = some (iI (spZ (nO D o) a b), g') := by
  obtain ⟨g', h1, h2⟩ := m_netsOf h hl ho hO hq gne
  refine ⟨g', ?_⟩
  unfold p_X13_spanOf
  rw [h1, some_bind', m_spread hab hb (fun k _ hk => h2 k (by omega)) (fun k hk => by have := nO_b ho o (b := k) (by omega); omega)]
  rfl
-- the class's span
theorem c_spanWith_loop {gne : TN} {x1 x2 x3 : Int32} {f : Nat → Int} {a b : Nat} (hb : b ≤ 40) (hg : ∀ k, a ≤ k → k ≤ b → p_X6_netWith gne x1 x2 x3 (nI k) = some (iL (f k))) (hf : ∀ k, k ≤ b → -9000000000 ≤ f k ∧ f k ≤ 9000000000) : ∀ k j n : Nat, a + j + k = b → k < n → p_X6_spanWith_21 gne n x1 x2 x3 (nI b) (iL (mxZ f a j)) (iL (mnZ f a j)) (nI (a + j + 1)) = some (iL (spZ f a b)) := by
  intro k
  induction k with
  | zero =>
    intro j n hj hn
    obtain ⟨n, rfl⟩ : ∃ m, n = m + 1 := ⟨n - 1, by omega⟩
    have hj : j = b - a := by omega
    subst hj
    unfold p_X6_spanWith_21
    rw [if_pos (nI_lt (by omega) (by omega)), iL_sub]; rfl
  | succ k ih =>
    intro j n hj hn
    obtain ⟨n, rfl⟩ : ∃ m, n = m + 1 := ⟨n - 1, by omega⟩
    have hi := ih (j + 1) n (by omega) (by omega)
    have hbd := mxZ_b (a := a) (c := b) hf j (by omega)
    have hfj := hf (a + j + 1) (by omega)
    unfold p_X6_spanWith_21
    rw [if_neg (nI_nlt (by omega) (by omega)), hg (a + j + 1) (by omega) (by omega), some_bind', nI_1]
    rw [show mnZ f a (j + 1) = (if f (a + (j + 1)) < mnZ f a j then f (a + (j + 1)) else mnZ f a j) from rfl, show mxZ f a (j + 1) = (if f (a + (j + 1)) < mxZ f a j then mxZ f a j else f (a + (j + 1))) from rfl, show a + (j + 1) + 1 = a + j + 1 + 1 by omega, show a + (j + 1) = a + j + 1 by omega] at hi
    by_cases h1 : f (a + j + 1) < mnZ f a j
    · rw [if_pos h1] at hi
      rw [if_pos (c := iL (f (a + j + 1)) < iL (mnZ f a j)) ((iL_lt (by omega) (by omega) (by omega) (by omega)).2 h1)]
      by_cases h2 : f (a + j + 1) < mxZ f a j
      · rw [if_pos h2] at hi; rw [if_pos ((iL_lt (by omega) (by omega) (by omega) (by omega)).2 h2)]; exact hi
      · rw [if_neg h2] at hi; rw [if_neg (fun e => h2 ((iL_lt (by omega) (by omega) (by omega) (by omega)).1 e))]; exact hi
    · rw [if_neg h1] at hi
      rw [if_neg (c := iL (f (a + j + 1)) < iL (mnZ f a j)) (fun e => h1 ((iL_lt (by omega) (by omega) (by omega) (by omega)).1 e))]
      by_cases h2 : f (a + j + 1) < mxZ f a j
      · rw [if_pos h2] at hi; rw [if_pos ((iL_lt (by omega) (by omega) (by omega) (by omega)).2 h2)]; exact hi
      · rw [if_neg h2] at hi; rw [if_neg (fun e => h2 ((iL_lt (by omega) (by omega) (by omega) (by omega)).1 e))]; exact hi
theorem c_spanWith {gne : TN} {x1 x2 x3 : Int32} {f : Nat → Int} {a b : Nat} (hab : a ≤ b) (hb : b ≤ 40) (hg : ∀ k, a ≤ k → k ≤ b → p_X6_netWith gne x1 x2 x3 (nI k) = some (iL (f k))) (hf : ∀ k, k ≤ b → -9000000000 ≤ f k ∧ f k ≤ 9000000000) : p_X6_spanWith gne x1 x2 x3 (nI a) (nI b) = some (iL (spZ f a b)) := by
  unfold p_X6_spanWith
  rw [hg a (Nat.le_refl _) hab, some_bind', nI_1]
  exact c_spanWith_loop hb hg hf (b - a) 0 fu (by omega) (fu_lt (by omega))
theorem c_spanOf {O : Nat} {gne : TN} {D : MD} (h : NE gne D) (ho : OD O D) {o a b : Nat} (hq : o < 5) (hab : a ≤ b) (hb : b ≤ 40) : p_X6_spanOf gne (nI o) (nI a) (nI b) = some (iL (spZ (nO D o) a b)) := by
  unfold p_X6_spanOf
  rw [c_spanWith (f := nO D o) hab hb (fun k _ hk => by
    unfold p_X6_netWith
    rw [c_netIn h hq (by omega), some_bind', c_worthOf_no, some_bind', some_bind', show (0 : Int32).toInt64 = iL 0 from rfl, iL_sub, iL_add, Int.sub_zero, Int.add_zero]) (fun k hk => by have := nO_b ho o (b := k) (by omega); omega)]
  rfl
theorem q_span {gvn : TV} {gdn : TD} {gcn : TR} {gvm : TM} {grc : TRm} {S : MS} (hc : CS gvn gdn gcn S) (hr : RS gvm grc S) (ho : OS S) (gth x1 x2 x3 : Int32) (gne : TN) (gla gnm : TA) : ∃ v gne' r t la ne, p_X12_span gvn gdn gne x1 x2 x3 = some (v, gne') ∧ p_X13_span gth gvm gla gnm x1 x2 x3 = some (r, t, la, ne) ∧ Ag2 v r t := by
  have h5 := ho.1.1
  unfold p_X12_span p_X13_span
  rcases g_owner hc.1 hr.1 ho.1 x1 with ⟨o, hoo, rfl, e1, e2⟩ | ⟨e1, e2⟩
  · rw [e1, some_bind', xb_l, e2, some_bind', if_neg n10]
    rcases g_span x2 x3 0 rfl with ⟨a, b, hab, hb, rfl, rfl, e3, e4⟩ | ⟨e3, e4⟩
    · obtain ⟨g', f1, f2⟩ := c_fill hc.2.1 ho.2.1 h5 gne
      obtain ⟨la, l1, l2⟩ := m_lay hr.2.1 ho.2.1 gla
      obtain ⟨nm, s1⟩ := m_spanOf hr.2.1 l2 ho.2.1 h5 (show o < 5 by omega) hab hb gnm
      rw [e3, some_bind', xb_l, e4, some_bind', if_neg n10, f1, some_bind', c_spanOf f2 ho.2.1 (by omega) hab hb, some_bind', l1, some_bind', s1]
      exact ⟨_, _, _, _, _, _, rfl, rfl, Or.inl ⟨by rw [iL_i], rfl⟩⟩
    · rw [e3, e4]; exact ⟨_, _, _, _, _, _, rfl, rfl, Or.inr (Or.inr ⟨rfl, rfl⟩)⟩
  · rw [e1, e2]; exact ⟨_, _, _, _, _, _, rfl, rfl, Or.inr (Or.inl ⟨rfl, rfl⟩)⟩
