-- the walk
abbrev TW := (Nat → Int64) × Int64
abbrev TOd := (Nat → Int64) × (Nat → Int64)
def pW (b0 u w : Nat) : Nat → Nat → Nat
  | 0, b => if b = b0 then 1 else 0
  | t + 1, b => (if b = 0 then 0 else pW b0 u w t (b - 1)) * u + pW b0 u w t b * (if b = 0 then 10 - u else 10 - u - w) + pW b0 u w t (b + 1) * w
theorem pW_0 (b0 u w : Nat) : ∀ t b, b0 + t < b → pW b0 u w t b = 0 := by
  intro t
  induction t with
  | zero => intro b hb; unfold pW; rw [if_neg (by omega)]
  | succ t ih =>
    intro b hb
    unfold pW
    rw [if_neg (by omega), ih (b - 1) (by omega), ih b (by omega), ih (b + 1) (by omega)]; simp
theorem pW_s (b0 u w t b : Nat) : pW b0 u w (t + 1) b = (if b = 0 then 0 else pW b0 u w t (b - 1)) * u + pW b0 u w t b * (if b = 0 then 10 - u else 10 - u - w) + pW b0 u w t (b + 1) * w := rfl
theorem pW_flow (b0 : Nat) {u w : Nat} (huw : u + w ≤ 10) (t : Nat) : ∀ m, sN (pW b0 u w (t + 1)) (m + 1) + pW b0 u w t m * u = 10 * sN (pW b0 u w t) (m + 1) + pW b0 u w t (m + 1) * w := by
  obtain ⟨s, hs⟩ : ∃ s, u + w + s = 10 := ⟨10 - u - w, by omega⟩
  have h10 : ∀ p : Nat, p * u + p * w + p * s = 10 * p := fun p => by rw [← Nat.mul_add, ← Nat.mul_add, hs, Nat.mul_comm]
  have hws : ∀ p : Nat, p * (10 - u) = p * w + p * s := fun p => by rw [← Nat.mul_add, show 10 - u = w + s by omega]
  have hss : ∀ p : Nat, p * (10 - u - w) = p * s := fun p => by rw [show 10 - u - w = s by omega]
  intro m
  induction m with
  | zero =>
    have a := h10 (pW b0 u w t 0)
    simp only [sN, pW_s, if_pos, hws]
    omega
  | succ m ih =>
    have a := h10 (pW b0 u w t (m + 1))
    have e1 : sN (pW b0 u w (t + 1)) (m + 1 + 1) = sN (pW b0 u w (t + 1)) (m + 1) + pW b0 u w (t + 1) (m + 1) := rfl
    have e2 : sN (pW b0 u w t) (m + 1 + 1) = sN (pW b0 u w t) (m + 1) + pW b0 u w t (m + 1) := rfl
    rw [e1, e2, pW_s, if_neg (by omega), if_neg (by omega), hss, Nat.add_sub_cancel]
    omega
theorem pW_sum {b0 u w : Nat} (huw : u + w ≤ 10) : ∀ t, b0 + t ≤ 48 → sN (pW b0 u w t) 49 ≤ 10 ^ t := by
  intro t
  induction t with
  | zero =>
    intro hb
    have : ∀ m, sN (pW b0 u w 0) m = if b0 < m then 1 else 0 := by
      intro m
      induction m with
      | zero => rfl
      | succ m ih =>
        simp only [sN]; rw [ih]; unfold pW
        by_cases h1 : m = b0
        · subst h1; rw [if_neg (by omega), if_pos rfl, if_pos (by omega)]
        · rw [if_neg h1]
          by_cases h2 : b0 < m
          · rw [if_pos h2, if_pos (by omega)]
          · rw [if_neg h2, if_neg (by omega)]
    rw [this 49]; split <;> simp
  | succ t ih =>
    intro hb
    have h1 := ih (by omega)
    have h2 := pW_flow b0 huw t 48
    rw [pW_0 b0 u w t 49 (by omega), Nat.zero_mul] at h2
    rw [Nat.pow_succ]
    have h3 : 48 + 1 = 49 := rfl
    rw [h3] at h2
    omega
theorem sN_wt {p W : Nat → Nat} {c : Nat} : ∀ m, (∀ b, b < m → W b ≤ c) → sN (fun b => p b * W b) m ≤ sN p m * c := by
  intro m
  induction m with
  | zero => intro _; simp [sN]
  | succ m ih =>
    intro h
    have h1 := ih (fun b hb => h b (by omega))
    have h2 : p m * W m ≤ p m * c := Nat.mul_le_mul_left _ (h m (by omega))
    simp only [sN]
    rw [Nat.add_mul]; omega
theorem sN_tail {f : Nat → Nat} {a : Nat} (h : ∀ i, a ≤ i → f i = 0) : ∀ k, sN f (a + k) = sN f a := by
  intro k
  induction k with
  | zero => rfl
  | succ k ih => show sN f (a + k) + f (a + k) = _; rw [ih, h _ (by omega)]; rfl
/-- the sum by which the mean is got, and the mean -/
def sW (D : MD) (d b0 u w t : Nat) : Nat := sN (fun b => pW b0 u w t b * dW D d b) 49
def mW (D : MD) (d b0 u w t : Nat) : Nat := sW D d b0 u w t / 10 ^ t
theorem sW_le {O : Nat} {D : MD} (ho : OD O D) {d b0 u w t : Nat} (hd : d < 10) (huw : u + w ≤ 10) (hb : b0 ≤ 40) (ht : t ≤ 8) : sW D d b0 u w t ≤ 10 ^ t * 254803968 := by
  have h1 := sN_wt (p := pW b0 u w t) (W := dW D d) (c := 254803968) 49 (fun b hb => by
    have := dW_le ho hd (show b ≤ 48 by omega) (by decide)
    rw [show 48 ^ 5 = 254803968 from by decide] at this; exact this)
  have h2 := pW_sum (b0 := b0) huw t (by omega)
  exact Nat.le_trans h1 (Nat.mul_le_mul_right _ h2)
theorem p10_le {t : Nat} (ht : t ≤ 8) : 1 ≤ 10 ^ t ∧ 10 ^ t ≤ 100000000 := ⟨Nat.pos_of_ne_zero (by simp), Nat.le_trans (Nat.pow_le_pow_right (by decide) ht) (by decide)⟩
theorem mW_le {O : Nat} {D : MD} (ho : OD O D) {d b0 u w t : Nat} (hd : d < 10) (huw : u + w ≤ 10) (hb : b0 ≤ 40) (ht : t ≤ 8) : mW D d b0 u w t ≤ 254803968 := by
  have h1 := sW_le ho hd huw hb ht
  unfold mW
  rw [Nat.mul_comm] at h1
  exact Nat.div_le_of_le_mul (by rw [Nat.mul_comm]; exact h1)
theorem pW_le {b0 u w t b : Nat} (huw : u + w ≤ 10) (hb : b0 ≤ 40) (ht : t ≤ 8) : pW b0 u w t b ≤ 100000000 := by
  by_cases h : b < 49
  · have h1 := sN_le (pW b0 u w t) 49 b h
    have h2 := pW_sum (b0 := b0) huw t (by omega)
    have := (p10_le ht).2
    omega
  · rw [pW_0 _ _ _ _ _ (by omega)]; omega
-- the class's walk
def WK (g : TW) (b0 u w t : Nat) : Prop := (∀ b, b < 49 → g.1 b = lN (pW b0 u w t b)) ∧ g.2 = lN (10 ^ t)
theorem c_begin_loop {b0 u w : Nat} (hb0 : b0 ≤ 40) : ∀ (k j n : Nat) (g : TW), j + k = 49 → k < n → (∀ b, b < j → g.1 b = lN (pW b0 u w 0 b)) → ∃ g', p_X11_begin_2 n g (nI b0) (nI j) = some g' ∧ WK g' b0 u w 0 := by
  intro k
  induction k with
  | zero =>
    intro j n g hj hn hg
    obtain ⟨n, rfl⟩ : ∃ m, n = m + 1 := ⟨n - 1, by omega⟩
    have hj : j = 49 := by omega
    subst hj
    unfold p_X11_begin_2
    rw [if_pos (le_t (c := 49) (Nat.le_refl _) (by decide))]
    exact ⟨_, rfl, hg, rfl⟩
  | succ k ih =>
    intro j n g hj hn hg
    obtain ⟨n, rfl⟩ : ∃ m, n = m + 1 := ⟨n - 1, by omega⟩
    unfold p_X11_begin_2 p_X11_begin_23
    rw [if_neg (le_f (c := 49) (by omega) (by decide)), if_pos (ix_nI (by omega) (by decide)), if_pos (ix_nI (by omega) (by decide)), cl_nI (by omega), nI_1]
    by_cases e : j = b0
    · rw [if_pos (by rw [e])]
      refine ih (j + 1) n _ (by omega) (by omega) (fun b hb => ?_)
      by_cases e2 : b = j
      · subst e2; show vp_updL _ _ _ _ = _; rw [pk_uLs]; unfold pW; rw [if_pos e]; rfl
      · show vp_updL _ _ _ _ = _; rw [pk_uLn e2]; exact hg b (by omega)
    · rw [if_neg (ne_f e (by omega) (by omega))]
      refine ih (j + 1) n _ (by omega) (by omega) (fun b hb => ?_)
      by_cases e2 : b = j
      · subst e2; show vp_updL _ _ _ _ = _; rw [pk_uLs]; unfold pW; rw [if_neg e]; rfl
      · show vp_updL _ _ _ _ = _; rw [pk_uLn e2]; exact hg b (by omega)
theorem c_begin {b0 : Nat} (u w : Nat) (hb0 : b0 ≤ 40) (g : TW) : ∃ g', p_X11_begin g (nI b0) = some g' ∧ WK g' b0 u w 0 := c_begin_loop hb0 49 0 fu g (by omega) (fu_lt (by decide)) (fun b hb => absurd hb (by omega))
theorem c_step_loop {b0 u w t : Nat} (huw : u + w ≤ 10) (ht : b0 + t < 49) : ∀ (k j n : Nat) (g : TW), j + k = 49 → k < n → (∀ b, b < j → g.1 b = lN (pW b0 u w (t + 1) b)) → (∀ b, j ≤ b → b < 49 → g.1 b = lN (pW b0 u w t b)) → g.2 = lN (10 ^ t) → ∃ g', p_X11_step_5 n g (nI u) (nI w) (lN (if j = 0 then 0 else pW b0 u w t (j - 1))) (nI j) = some g' ∧ WK g' b0 u w (t + 1) := by
  intro k
  induction k with
  | zero =>
    intro j n g hj hn hg hg2 hw
    obtain ⟨n, rfl⟩ : ∃ m, n = m + 1 := ⟨n - 1, by omega⟩
    have hj : j = 49 := by omega
    subst hj
    unfold p_X11_step_5
    rw [if_pos (le_t (c := 49) (Nat.le_refl _) (by decide))]
    refine ⟨_, rfl, hg, ?_⟩
    show g.2 * 10 = _
    rw [hw, show (10 : Int64) = lN 10 from rfl, lN_mul, Nat.pow_succ]
  | succ k ih =>
    intro j n g hj hn hg hg2 hw
    obtain ⟨n, rfl⟩ : ∃ m, n = m + 1 := ⟨n - 1, by omega⟩
    have hab : p_X11_step_5 (n + 1) g (nI u) (nI w) (lN (if j = 0 then 0 else pW b0 u w t (j - 1))) (nI j) = p_X11_step_43 (p_X11_step_5 n) g (nI u) (nI w) (lN (if j = 0 then 0 else pW b0 u w t (j - 1))) (nI j) (lN (pW b0 u w t j)) (lN (pW b0 u w t (j + 1))) := by
      conv => lhs; unfold p_X11_step_5
      rw [if_neg (le_f (c := 49) (by omega) (by decide)), if_pos (ix_nI (by omega) (by decide)), nI_1, cl_nI (by omega), hg2 j (by omega) (by omega)]
      by_cases h1 : j + 1 = 49
      · rw [if_pos (le_t (c := 49) (by omega) (by omega)), pW_0 b0 u w t (j + 1) (by omega)]; rfl
      · rw [if_neg (le_f (c := 49) (by omega) (by decide)), if_pos (ix_nI (by omega) (by decide)), cl_nI (by omega), hg2 (j + 1) (by omega) (by omega)]
    have hst : p_X11_step_43 (p_X11_step_5 n) g (nI u) (nI w) (lN (if j = 0 then 0 else pW b0 u w t (j - 1))) (nI j) (lN (pW b0 u w t j)) (lN (pW b0 u w t (j + 1))) = p_X11_step_5 n (vp_updL g.1 j (lN (pW b0 u w (t + 1) j)), g.2) (nI u) (nI w) (lN (pW b0 u w t j)) (nI (j + 1)) := by
      unfold p_X11_step_43 p_X11_step_63
      rw [pW_s]
      by_cases h0 : j = 0
      · rw [if_pos (eq_t (c := 0) h0), if_pos (ix_nI (by omega) (by decide)), cl_nI (by omega), show (10 : Int32) - nI u = nI (10 - u) from pk_sub (a := 10) (by omega), nI_l (by omega), nI_l (by omega), nI_l (by omega), lN_mul, lN_mul, lN_mul, lN_add, lN_add, nI_1, if_pos h0, if_pos h0]
      · rw [if_neg (eq_f (c := 0) h0 (by omega) (by decide)), if_pos (ix_nI (by omega) (by decide)), cl_nI (by omega), show (10 : Int32) - nI u = nI (10 - u) from pk_sub (a := 10) (by omega), pk_sub (by omega), nI_l (by omega), nI_l (by omega), nI_l (by omega), lN_mul, lN_mul, lN_mul, lN_add, lN_add, nI_1, if_neg h0, if_neg h0]
    rw [hab, hst]
    have hi := ih (j + 1) n (vp_updL g.1 j (lN (pW b0 u w (t + 1) j)), g.2) (by omega) (by omega) (fun b hb => by
      by_cases e2 : b = j
      · subst e2; show vp_updL _ _ _ _ = _; rw [pk_uLs]
      · show vp_updL _ _ _ _ = _; rw [pk_uLn e2]; exact hg b (by omega)) (fun b hb hb2 => by
      show vp_updL _ _ _ _ = _; rw [pk_uLn (by omega)]; exact hg2 b (by omega) hb2) hw
    rw [if_neg (by omega), Nat.add_sub_cancel] at hi
    exact hi
theorem c_step {b0 u w t : Nat} {g : TW} (huw : u + w ≤ 10) (ht : b0 + t < 49) (h : WK g b0 u w t) : ∃ g', p_X11_step g (nI u) (nI w) = some g' ∧ WK g' b0 u w (t + 1) := c_step_loop huw ht 49 0 fu g (by omega) (fu_lt (by decide)) (fun b hb => absurd hb (by omega)) (fun b _ hb => h.1 b hb) h.2
theorem lz {n : Nat} (h : n < 2 ^ 63) : lN n = 0 ↔ n = 0 := by
  rw [show (0 : Int64) = lN 0 from rfl, pk_lEQ h (by decide)]
theorem c_mean_loop {O : Nat} {gd : TD} {D : MD} {g : TW} (hD : DC gd D) (ho : OD O D) {d b0 u w t : Nat} (hd : d < 10) (huw : u + w ≤ 10) (hb0 : b0 ≤ 40) (ht : t ≤ 8) (h : WK g b0 u w t) : ∀ k j n : Nat, j + k = 49 → k < n → p_X11_meanOf_5 g gd n (nI d) (lN (sN (fun b => pW b0 u w t b * dW D d b) j)) (nI j) = some (lN (mW D d b0 u w t)) := by
  intro k
  induction k with
  | zero =>
    intro j n hj hn
    obtain ⟨n, rfl⟩ : ∃ m, n = m + 1 := ⟨n - 1, by omega⟩
    have hj : j = 49 := by omega
    subst hj
    have h10 := p10_le ht
    have hs := sW_le ho hd huw hb0 ht
    have hs2 : 10 ^ t * 254803968 ≤ 100000000 * 254803968 := Nat.mul_le_mul_right _ h10.2
    unfold p_X11_meanOf_5
    rw [if_pos (le_t (c := 49) (Nat.le_refl _) (by decide)), h.2, show (1 : Int64) = lN 1 from rfl, if_pos ((lg_cmp_ge _ _).2 ((pk_lLE (a := 1) (by decide) (by omega)).2 h10.1)), if_pos (fun e => by rw [lz (by omega)] at e; omega)]
    show some (lN (sW D d b0 u w t) / lN (10 ^ t)) = _
    rw [pk_lDiv (by omega) (by omega) (by omega)]
    rfl
  | succ k ih =>
    intro j n hj hn
    obtain ⟨n, rfl⟩ : ∃ m, n = m + 1 := ⟨n - 1, by omega⟩
    have hi := ih (j + 1) n (by omega) (by omega)
    rw [show sN (fun b => pW b0 u w t b * dW D d b) (j + 1) = sN (fun b => pW b0 u w t b * dW D d b) j + pW b0 u w t j * dW D d j from rfl] at hi
    have hp := pW_le (b := j) huw hb0 ht
    unfold p_X11_meanOf_5 p_X11_meanOf_43
    rw [if_neg (le_f (c := 49) (by omega) (by decide)), if_pos (ix_nI (by omega) (by decide)), cl_nI (by omega), h.1 j (by omega), nI_1]
    by_cases hz : pW b0 u w t j = 0
    · rw [if_pos ((lg_cmp_eq _ _).2 ((lz (by omega)).2 hz))]
      rw [hz, Nat.zero_mul] at hi
      exact hi
    · rw [if_neg (fun e => hz ((lz (by omega)).1 ((lg_cmp_eq _ _).1 e))), if_pos (ix_nI (by omega) (by decide)), c_worth hD ho hd (by omega), some_bind', nI_l (dW_i ho hd (by omega)), lN_mul, lN_add]
      exact hi
theorem c_meanOf {O : Nat} {gd : TD} {D : MD} {g : TW} (hD : DC gd D) (ho : OD O D) {d b0 u w t : Nat} (hd : d < 10) (huw : u + w ≤ 10) (hb0 : b0 ≤ 40) (ht : t ≤ 8) (h : WK g b0 u w t) : p_X11_meanOf g gd (nI d) = some (lN (mW D d b0 u w t)) := c_mean_loop hD ho hd huw hb0 ht h 49 0 fu (by omega) (fu_lt (by decide))
-- the reference's walk
def OW (g : TOd) (b0 u w t : Nat) : Prop := ∀ b, b < 62 → g.1 b = lN (pW b0 u w t b)
def cJ (P : Nat → Nat) (u w s : Nat) : Nat → Nat → Nat
  | 0, _ => 0
  | j + 1, i => cJ P u w s j i + (if i = j + 1 then P j * u else 0) + (if i = j - 1 then P j * w else 0) + (if i = j then P j * s else 0)
theorem cJ_z (P : Nat → Nat) (u w s : Nat) : ∀ j, cJ P u w s j 0 = (if 0 < j then P 0 * w + P 0 * s else 0) + (if 1 < j then P 1 * w else 0) := by
  intro j
  induction j with
  | zero => rfl
  | succ j ih =>
    unfold cJ
    rw [ih, if_neg (show ¬ 0 = j + 1 by omega), if_pos (show 0 < j + 1 by omega)]
    by_cases h0 : j = 0
    · subst h0; simp
    · rw [if_pos (show 0 < j by omega), if_neg (show ¬ 0 = j by omega)]
      by_cases h1 : j = 1
      · subst h1; simp
      · rw [if_pos (show 1 < j by omega), if_pos (show 1 < j + 1 by omega), if_neg (show ¬ 0 = j - 1 by omega)]; omega
theorem cJ_s (P : Nat → Nat) (u w s i : Nat) : ∀ j, cJ P u w s j (i + 1) = (if i < j then P i * u else 0) + (if i + 1 < j then P (i + 1) * s else 0) + (if i + 2 < j then P (i + 2) * w else 0) := by
  intro j
  induction j with
  | zero => rfl
  | succ j ih =>
    unfold cJ
    rw [ih]
    by_cases h0 : j = i
    · subst h0
      rw [if_neg (show ¬ j < j by omega), if_neg (show ¬ j + 1 < j by omega), if_neg (show ¬ j + 2 < j by omega), if_pos rfl, if_neg (show ¬ j + 1 = j - 1 by omega), if_neg (show ¬ j + 1 = j by omega), if_pos (show j < j + 1 by omega), if_neg (show ¬ j + 1 < j + 1 by omega), if_neg (show ¬ j + 2 < j + 1 by omega)]
      omega
    · by_cases h1 : j = i + 1
      · subst h1
        rw [if_pos (show i < i + 1 by omega), if_neg (show ¬ i + 1 < i + 1 by omega), if_neg (show ¬ i + 2 < i + 1 by omega), if_neg (show ¬ i + 1 = i + 1 + 1 by omega), if_neg (show ¬ i + 1 = i + 1 - 1 by omega), if_pos rfl, if_pos (show i < i + 1 + 1 by omega), if_pos (show i + 1 < i + 1 + 1 by omega), if_neg (show ¬ i + 2 < i + 1 + 1 by omega)]
        omega
      · by_cases h2 : j = i + 2
        · subst h2
          rw [if_pos (show i < i + 2 by omega), if_pos (show i + 1 < i + 2 by omega), if_neg (show ¬ i + 2 < i + 2 by omega), if_neg (show ¬ i + 1 = i + 2 + 1 by omega), if_pos (show i + 1 = i + 2 - 1 by omega), if_neg (show ¬ i + 1 = i + 2 by omega), if_pos (show i < i + 2 + 1 by omega), if_pos (show i + 1 < i + 2 + 1 by omega), if_pos (show i + 2 < i + 2 + 1 by omega)]
          omega
        · rw [if_neg (show ¬ i + 1 = j + 1 by omega), if_neg (show ¬ i + 1 = j - 1 by omega), if_neg (show ¬ i + 1 = j by omega)]
          have e1 : (i < j + 1) = (i < j) := propext ⟨fun _ => by omega, fun _ => by omega⟩
          have e2 : (i + 1 < j + 1) = (i + 1 < j) := propext ⟨fun _ => by omega, fun _ => by omega⟩
          have e3 : (i + 2 < j + 1) = (i + 2 < j) := propext ⟨fun _ => by omega, fun _ => by omega⟩
          simp only [e1, e2, e3]
          omega
theorem cJ_end {b0 u w t : Nat} (huw : u + w ≤ 10) (ht : b0 + t < 49) : ∀ i, i < 62 → cJ (pW b0 u w t) u w (10 - u - w) 61 i = pW b0 u w (t + 1) i := by
  intro i hi
  cases i with
  | zero =>
    rw [cJ_z, pW_s, if_pos (by decide), if_pos (by decide), if_pos rfl, if_pos rfl, Nat.zero_mul, Nat.zero_add, ← Nat.mul_add, show w + (10 - u - w) = 10 - u by omega]
  | succ i =>
    rw [cJ_s, pW_s, if_neg (show ¬ i + 1 = 0 by omega), if_neg (show ¬ i + 1 = 0 by omega), Nat.add_sub_cancel, if_pos (show i < 61 by omega)]
    by_cases h1 : i + 1 < 61
    · rw [if_pos h1]
      by_cases h2 : i + 2 < 61
      · rw [if_pos h2]
      · rw [if_neg h2, pW_0 b0 u w t (i + 1 + 1) (by omega), Nat.zero_mul]
    · rw [if_neg h1, if_neg (by omega), pW_0 b0 u w t (i + 1) (by omega), pW_0 b0 u w t (i + 1 + 1) (by omega), Nat.zero_mul, Nat.zero_mul]
theorem addL {g : Nat → Int64} {c : Nat → Nat} {N k : Nat} (hg : ∀ i, i < N → g i = lN (c i)) (hk : k < N) (v : Nat) : ∀ i, i < N → vp_updL g k (g k + lN v) i = lN (c i + if i = k then v else 0) := by
  intro i hi
  by_cases e : i = k
  · subst e; rw [pk_uLs, if_pos rfl, hg _ hk, lN_add]
  · rw [pk_uLn e, if_neg e, hg i hi]; rfl
theorem m_52 {k43 : TOd → Int32 → Int32 → Int32 → Int32 → Int64 → Int32 → Option (Int32 × TOd)} {gvm : TM} {x1 x2 x3 x4 x7 : Int32} {x5 : Int64} : ∀ (k j n : Nat) (g : TOd), j + k = 62 → k < n → (∀ b, b < j → g.2 b = lN 0) → ∃ g2, p_X13_meanOf_52 k43 gvm n g x1 x2 x3 x4 x5 x7 (nI j) = p_X13_meanOf_76 k43 gvm fu (g.1, g2) x1 x2 x3 x4 x5 x7 0 ∧ ∀ b, b < 62 → g2 b = lN 0 := by
  intro k
  induction k with
  | zero =>
    intro j n g hj hn hg
    obtain ⟨n, rfl⟩ : ∃ m, n = m + 1 := ⟨n - 1, by omega⟩
    have hj : j = 62 := by omega
    subst hj
    refine ⟨g.2, ?_, hg⟩
    unfold p_X13_meanOf_52
    rw [if_pos (le_t (c := 62) (Nat.le_refl _) (by decide))]
  | succ k ih =>
    intro j n g hj hn hg
    obtain ⟨n, rfl⟩ : ∃ m, n = m + 1 := ⟨n - 1, by omega⟩
    obtain ⟨g2, h1, h2⟩ := ih (j + 1) n (g.1, vp_updL g.2 j 0) (by omega) (by omega) (fun b hb => by
      by_cases e2 : b = j
      · subst e2; show vp_updL _ _ _ _ = _; rw [pk_uLs]; rfl
      · show vp_updL _ _ _ _ = _; rw [pk_uLn e2]; exact hg b (by omega))
    refine ⟨g2, ?_, h2⟩
    unfold p_X13_meanOf_52
    rw [if_neg (le_f (c := 62) (by omega) (by decide)), if_pos (ix_nI (by omega) (by decide)), cl_nI (by omega), nI_1]
    exact h1
theorem m_76 {k43 : TOd → Int32 → Int32 → Int32 → Int32 → Int64 → Int32 → Option (Int32 × TOd)} {gvm : TM} {x1 x2 x7 : Int32} {x5 : Int64} {P : Nat → Nat} {u w : Nat} (huw : u + w ≤ 10) {g1 : Nat → Int64} (hP : ∀ b, b < 62 → g1 b = lN (P b)) : ∀ (k j n : Nat) (g2 : Nat → Int64), j + k = 61 → k < n → (∀ b, b < 62 → g2 b = lN (cJ P u w (10 - u - w) j b)) → ∃ g3, p_X13_meanOf_76 k43 gvm n (g1, g2) x1 x2 (nI u) (nI w) x5 x7 (nI j) = p_X13_meanOf_172 k43 gvm fu (g1, g3) x1 x2 (nI u) (nI w) x5 x7 0 ∧ ∀ b, b < 62 → g3 b = lN (cJ P u w (10 - u - w) 61 b) := by
  intro k
  induction k with
  | zero =>
    intro j n g2 hj hn hg
    obtain ⟨n, rfl⟩ : ∃ m, n = m + 1 := ⟨n - 1, by omega⟩
    have hj : j = 61 := by omega
    subst hj
    refine ⟨g2, ?_, hg⟩
    unfold p_X13_meanOf_76
    rw [if_pos (le_t (c := 61) (Nat.le_refl _) (by decide))]
  | succ k ih =>
    intro j n g2 hj hn hg
    obtain ⟨n, rfl⟩ : ∃ m, n = m + 1 := ⟨n - 1, by omega⟩
    have a1 := addL hg (k := j + 1) (by omega) (P j * u)
    have a2 := addL a1 (k := j - 1) (by omega) (P j * w)
    have a3 := addL a2 (k := j) (by omega) (P j * (10 - u - w))
    obtain ⟨g3, h1, h2⟩ := ih (j + 1) n _ (by omega) (by omega) a3
    refine ⟨g3, ?_, h2⟩
    have hs : ((10 : Int32) - nI u - nI w).toInt64 = lN (10 - u - w) := by
      rw [show (10 : Int32) - nI u = nI (10 - u) from pk_sub (a := 10) (by omega), pk_sub (by omega), nI_l (by omega)]
    have hc2 : ∀ (q : Nat) (g : Nat → Int64), q < 62 → p_X13_meanOf_122 k43 (p_X13_meanOf_76 k43 gvm n) gvm (g1, g) x1 x2 (nI u) (nI w) x5 x7 (nI j) (nI q) = p_X13_meanOf_76 k43 gvm n (g1, vp_updL (vp_updL g q (g q + lN (P j * w))) j (vp_updL g q (g q + lN (P j * w)) j + lN (P j * (10 - u - w)))) x1 x2 (nI u) (nI w) x5 x7 (nI (j + 1)) := by
      intro q g hq
      unfold p_X13_meanOf_122
      rw [if_pos (ix_nI hq (by decide)), if_pos (ix_nI (by omega) (by decide)), if_pos (ix_nI hq (by decide)), if_pos (ix_nI (by omega) (by decide)), if_pos (ix_nI (by omega) (by decide)), if_pos (ix_nI (by omega) (by decide)), cl_nI (by omega), cl_nI (by omega), hs, nI_l (by omega)]
      simp only []
      rw [hP j (by omega), lN_mul, lN_mul, nI_1]
    unfold p_X13_meanOf_76
    rw [if_neg (le_f (c := 61) (by omega) (by decide)), nI_1, if_pos (ix_nI (by omega) (by decide)), if_pos (ix_nI (by omega) (by decide)), if_pos (ix_nI (by omega) (by decide)), cl_nI (by omega), cl_nI (by omega), nI_l (by omega)]
    simp only []
    rw [hP j (by omega), lN_mul]
    by_cases h0 : j = 0
    · rw [if_pos (ler_t (c := 0) (by omega) (by decide))]
      have hz : (0 : Int32) = nI (j - 1) := by rw [h0]; rfl
      have h3 := hc2 (j - 1) (vp_updL g2 (j + 1) (g2 (j + 1) + lN (P j * u))) (by omega)
      rw [← hz] at h3
      exact h3.trans h1
    · rw [if_neg (ler_f (c := 0) (by omega) (by omega)), pred_nI (by omega), hc2 _ _ (by omega)]
      exact h1
theorem m_172 {k43 : TOd → Int32 → Int32 → Int32 → Int32 → Int64 → Int32 → Option (Int32 × TOd)} {gvm : TM} {x1 x2 x3 x4 x7 : Int32} {x5 : Int64} : ∀ (k j n : Nat) (g : TOd), j + k = 62 → k < n → (∀ b, b < j → g.1 b = g.2 b) → ∃ g', p_X13_meanOf_172 k43 gvm n g x1 x2 x3 x4 x5 x7 (nI j) = k43 g' x1 x2 x3 x4 (x5 * 10) (x7 + 1) ∧ ∀ b, b < 62 → g'.1 b = g.2 b := by
  intro k
  induction k with
  | zero =>
    intro j n g hj hn hg
    obtain ⟨n, rfl⟩ : ∃ m, n = m + 1 := ⟨n - 1, by omega⟩
    have hj : j = 62 := by omega
    subst hj
    refine ⟨g, ?_, hg⟩
    unfold p_X13_meanOf_172
    rw [if_pos (le_t (c := 62) (Nat.le_refl _) (by decide))]
  | succ k ih =>
    intro j n g hj hn hg
    obtain ⟨n, rfl⟩ : ∃ m, n = m + 1 := ⟨n - 1, by omega⟩
    obtain ⟨g2, h1, h2⟩ := ih (j + 1) n (vp_updL g.1 j (g.2 j), g.2) (by omega) (by omega) (fun b hb => by
      by_cases e2 : b = j
      · subst e2; show vp_updL _ _ _ _ = _; rw [pk_uLs]
      · show vp_updL _ _ _ _ = _; rw [pk_uLn e2]; exact hg b (by omega))
    refine ⟨g2, ?_, h2⟩
    unfold p_X13_meanOf_172
    rw [if_neg (le_f (c := 62) (by omega) (by decide)), if_pos (ix_nI (by omega) (by decide)), if_pos (ix_nI (by omega) (by decide)), cl_nI (by omega), nI_1]
    exact h1
theorem m_219 {O : Nat} {gvm : TM} {D : MD} {g : TOd} (hD : DM gvm D) (ho : OD O D) {d b0 u w t : Nat} (hd : d < 10) (hh : dH D d = true) (huw : u + w ≤ 10) (hb0 : b0 ≤ 40) (ht : t ≤ 8) (h : OW g b0 u w t) : ∀ k j n : Nat, j + k = 62 → k < n → p_X13_meanOf_219 gvm n g (nI d) (lN (10 ^ t)) (lN (sN (fun b => pW b0 u w t b * dW D d b) j)) (nI j) = some (nI (mW D d b0 u w t), g) := by
  intro k
  induction k with
  | zero =>
    intro j n hj hn
    obtain ⟨n, rfl⟩ : ∃ m, n = m + 1 := ⟨n - 1, by omega⟩
    have hj : j = 62 := by omega
    subst hj
    have h10 := p10_le ht
    have hs := sW_le ho hd huw hb0 ht
    have hs2 : 10 ^ t * 254803968 ≤ 100000000 * 254803968 := Nat.mul_le_mul_right _ h10.2
    have htl : sN (fun b => pW b0 u w t b * dW D d b) 62 = sW D d b0 u w t := sN_tail (a := 49) (fun i hi => by rw [pW_0 _ _ _ _ _ (by omega), Nat.zero_mul]) 13
    unfold p_X13_meanOf_219
    rw [if_pos (le_t (c := 62) (Nat.le_refl _) (by decide)), if_pos (fun e => by rw [lz (by omega)] at e; omega), htl, pk_lDiv (show sW D d b0 u w t < 2 ^ 63 by omega) (by omega) (by omega), lN_i]
    rfl
  | succ k ih =>
    intro j n hj hn
    obtain ⟨n, rfl⟩ : ∃ m, n = m + 1 := ⟨n - 1, by omega⟩
    have hi := ih (j + 1) n (by omega) (by omega)
    rw [show sN (fun b => pW b0 u w t b * dW D d b) (j + 1) = sN (fun b => pW b0 u w t b * dW D d b) j + pW b0 u w t j * dW D d j from rfl] at hi
    have hp := pW_le (b := j) huw hb0 ht
    unfold p_X13_meanOf_219 p_X13_meanOf_259
    rw [if_neg (le_f (c := 62) (by omega) (by decide)), if_pos (ix_nI (by omega) (by decide)), cl_nI (by omega), h j (by omega), nI_1]
    have hle : lg_cmp (lN (pW b0 u w t j)) 0 ≤ 0 ↔ pW b0 u w t j = 0 := by
      rw [lg_cmp_le, show (0 : Int64) = lN 0 from rfl, pk_lLE (by omega) (by decide)]; omega
    by_cases hz : pW b0 u w t j = 0
    · rw [if_pos (hle.2 hz)]
      rw [hz, Nat.zero_mul] at hi
      exact hi
    · rw [if_neg (fun e => hz (hle.1 e)), if_pos (ix_nI (by omega) (by decide)), m_worth hD ho hd hh (by omega), some_bind', nI_l (dW_i ho hd (by omega)), lN_mul, lN_add]
      exact hi
theorem m_43 {O : Nat} {gvm : TM} {D : MD} (hD : DM gvm D) (ho : OD O D) {d b0 u w N : Nat} (hd : d < 10) (hh : dH D d = true) (huw : u + w ≤ 10) (hb0 : b0 ≤ 40) (hN : N ≤ 8) : ∀ (k t n : Nat) (g : TOd), t + k = N → k < n → OW g b0 u w t → ∃ g', p_X13_meanOf_43 gvm n g (nI d) (nI N) (nI u) (nI w) (lN (10 ^ t)) (nI t) = some (nI (mW D d b0 u w N), g') := by
  intro k
  induction k with
  | zero =>
    intro t n g ht hn hg
    obtain ⟨n, rfl⟩ : ∃ m, n = m + 1 := ⟨n - 1, by omega⟩
    have ht : t = N := by omega
    subst ht
    unfold p_X13_meanOf_43
    rw [if_pos (nI_le (Nat.le_refl _) (by omega))]
    exact ⟨g, m_219 hD ho hd hh huw hb0 hN hg 62 0 fu (by omega) (fu_lt (by decide))⟩
  | succ k ih =>
    intro t n g ht hn hg
    obtain ⟨n, rfl⟩ : ∃ m, n = m + 1 := ⟨n - 1, by omega⟩
    unfold p_X13_meanOf_43
    rw [if_neg (nI_ge (by omega) (by omega))]
    obtain ⟨g2, a1, a2⟩ := m_52 (k43 := p_X13_meanOf_43 gvm n) (gvm := gvm) (x1 := nI d) (x2 := nI N) (x3 := nI u) (x4 := nI w) (x5 := lN (10 ^ t)) (x7 := nI t) 62 0 fu g (by omega) (fu_lt (by decide)) (fun b hb => absurd hb (by omega))
    obtain ⟨g3, b1, b2⟩ := m_76 (k43 := p_X13_meanOf_43 gvm n) (gvm := gvm) (x1 := nI d) (x2 := nI N) (x5 := lN (10 ^ t)) (x7 := nI t) huw hg 61 0 fu g2 (by omega) (fu_lt (by decide)) a2
    obtain ⟨g4, c1, c2⟩ := m_172 (k43 := p_X13_meanOf_43 gvm n) (gvm := gvm) (x1 := nI d) (x2 := nI N) (x3 := nI u) (x4 := nI w) (x5 := lN (10 ^ t)) (x7 := nI t) 62 0 fu (g.1, g3) (by omega) (fu_lt (by decide)) (fun b hb => absurd hb (by omega))
    obtain ⟨g', d1⟩ := ih (t + 1) n g4 (by omega) (by omega) (fun b hb => by rw [c2 b hb]; show g3 b = _; rw [b2 b hb, cJ_end huw (by omega) b hb])
    refine ⟨g', ?_⟩
    rw [Nat.pow_succ] at d1
    rw [show (10 : Int64) = lN 10 from rfl, lN_mul, nI_1] at c1
    exact a1.trans (b1.trans (c1.trans d1))
theorem m_3 {gvm : TM} {b0 u w : Nat} {x1 x2 x3 x4 : Int32} (hB : gvm.2.2.1 = nI b0) (hb0 : b0 ≤ 40) : ∀ (k j n : Nat) (g : TOd), j + k = 62 → k < n → (∀ b, b < j → g.1 b = lN (pW b0 u w 0 b)) → ∃ g', p_X13_meanOf_3 gvm n g x1 x2 x3 x4 (nI j) = p_X13_meanOf_43 gvm fu g' x1 x2 x3 x4 1 0 ∧ OW g' b0 u w 0 := by
  intro k
  induction k with
  | zero =>
    intro j n g hj hn hg
    obtain ⟨n, rfl⟩ : ∃ m, n = m + 1 := ⟨n - 1, by omega⟩
    have hj : j = 62 := by omega
    subst hj
    refine ⟨g, ?_, hg⟩
    unfold p_X13_meanOf_3
    rw [if_pos (le_t (c := 62) (Nat.le_refl _) (by decide))]
  | succ k ih =>
    intro j n g hj hn hg
    obtain ⟨n, rfl⟩ : ∃ m, n = m + 1 := ⟨n - 1, by omega⟩
    unfold p_X13_meanOf_3 p_X13_meanOf_30
    rw [if_neg (le_f (c := 62) (by omega) (by decide)), hB, if_pos (ix_nI (by omega) (by decide)), if_pos (ix_nI (by omega) (by decide)), cl_nI (by omega), nI_1]
    by_cases e : j = b0
    · rw [if_pos (by rw [e])]
      refine ih (j + 1) n _ (by omega) (by omega) (fun b hb => ?_)
      by_cases e2 : b = j
      · subst e2; show vp_updL _ _ _ _ = _; rw [pk_uLs]; unfold pW; rw [if_pos e]; rfl
      · show vp_updL _ _ _ _ = _; rw [pk_uLn e2]; exact hg b (by omega)
    · rw [if_neg (ne_f e (by omega) (by omega))]
      refine ih (j + 1) n _ (by omega) (by omega) (fun b hb => ?_)
      by_cases e2 : b = j
      · subst e2; show vp_updL _ _ _ _ = _; rw [pk_uLs]; unfold pW; rw [if_neg e]; rfl
      · show vp_updL _ _ _ _ = _; rw [pk_uLn e2]; exact hg b (by omega)
theorem m_meanOf {O : Nat} {gvm : TM} {D : MD} (hD : DM gvm D) (ho : OD O D) {d b0 u w N : Nat} (hB : gvm.2.2.1 = nI b0) (hd : d < 10) (hh : dH D d = true) (huw : u + w ≤ 10) (hb0 : b0 ≤ 40) (hN : N ≤ 8) (g : TOd) : ∃ g', p_X13_meanOf gvm g (nI d) (nI N) (nI u) (nI w) = some (nI (mW D d b0 u w N), g') := by
  obtain ⟨g1, a1, a2⟩ := m_3 (u := u) (w := w) (x1 := nI d) (x2 := nI N) (x3 := nI u) (x4 := nI w) hB hb0 62 0 fu g (by omega) (fu_lt (by decide)) (fun b hb => absurd hb (by omega))
  obtain ⟨g2, b1⟩ := m_43 hD ho hd hh huw hb0 hN N 0 fu g1 (by omega) (fu_lt (by omega)) a2
  exact ⟨g2, a1.trans b1⟩
theorem g_tenths (x y : Int32) : (∃ u w, u + w ≤ 10 ∧ x = nI u ∧ y = nI w ∧ p_X12_needTenths x y = some (.inl (), ()) ∧ p_X13_isTenths 0 x y = some (1, 0)) ∨ (p_X12_needTenths x y = some (.inr 2, ()) ∧ p_X13_isTenths 0 x y = some (0, 2)) := by
  unfold p_X12_needTenths p_X13_isTenths p_X13_within p_X13_isTenths_33 p_X13_isTenths_34
  by_cases h1 : x < 0
  · right; rw [if_pos h1, if_pos h1]; exact ⟨rfl, rfl⟩
  · rw [if_neg h1, if_neg h1]
    by_cases h2 : (10 : Int32) < x
    · right; rw [if_pos h2, if_pos h2]; exact ⟨rfl, rfl⟩
    · rw [if_neg h2, if_neg h2, some_bind', if_neg n10]
      by_cases h3 : y < 0
      · right; rw [if_pos h3, if_pos h3]; exact ⟨rfl, rfl⟩
      · rw [if_neg h3, if_neg h3]
        by_cases h4 : (10 : Int32) < y
        · right; rw [if_pos h4, if_pos h4]; exact ⟨rfl, rfl⟩
        · rw [if_neg h4, if_neg h4, some_bind', if_neg n10]
          have h10 : (10 : Int32).toInt = 10 := by decide
          have h0 : (0 : Int32).toInt = 0 := by decide
          rw [Int32.lt_iff_toInt_lt] at h1 h2 h3 h4
          obtain ⟨u, hu, rfl⟩ := ix_of (x := x) (n := 11) ⟨by omega, by omega⟩ (by decide)
          obtain ⟨w, hw, rfl⟩ := ix_of (x := y) (n := 11) ⟨by omega, by omega⟩ (by decide)
          rw [nI_add]
          by_cases h5 : u + w ≤ 10
          · left
            refine ⟨u, w, h5, rfl, rfl, ?_, ?_⟩
            · rw [if_pos (ler_t (c := 10) h5 (by decide))]
            · rw [if_neg (lt_f (c := 10) h5 (by decide))]; rfl
          · right
            rw [if_neg (ler_f (c := 10) (by omega) (by omega)), if_pos (lt_t (c := 10) (by omega) (by omega))]; exact ⟨rfl, rfl⟩
theorem c_mean_49 {O : Nat} {gvn : TV} {gd : TD} {D : MD} (hD : DC gd D) (ho : OD O D) {d b0 u w N : Nat} (hd : d < 10) (huw : u + w ≤ 10) (hb0 : b0 ≤ 40) (hN : N ≤ 8) : ∀ (k t n : Nat) (g : TW), t + k = N → k < n → WK g b0 u w t → ∃ g', p_X12_mean_49 gvn gd n g (nI d) (nI N) (nI u) (nI w) (nI t) = some (Sum.inl (nI (mW D d b0 u w N)), g') := by
  intro k
  induction k with
  | zero =>
    intro t n g ht hn hg
    obtain ⟨n, rfl⟩ : ∃ m, n = m + 1 := ⟨n - 1, by omega⟩
    have ht : t = N := by omega
    subst ht
    refine ⟨g, ?_⟩
    unfold p_X12_mean_49
    rw [if_pos (nI_le (Nat.le_refl _) (by omega)), c_meanOf hD ho hd huw hb0 hN hg, some_bind', lN_i]
  | succ k ih =>
    intro t n g ht hn hg
    obtain ⟨n, rfl⟩ : ∃ m, n = m + 1 := ⟨n - 1, by omega⟩
    obtain ⟨g2, a1, a2⟩ := c_step huw (by omega) hg
    obtain ⟨g', b1⟩ := ih (t + 1) n g2 (by omega) (by omega) a2
    refine ⟨g', ?_⟩
    unfold p_X12_mean_49
    rw [if_neg (nI_ge (by omega) (by omega)), a1, some_bind', nI_1]
    exact b1
theorem q_mean {gvn : TV} {gdn : TD} {gcn : TR} {gvm : TM} {grc : TRm} {S : MS} (hc : CS gvn gdn gcn S) (hr : RS gvm grc S) (ho : OS S) (gth x1 x2 x3 x4 : Int32) (gwa : TW) (god : TOd) : ∃ v gwa' r t od, p_X12_mean gvn gdn gwa x1 x2 x3 x4 = some (v, gwa') ∧ p_X13_mean gth gvm god x1 x2 x3 x4 = some (r, t, od) ∧ Ag2 v r t := by
  have h40 := ho.1.2.1
  unfold p_X12_mean p_X13_mean
  rcases g_door hc.2.1 hr.2.1 ho.2.1 x1 with ⟨d, hd, hh, rfl, e1, e2⟩ | ⟨e1, e2⟩
  · rw [e1, some_bind', xb_l, e2, some_bind', if_neg n10]
    simp only []
    rcases q_ix x2 9 (by decide) with h | h | ⟨N, hN, rfl⟩
    · rw [show p_X13_within x2 0 8 = some 0 from within_out (n := 8) (by decide) (Or.inl h), some_bind', r_no2, some_bind', if_pos rfl]
      rcases g_tenths x3 x4 with ⟨u, w, huw, rfl, rfl, e3, e4⟩ | ⟨e3, e4⟩
      · rw [e3, some_bind', xb_l, if_pos h]; exact ⟨_, _, _, _, _, rfl, rfl, Or.inr (Or.inr ⟨rfl, rfl⟩)⟩
      · rw [e3]; exact ⟨_, _, _, _, _, rfl, rfl, Or.inr (Or.inr ⟨rfl, rfl⟩)⟩
    · rw [show p_X13_within x2 0 8 = some 0 from within_out (n := 8) (by decide) (Or.inr h), some_bind', r_no2, some_bind', if_pos rfl]
      rcases g_tenths x3 x4 with ⟨u, w, huw, rfl, rfl, e3, e4⟩ | ⟨e3, e4⟩
      · rw [e3, some_bind', xb_l, if_neg h.1, if_neg (fun e => by
          rw [Int32.le_iff_toInt_le] at e
          have h8 : (8 : Int32).toInt = 8 := by decide
          have := h.2.2
          omega)]; exact ⟨_, _, _, _, _, rfl, rfl, Or.inr (Or.inr ⟨rfl, rfl⟩)⟩
      · rw [e3]; exact ⟨_, _, _, _, _, rfl, rfl, Or.inr (Or.inr ⟨rfl, rfl⟩)⟩
    · rw [show p_X13_within (nI N) 0 8 = some 1 from within_in (n := 8) (by omega) (by decide), some_bind', r_ok, some_bind', if_neg n10]
      rcases g_tenths x3 x4 with ⟨u, w, huw, rfl, rfl, e3, e4⟩ | ⟨e3, e4⟩
      · obtain ⟨g1, a1, a2⟩ := c_begin u w h40 gwa
        obtain ⟨g2, b1⟩ := c_mean_49 (gvn := gvn) hc.2.1 ho.2.1 hd huw h40 (show N ≤ 8 by omega) N 0 fu g1 (by omega) (fu_lt (by omega)) a2
        obtain ⟨g3, c1⟩ := m_meanOf hr.2.1 ho.2.1 hr.1.2.1 hd hh huw h40 (show N ≤ 8 by omega) god
        rw [e3, some_bind', xb_l, if_neg (nI_pos (by omega)), if_pos (ler_t (c := 8) (by omega) (by decide)), hc.1.2.1, a1, some_bind', e4, some_bind', if_neg n10, c1, some_bind']
        exact ⟨_, _, _, _, _, b1, rfl, Or.inl ⟨rfl, rfl⟩⟩
      · rw [e3, e4]; exact ⟨_, _, _, _, _, rfl, rfl, Or.inr (Or.inr ⟨rfl, rfl⟩)⟩
  · rw [e1, e2]; exact ⟨_, _, _, _, _, rfl, rfl, Or.inr (Or.inl ⟨rfl, rfl⟩)⟩
theorem q_pay_loop {O : Nat} {gvn : TV} {gd : TD} {gvm : TM} {D : MD} {gth : Int32} (hD : DC gd D) (hm : DM gvm D) (ho : OD O D) {d b0 u w : Nat} (hB : gvm.2.2.1 = nI b0) (hd : d < 10) (hh : dH D d = true) (huw : u + w ≤ 10) (hb0 : b0 ≤ 40) : ∀ (k t n m y : Nat) (x4 : Int32) (g : TW) (god : TOd), t + k = 8 → k < n → k < m → y ≤ 254803968 → WK g b0 u w t → ∃ v g' od, p_X12_pay_47 gvn gd n g (nI d) (nI u) (nI w) x4 (lN y) (nI (t + 1)) = some (Sum.inl v, g') ∧ p_X13_pay_40 gvm m gth god (nI d) (nI u) (nI w) x4 (nI y) (nI (t + 1)) = some (v, gth, od) := by
  intro k
  induction k with
  | zero =>
    intro t n m y x4 g god ht hn hm2 hy hg
    obtain ⟨n, rfl⟩ : ∃ a, n = a + 1 := ⟨n - 1, by omega⟩
    obtain ⟨m, rfl⟩ : ∃ a, m = a + 1 := ⟨m - 1, by omega⟩
    have ht : t = 8 := by omega
    subst ht
    unfold p_X12_pay_47 p_X13_pay_40
    rw [if_pos (lt_t (c := 8) (by decide) (by decide)), if_pos (lt_t (c := 8) (by decide) (by decide))]
    exact ⟨_, _, _, rfl, rfl⟩
  | succ k ih =>
    intro t n m y x4 g god ht hn hm2 hy hg
    obtain ⟨n, rfl⟩ : ∃ a, n = a + 1 := ⟨n - 1, by omega⟩
    obtain ⟨m, rfl⟩ : ∃ a, m = a + 1 := ⟨m - 1, by omega⟩
    obtain ⟨g2, a1, a2⟩ := c_step huw (show b0 + t < 49 by omega) hg
    obtain ⟨od, c1⟩ := m_meanOf hm ho hB hd hh huw hb0 (show t + 1 ≤ 8 by omega) god
    have hb := mW_le ho hd huw hb0 (show t + 1 ≤ 8 by omega)
    unfold p_X12_pay_47 p_X13_pay_40 p_X12_pay_96 p_X13_pay_76
    rw [if_neg (lt_f (c := 8) (by omega) (by decide)), if_neg (lt_f (c := 8) (by omega) (by decide)), a1, some_bind', c_meanOf hD ho hd huw hb0 (by omega) a2, some_bind', c1, some_bind', nI_1]
    by_cases hlt : mW D d b0 u w (t + 1) < y
    · rw [if_neg (fun e => by rw [lg_cmp_ge, pk_lLE (by omega) (by omega)] at e; omega), if_pos (nI_lt hlt (by omega))]
      exact ih (t + 1) n m _ _ g2 od (by omega) (by omega) (by omega) hb a2
    · rw [if_pos ((lg_cmp_ge _ _).2 ((pk_lLE (by omega) (by omega)).2 (by omega))), if_neg (nI_nlt (by omega) (by omega))]
      exact ih (t + 1) n m _ _ g2 od (by omega) (by omega) (by omega) hy a2
theorem q_pay {gvn : TV} {gdn : TD} {gcn : TR} {gvm : TM} {grc : TRm} {S : MS} (hc : CS gvn gdn gcn S) (hr : RS gvm grc S) (ho : OS S) (gth x1 x2 x3 : Int32) (gwa : TW) (god : TOd) : ∃ v gwa' r t od, p_X12_pay gvn gdn gwa x1 x2 x3 = some (v, gwa') ∧ p_X13_pay gth gvm god x1 x2 x3 = some (r, t, od) ∧ Ag2 v r t := by
  have h40 := ho.1.2.1
  unfold p_X12_pay p_X13_pay
  rcases g_door hc.2.1 hr.2.1 ho.2.1 x1 with ⟨d, hd, hh, rfl, e1, e2⟩ | ⟨e1, e2⟩
  · rw [e1, some_bind', xb_l, e2, some_bind', if_neg n10]
    simp only []
    rcases g_tenths x2 x3 with ⟨u, w, huw, rfl, rfl, e3, e4⟩ | ⟨e3, e4⟩
    · obtain ⟨g1, a1, a2⟩ := c_begin u w h40 gwa
      obtain ⟨g3, c1⟩ := m_meanOf hr.2.1 ho.2.1 hr.1.2.1 hd hh huw h40 (show 0 ≤ 8 by omega) god
      have c1 : p_X13_meanOf gvm god (nI d) 0 (nI u) (nI w) = _ := c1
      obtain ⟨v, g', od, b1, b2⟩ := q_pay_loop (gvn := gvn) (gth := 0) hc.2.1 hr.2.1 ho.2.1 hr.1.2.1 hd hh huw h40 8 0 fu fu _ 0 g1 g3 (by omega) (fu_lt (by decide)) (fu_lt (by decide)) (mW_le ho.2.1 hd huw h40 (show 0 ≤ 8 by omega)) a2
      rw [e3, some_bind', xb_l, hc.1.2.1, a1, some_bind', c_meanOf hc.2.1 ho.2.1 hd huw h40 (show 0 ≤ 8 by omega) a2, some_bind', e4, some_bind', if_neg n10, c1, some_bind']
      exact ⟨_, _, _, _, _, b1, b2, Or.inl ⟨rfl, rfl⟩⟩
    · rw [e3, e4]; exact ⟨_, _, _, _, _, rfl, rfl, Or.inr (Or.inr ⟨rfl, rfl⟩)⟩
  · rw [e1, e2]; exact ⟨_, _, _, _, _, rfl, rfl, Or.inr (Or.inl ⟨rfl, rfl⟩)⟩
