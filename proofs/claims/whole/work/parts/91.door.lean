theorem le_t {c d : Nat} (h : c ≤ d) (hd : d < 2147483648) : (OfNat.ofNat c : Int32) ≤ nI d := nI_le h hd
theorem le_f {c d : Nat} (h : d < c) (hc : c < 2147483648) : ¬ (OfNat.ofNat c : Int32) ≤ nI d := nI_ge h hc
theorem lt_t {c d : Nat} (h : c < d) (hd : d < 2147483648) : (OfNat.ofNat c : Int32) < nI d := nI_lt h hd
theorem lt_f {c d : Nat} (h : d ≤ c) (hc : c < 2147483648) : ¬ (OfNat.ofNat c : Int32) < nI d := nI_nlt h hc
theorem ltr_t {c d : Nat} (h : d < c) (hc : c < 2147483648) : nI d < (OfNat.ofNat c : Int32) := nI_lt h hc
theorem ltr_f {c d : Nat} (h : c ≤ d) (hd : d < 2147483648) : ¬ nI d < (OfNat.ofNat c : Int32) := nI_nlt h hd
theorem eq_t {c d : Nat} (h : d = c) : nI d = (OfNat.ofNat c : Int32) := by rw [h]; rfl
theorem eq_f {c d : Nat} (h : d ≠ c) (hd : d < 2147483648) (hc : c < 2147483648) : ¬ nI d = (OfNat.ofNat c : Int32) := fun e => h ((nI_eq (a := d) (b := c) hd hc).1 e)
theorem ne_f {c d : Nat} (h : d ≠ c) (hd : d < 2147483648) (hc : c < 2147483648) : ¬ nI d = nI c := fun e => h ((nI_eq hd hc).1 e)
theorem pred_nI {b : Nat} (h : 1 ≤ b) : nI b - 1 = nI (b - 1) := pk_sub (b := 1) h
abbrev MD := Nat × Nat × (Nat → Nat) × (Nat → Nat → Nat) × (Nat → Nat) × (Nat → Nat)
abbrev dL (D : MD) : Nat := D.1
abbrev dB (D : MD) : Nat := D.2.1
abbrev dM (D : MD) (d : Nat) : Nat := D.2.2.1 d
abbrev dF (D : MD) (d k : Nat) : Nat := D.2.2.2.1 d k
abbrev dP (D : MD) (d : Nat) : Nat := D.2.2.2.2.1 d
abbrev dQ (D : MD) (d : Nat) : Nat := D.2.2.2.2.2 d
abbrev dH (D : MD) (d : Nat) : Bool := (dB D).testBit d
/-- the doors are as told -/
def OD (O : Nat) (D : MD) : Prop := dL D ≤ 2 ∧ dB D < 1024 ∧ ∀ d, d < 10 → dH D d = true → 1 ≤ dM D d ∧ dM D d ≤ 5 ∧ (∀ k, k < dM D d → dF D d k ≤ 35) ∧ dP D d < O ∧ dQ D d < O ∧ dP D d ≠ dQ D d
def DC (gd : TD) (D : MD) : Prop := gd.1 = nI (dL D) ∧ gd.2.1 = nI (dB D) ∧ ∀ d, d < 10 → dH D d = true → gd.2.2.1 d = nI (dP D d) ∧ gd.2.2.2.1 d = nI (dQ D d) ∧ gd.2.2.2.2.1 d = nI (dM D d) ∧ ∀ k, k < dM D d → gd.2.2.2.2.2 (d * 5 + k) = nI (dF D d k)
def DM (gvm : TM) (D : MD) : Prop := gvm.2.1 = nI (dL D) ∧ ∀ d, d < 10 → gvm.2.2.2.2.2.2.2.1 d = (if dH D d then 1 else 0) ∧ (dH D d = true → gvm.2.2.2.2.2.2.2.2.1 d = nI (dP D d) ∧ gvm.2.2.2.2.2.2.2.2.2.1 d = nI (dQ D d) ∧ gvm.2.2.2.2.2.2.2.2.2.2.1 d = nI (dM D d) ∧ ∀ k, k < dM D d → gvm.2.2.2.2.2.2.2.2.2.2.2 (5 * d + k) = nI (dF D d k))
def wv (F : Nat → Nat) (b : Nat) : Nat → Nat
  | 0 => 0
  | k + 1 => wv F b k * b + (if F k < b then F k else b - 1)
def wo (F : Nat → Nat) (b : Nat) : Nat → Bool
  | 0 => false
  | k + 1 => wo F b k || decide (b ≤ F k)
def wW (L m : Nat) (F : Nat → Nat) (b : Nat) : Nat := if 2 ≤ b then (if wo F b m then (if L = 2 then wv F b m else if L = 1 then b ^ m else 0) else wv F b m) else if b = 1 then m else 0
theorem wv_lt (F : Nat → Nat) {b : Nat} (hb : 2 ≤ b) : ∀ k, wv F b k < b ^ k := by
  intro k
  induction k with
  | zero => simp [wv]
  | succ k ih =>
    have h1 : (wv F b k + 1) * b ≤ b ^ k * b := Nat.mul_le_mul_right b ih
    rw [Nat.add_mul, Nat.one_mul] at h1
    rw [Nat.pow_succ]; unfold wv
    by_cases h : F k < b
    · rw [if_pos h]; omega
    · rw [if_neg h]; omega
theorem wW_le (L : Nat) {m b c : Nat} (F : Nat → Nat) (hm : m ≤ 5) (hb : b ≤ c) (hc : 5 ≤ c) : wW L m F b ≤ c ^ 5 := by
  unfold wW
  have h5 : c ^ 1 ≤ c ^ 5 := Nat.pow_le_pow_right (by omega) (by omega)
  rw [Nat.pow_one] at h5
  by_cases h : 2 ≤ b
  · rw [if_pos h]
    have h1 : b ^ m ≤ c ^ 5 := Nat.le_trans (Nat.pow_le_pow_left hb m) (Nat.pow_le_pow_right (by omega) hm)
    have h2 := wv_lt F h m
    repeat' split
    all_goals omega
  · rw [if_neg h]
    repeat' split
    all_goals omega
/-- what a door is worth: 0 where there is none -/
def dW (D : MD) (d b : Nat) : Nat := if dH D d then wW (dL D) (dM D d) (dF D d) b else 0
theorem dW_le {O : Nat} {D : MD} (h : OD O D) {d b c : Nat} (hd : d < 10) (hb : b ≤ c) (hc : 5 ≤ c) : dW D d b ≤ c ^ 5 := by
  unfold dW
  by_cases hh : dH D d = true
  · rw [if_pos hh]; exact wW_le _ _ (h.2.2 d hd hh).2.1 hb hc
  · rw [if_neg hh]; exact Nat.zero_le _
theorem bit10 : ∀ B, B < 1024 → ∀ d, d < 10 → (((nI B >>> (nI d &&& 31)) &&& 1 = 0) ↔ B.testBit d = false) := by decide +kernel
theorem c_has {gd : TD} {D : MD} (h : DC gd D) (hB : dB D < 1024) {d : Nat} (hd : d < 10) : p_X4_has gd (nI d) = some (if dH D d then 1 else 0) := by
  unfold p_X4_has
  rw [if_neg (nI_pos (by omega)), if_neg (le_f (c := 10) hd (by decide)), h.2.1]
  have hb := bit10 (dB D) hB d hd
  by_cases hh : dH D d = true
  · rw [if_neg (fun e => by have h9 : dH D d = false := hb.1 e; rw [h9] at hh; exact absurd hh (by decide)), if_pos hh]
  · rw [if_pos (hb.2 (by simpa using hh)), if_neg hh]
theorem c_has_out {gd : TD} {x : Int32} (h : x < 0 ∨ (10 : Int32) ≤ x) : p_X4_has gd x = some 0 := by
  unfold p_X4_has
  rcases h with h | h
  · rw [if_pos h]
  · by_cases h2 : x < 0
    · rw [if_pos h2]
    · rw [if_neg h2, if_pos h]
theorem c_len {gd : TD} {D : MD} (h : DC gd D) (hB : dB D < 1024) {d : Nat} (hd : d < 10) : p_X4_lengthOf gd (nI d) = some (nI (if dH D d then dM D d else 0)) := by
  unfold p_X4_lengthOf
  rw [c_has h hB hd, some_bind']
  by_cases hh : dH D d = true
  · rw [if_pos hh, if_pos hh, if_neg (by decide), if_pos (ix_nI hd (by decide)), cl_nI (by omega), (h.2.2 d hd hh).2.2.1]
  · rw [if_neg hh, if_neg hh, if_pos rfl]; rfl
theorem c_deb {gd : TD} {D : MD} (h : DC gd D) (hB : dB D < 1024) {d : Nat} (hd : d < 10) : p_X4_debtorOf gd (nI d) = some (if dH D d then nI (dP D d) else -1) := by
  unfold p_X4_debtorOf
  rw [c_has h hB hd, some_bind']
  by_cases hh : dH D d = true
  · rw [if_pos hh, if_pos hh, if_neg (by decide), if_pos (ix_nI hd (by decide)), cl_nI (by omega), (h.2.2 d hd hh).1]
  · rw [if_neg hh, if_neg hh, if_pos rfl]
theorem c_lend {gd : TD} {D : MD} (h : DC gd D) (hB : dB D < 1024) {d : Nat} (hd : d < 10) : p_X4_lenderOf gd (nI d) = some (if dH D d then nI (dQ D d) else -1) := by
  unfold p_X4_lenderOf
  rw [c_has h hB hd, some_bind']
  by_cases hh : dH D d = true
  · rw [if_pos hh, if_pos hh, if_neg (by decide), if_pos (ix_nI hd (by decide)), cl_nI (by omega), (h.2.2 d hd hh).2.1]
  · rw [if_neg hh, if_neg hh, if_pos rfl]
theorem fig_at (d k : Nat) : nI d * 5 + nI k = nI (d * 5 + k) := by rw [show (5 : Int32) = nI 5 from rfl, pk_mul, nI_add]
theorem fig_at' (d k : Nat) : 5 * nI d + nI k = nI (5 * d + k) := by rw [show (5 : Int32) = nI 5 from rfl, pk_mul, nI_add]
theorem lay_at (d k : Nat) : 62 * nI d + nI k = nI (62 * d + k) := by rw [show (62 : Int32) = nI 62 from rfl, pk_mul, nI_add]
theorem c_fig {O : Nat} {gd : TD} {D : MD} (h : DC gd D) (ho : OD O D) {d k : Nat} (hd : d < 10) (hh : dH D d = true) (hk : k < dM D d) : p_X4_figureAt gd (nI d) (nI k) = some (nI (dF D d k)) := by
  have h5 := (ho.2.2 d hd hh).2.1
  unfold p_X4_figureAt p_X4_figureAt_23
  rw [if_neg (nI_pos (by omega)), if_neg (le_f (c := 5) (by omega) (by decide)), c_len h ho.2.1 hd, some_bind', if_pos hh, if_neg (nI_ge hk (by omega)), if_neg (by decide), fig_at, if_pos (ix_nI (by omega) (by decide)), cl_nI (by omega), (h.2.2 d hd hh).2.2.2 k hk]
theorem c_fig_out {O : Nat} {gd : TD} {D : MD} (h : DC gd D) (ho : OD O D) {d : Nat} {x : Int32} (hd : d < 10) (hx : x < 0 ∨ nI (if dH D d then dM D d else 0) ≤ x) : p_X4_figureAt gd (nI d) x = some 0 := by
  unfold p_X4_figureAt p_X4_figureAt_22 p_X4_figureAt_23
  by_cases h0 : x < 0
  · rw [if_pos h0, if_pos rfl]
  · rw [if_neg h0]
    by_cases h1 : (5 : Int32) ≤ x
    · rw [if_pos h1, if_pos rfl]
    · rw [if_neg h1, c_len h ho.2.1 hd, some_bind', if_pos (hx.resolve_left h0), if_pos rfl]
theorem c_worth_loop {O : Nat} {gd : TD} {D : MD} (h : DC gd D) (ho : OD O D) {d b : Nat} (hd : d < 10) (hh : dH D d = true) (hb : 2 ≤ b) (hb2 : b ≤ 61) : ∀ k j n : Nat, j + k = dM D d → k < n → p_X4_worthIn_34 gd n (nI d) (nI b) (nI (dM D d)) (nI (wv (dF D d) b j)) (nI (b ^ j)) (if wo (dF D d) b j then 1 else 0) (nI j) = some (nI (wW (dL D) (dM D d) (dF D d) b)) := by
  have ho5 := ho.2.2 d hd hh
  intro k
  induction k with
  | zero =>
    intro j n hj hn
    obtain ⟨n, rfl⟩ : ∃ m, n = m + 1 := ⟨n - 1, by omega⟩
    have hj : j = dM D d := by omega
    subst hj
    unfold p_X4_worthIn_34 wW
    rw [if_pos (nI_le (Nat.le_refl _) (by omega)), if_pos hb, h.1]
    by_cases hw : wo (dF D d) b (dM D d) = true
    · rw [if_pos hw, if_pos hw, if_neg (by decide)]
      have hL := ho.1
      by_cases h2 : dL D = 2
      · rw [if_pos (eq_t h2), if_pos h2]
      · rw [if_neg (eq_f h2 (by omega) (by decide)), if_neg h2]
        by_cases h1 : dL D = 1
        · rw [if_pos (eq_t h1), if_pos h1]
        · rw [if_neg (eq_f h1 (by omega) (by decide)), if_neg h1]; rfl
    · rw [if_neg hw, if_neg hw, if_pos rfl]
  | succ k ih =>
    intro j n hj hn
    obtain ⟨n, rfl⟩ : ∃ m, n = m + 1 := ⟨n - 1, by omega⟩
    have hjm : j < dM D d := by omega
    have hf := ho5.2.2.1 j hjm
    unfold p_X4_worthIn_34 p_X4_worthIn_63
    rw [if_neg (nI_ge hjm (by omega)), c_fig h ho hd hh hjm, some_bind']
    have := ih (j + 1) n (by omega) (by omega)
    unfold wv wo at this
    rw [Nat.pow_succ] at this
    by_cases hfb : dF D d j < b
    · rw [if_pos (nI_lt hfb (by omega)), pk_mul, pk_mul, nI_add, nI_1]
      rw [if_pos hfb, decide_eq_false (by omega), Bool.or_false] at this
      exact this
    · rw [if_neg (nI_nlt (by omega) (by omega)), pred_nI (by omega), pk_mul, pk_mul, nI_add, nI_1]
      rw [if_neg hfb, decide_eq_true (by omega), Bool.or_true, if_pos rfl] at this
      exact this
theorem fu_lt {k : Nat} (h : k < 1000000) : k < fu := h
theorem c_worth {O : Nat} {gd : TD} {D : MD} (h : DC gd D) (ho : OD O D) {d b : Nat} (hd : d < 10) (hb2 : b ≤ 61) : p_X4_worthIn gd (nI d) (nI b) = some (nI (dW D d b)) := by
  unfold p_X4_worthIn dW
  rw [c_len h ho.2.1 hd, some_bind']
  by_cases hh : dH D d = true
  · rw [if_pos hh, if_pos hh]
    by_cases hb : 2 ≤ b
    · rw [if_pos (le_t hb (by omega))]
      exact c_worth_loop h ho hd hh hb hb2 (dM D d) 0 fu (by omega) (fu_lt (by have := (ho.2.2 d hd hh).2.1; omega))
    · unfold wW
      rw [if_neg (le_f (c := 2) (by omega) (by decide)), if_neg hb]
      by_cases h1 : b = 1
      · rw [if_pos (eq_t h1), if_pos h1]
      · rw [if_neg (eq_f h1 (by omega) (by decide)), if_neg h1]; rfl
  · rw [if_neg hh, if_neg hh]
    by_cases hb : 2 ≤ b
    · rw [if_pos (le_t hb (by omega)), show fu = 999999 + 1 from rfl]
      unfold p_X4_worthIn_34
      rw [if_pos (by decide), if_pos rfl]; rfl
    · rw [if_neg (le_f (c := 2) (by omega) (by decide))]
      by_cases h1 : b = 1
      · rw [if_pos (eq_t h1)]
      · rw [if_neg (eq_f h1 (by omega) (by decide))]; rfl
theorem c_worth_neg {O : Nat} {gd : TD} {D : MD} (h : DC gd D) (ho : OD O D) {d : Nat} {x : Int32} (hd : d < 10) (hx : x < 0) : p_X4_worthIn gd (nI d) x = some 0 := by
  unfold p_X4_worthIn
  have h0 : x.toInt < 0 := by
    rw [Int32.lt_iff_toInt_lt] at hx
    exact hx
  have h2 : ¬ (2 : Int32) ≤ x := by
    intro e
    rw [Int32.le_iff_toInt_le] at e
    have h3 : (2 : Int32).toInt = 2 := by decide
    omega
  rw [c_len h ho.2.1 hd, some_bind', if_neg h2, if_neg (fun e => by rw [e] at h0; exact absurd h0 (by decide))]
theorem m_worth_loop {O : Nat} {gvm : TM} {D : MD} (h : DM gvm D) (ho : OD O D) {d b : Nat} (hd : d < 10) (hh : dH D d = true) (hb : 2 ≤ b) (hb2 : b ≤ 61) : ∀ k j n : Nat, j + k = dM D d → k < n → p_X13_worthOf_31 gvm n (nI d) (nI b) (nI (wv (dF D d) b j)) (nI (b ^ j)) (if wo (dF D d) b j then 1 else 0) (nI j) = some (nI (wW (dL D) (dM D d) (dF D d) b)) := by
  have ho5 := ho.2.2 d hd hh
  have hm := (h.2 d hd).2 hh
  intro k
  induction k with
  | zero =>
    intro j n hj hn
    obtain ⟨n, rfl⟩ : ∃ m, n = m + 1 := ⟨n - 1, by omega⟩
    have hj : j = dM D d := by omega
    subst hj
    unfold p_X13_worthOf_31 wW p_X13_worthOf_117
    rw [if_pos (ix_nI hd (by decide)), cl_nI (by omega), hm.2.2.1, if_pos (nI_le (Nat.le_refl _) (by omega)), if_pos hb, h.1]
    by_cases hw : wo (dF D d) b (dM D d) = true
    · rw [if_pos hw, if_pos hw, if_neg (by decide)]
      have hL := ho.1
      by_cases h2 : dL D = 2
      · rw [if_pos (eq_t h2), if_pos h2]
      · rw [if_neg (eq_f h2 (by omega) (by decide)), if_neg h2]
        by_cases h1 : dL D = 1
        · rw [if_neg (eq_f (c := 0) (by omega) (by omega) (by decide)), if_pos h1]
        · rw [if_pos (eq_t (c := 0) (by omega)), if_neg h1]; rfl
    · rw [if_neg hw, if_neg hw, if_pos rfl]
  | succ k ih =>
    intro j n hj hn
    obtain ⟨n, rfl⟩ : ∃ m, n = m + 1 := ⟨n - 1, by omega⟩
    have hjm : j < dM D d := by omega
    have hf := ho5.2.2.1 j hjm
    unfold p_X13_worthOf_31 p_X13_worthOf_66 p_X13_worthOf_71 p_X13_worthOf_90
    rw [if_pos (ix_nI hd (by decide)), cl_nI (by omega), hm.2.2.1, if_neg (nI_ge hjm (by omega)), fig_at', if_pos (ix_nI (by omega) (by decide)), cl_nI (by omega), hm.2.2.2 j hjm]
    have := ih (j + 1) n (by omega) (by omega)
    unfold wv wo at this
    rw [Nat.pow_succ] at this
    by_cases hfb : dF D d j < b
    · simp only [if_pos (nI_lt hfb (show b < 2 ^ 31 by omega)), if_neg (nI_ge hfb (show b < 2 ^ 31 by omega)), pk_mul, nI_add, nI_1]
      rw [if_pos hfb, decide_eq_false (by omega), Bool.or_false] at this
      by_cases hw : wo (dF D d) b j = true
      · rw [if_pos hw] at this ⊢; rw [if_neg (by decide)]; exact this
      · rw [if_neg hw] at this ⊢; rw [if_pos rfl]; exact this
    · simp only [if_neg (nI_nlt (show b ≤ dF D d j by omega) (show dF D d j < 2 ^ 31 by omega)), if_pos (nI_le (show b ≤ dF D d j by omega) (show dF D d j < 2 ^ 31 by omega)), pred_nI (show 1 ≤ b by omega), pk_mul, nI_add, nI_1, ite_self]
      rw [if_neg hfb, decide_eq_true (by omega), Bool.or_true, if_pos rfl] at this
      exact this
theorem m_worth {O : Nat} {gvm : TM} {D : MD} (h : DM gvm D) (ho : OD O D) {d b : Nat} (hd : d < 10) (hh : dH D d = true) (hb2 : b ≤ 61) : p_X13_worthOf gvm (nI d) (nI b) = some (nI (dW D d b)) := by
  unfold p_X13_worthOf dW
  rw [if_pos hh]
  by_cases hb : 2 ≤ b
  · rw [if_pos (le_t hb (by omega))]
    exact m_worth_loop h ho hd hh hb hb2 (dM D d) 0 fu (by omega) (fu_lt (by have := (ho.2.2 d hd hh).2.1; omega))
  · unfold wW
    rw [if_neg (le_f (c := 2) (by omega) (by decide)), if_neg hb]
    by_cases h1 : b = 1
    · rw [if_neg (eq_f (c := 0) (by omega) (by omega) (by decide)), if_pos (ix_nI hd (by decide)), cl_nI (by omega), ((h.2 d hd).2 hh).2.2.1, if_pos h1]
    · rw [if_pos (eq_t (c := 0) (by omega)), if_neg h1]; rfl
