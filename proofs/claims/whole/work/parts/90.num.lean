abbrev TA := Nat → Int32
abbrev TD := Int32 × Int32 × TA × TA × TA × TA
abbrev TV := Int32 × Int32 × TA × TA × TA × TA × TA
abbrev TM := Int32 × Int32 × Int32 × TA × TA × TA × TA × TA × TA × TA × TA × TA
def iI (z : Int) : Int32 := Int32.ofInt z
def iL (z : Int) : Int64 := Int64.ofInt z
theorem iI_add (a b : Int) : iI a + iI b = iI (a + b) := (Int32.ofInt_add a b).symm
theorem iI_sub (a b : Int) : iI a - iI b = iI (a - b) := (Int32.ofInt_sub a b).symm
theorem iI_mul (a b : Int) : iI a * iI b = iI (a * b) := (Int32.ofInt_mul a b).symm
theorem iL_add (a b : Int) : iL a + iL b = iL (a + b) := (Int64.ofInt_add a b).symm
theorem iL_sub (a b : Int) : iL a - iL b = iL (a - b) := (Int64.ofInt_sub a b).symm
theorem iL_mul (a b : Int) : iL a * iL b = iL (a * b) := (Int64.ofInt_mul a b).symm
theorem nI_iI (n : Nat) : nI n = iI n := Int32.ofInt_eq_ofNat.symm
theorem lN_iL (n : Nat) : lN n = iL n := Int64.ofInt_eq_ofNat.symm
theorem iI_toInt {z : Int} (h : -2147483648 ≤ z) (h2 : z < 2147483648) : (iI z).toInt = z := Int32.toInt_ofInt_of_le (by omega) (by omega)
theorem iL_toInt {z : Int} (h : -9223372036854775808 ≤ z) (h2 : z < 9223372036854775808) : (iL z).toInt = z := Int64.toInt_ofInt_of_le (by omega) (by omega)
theorem iI_lt {a b : Int} (h : -2147483648 ≤ a) (h2 : a < 2147483648) (h3 : -2147483648 ≤ b) (h4 : b < 2147483648) : iI a < iI b ↔ a < b := by
  rw [Int32.lt_iff_toInt_lt, iI_toInt h h2, iI_toInt h3 h4]
theorem iI_le {a b : Int} (h : -2147483648 ≤ a) (h2 : a < 2147483648) (h3 : -2147483648 ≤ b) (h4 : b < 2147483648) : iI a ≤ iI b ↔ a ≤ b := by
  rw [Int32.le_iff_toInt_le, iI_toInt h h2, iI_toInt h3 h4]
theorem iI_eq {a b : Int} (h : -2147483648 ≤ a) (h2 : a < 2147483648) (h3 : -2147483648 ≤ b) (h4 : b < 2147483648) : iI a = iI b ↔ a = b := by
  rw [← Int32.toInt_inj, iI_toInt h h2, iI_toInt h3 h4]
theorem iL_lt {a b : Int} (h : -9223372036854775808 ≤ a) (h2 : a < 9223372036854775808) (h3 : -9223372036854775808 ≤ b) (h4 : b < 9223372036854775808) : iL a < iL b ↔ a < b := by
  rw [Int64.lt_iff_toInt_lt, iL_toInt h h2, iL_toInt h3 h4]
theorem iL_le {a b : Int} (h : -9223372036854775808 ≤ a) (h2 : a < 9223372036854775808) (h3 : -9223372036854775808 ≤ b) (h4 : b < 9223372036854775808) : iL a ≤ iL b ↔ a ≤ b := by
  rw [Int64.le_iff_toInt_le, iL_toInt h h2, iL_toInt h3 h4]
theorem iL_eq {a b : Int} (h : -9223372036854775808 ≤ a) (h2 : a < 9223372036854775808) (h3 : -9223372036854775808 ≤ b) (h4 : b < 9223372036854775808) : iL a = iL b ↔ a = b := by
  rw [← Int64.toInt_inj, iL_toInt h h2, iL_toInt h3 h4]
theorem iL_i (z : Int) : (iL z).toInt32 = iI z := Int64.toInt32_ofInt
theorem iI_l {z : Int} (h : -2147483648 ≤ z) (h2 : z < 2147483648) : (iI z).toInt64 = iL z := by
  rw [← Int64.toInt_inj, Int32.toInt_toInt64, iI_toInt h h2, iL_toInt (by omega) (by omega)]
theorem nI_lz {n : Nat} (h : n < 2147483648) : (nI n).toInt64 = iL n := by rw [nI_l (by omega), lN_iL]
theorem ix_nI {i n : Nat} (h : i < n) (hn : n < 2147483648) : ix (nI i) n := by
  unfold ix; rw [nI_toInt (by omega)]; omega
theorem ix_not {i n : Nat} (h : n ≤ i) (hi : i < 2147483648) : ¬ ix (nI i) n := by
  unfold ix; rw [nI_toInt (by omega)]; omega
theorem ix_of {x : Int32} {n : Nat} (h : ix x n) (hn : n < 2147483648) : ∃ j : Nat, j < n ∧ x = nI j := by
  refine ⟨x.toInt.toNat, by unfold ix at h; omega, ?_⟩
  unfold ix at h
  rw [← Int32.toInt_inj, nI_toInt (by omega)]; omega
theorem cl_nI {n : Nat} (h : n < 2147483648) : (nI n).toNatClampNeg = n := nI_clamp (by omega)
theorem nI_z (n : Nat) : nI n + 1 = nI (n + 1) := nI_1 n
/-- an int that is asked for: below 0, n or more, or one of the n -/
theorem q_ix (x : Int32) (n : Nat) (hn : n < 2147483648) : (x < 0) ∨ (¬ x < 0 ∧ nI n ≤ x ∧ n ≤ x.toInt) ∨ ∃ j : Nat, j < n ∧ x = nI j := by
  by_cases h : x < 0
  · exact Or.inl h
  · by_cases h2 : nI n ≤ x
    · refine Or.inr (Or.inl ⟨h, h2, ?_⟩)
      rw [Int32.le_iff_toInt_le, nI_toInt (by omega)] at h2; exact h2
    · refine Or.inr (Or.inr ?_)
      have h0 : (0 : Int) ≤ x.toInt := by
        rw [Int32.lt_iff_toInt_lt] at h
        have : (0 : Int32).toInt = 0 := by decide
        omega
      have h3 : x.toInt < n := by
        rw [Int32.le_iff_toInt_le, nI_toInt (by omega)] at h2; omega
      exact ix_of ⟨h0, h3⟩ hn
theorem some_bind' {α β : Type} (a : α) (f : α → Option β) : (some a).bind f = f a := rfl
def sZ (f : Nat → Int) : Nat → Int
  | 0 => 0
  | k + 1 => sZ f k + f k
theorem sZ_bound {f : Nat → Int} {c : Int} (h : ∀ d, 0 ≤ f d ∧ f d ≤ c) : ∀ k : Nat, 0 ≤ sZ f k ∧ sZ f k ≤ k * c := by
  intro k
  induction k with
  | zero => simp [sZ]
  | succ k ih =>
    have := h k
    have e : ((k + 1 : Nat) : Int) * c = k * c + c := by rw [Int.natCast_add, Int.add_mul]; simp
    rw [e]; simp only [sZ]; omega
theorem sZ_cong {f g : Nat → Int} : ∀ k : Nat, (∀ d, d < k → f d = g d) → sZ f k = sZ g k := by
  intro k
  induction k with
  | zero => intro _; rfl
  | succ k ih => intro h; simp only [sZ]; rw [ih (fun d hd => h d (by omega)), h k (by omega)]
theorem sZ_sub {f g : Nat → Int} : ∀ k : Nat, sZ (fun d => f d - g d) k = sZ f k - sZ g k := by
  intro k
  induction k with
  | zero => rfl
  | succ k ih => simp only [sZ]; rw [ih]; omega
theorem sZ_add {f g : Nat → Int} : ∀ k : Nat, sZ (fun d => f d + g d) k = sZ f k + sZ g k := by
  intro k
  induction k with
  | zero => rfl
  | succ k ih => simp only [sZ]; rw [ih]; omega
