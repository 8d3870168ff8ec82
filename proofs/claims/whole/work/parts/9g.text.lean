-- texts
abbrev RD := Int32 × Int32 × Int32 × Int32 × Int32 × Int32 × Int32 × Int32 × Int32
abbrev RDm := Int32 × Int32 × Int32 × Int32 × Int32 × Int32 × Int64 × TA
abbrev R5 := Int32 × Int32 × Int32 × Int32 × Int32
def sb (c : Nat) : Int32 := (nI c).toInt8.toInt32
def isL (c : Nat) : Bool := decide (97 ≤ c ∧ c ≤ 122)
def isD (c : Nat) : Bool := decide (48 ≤ c ∧ c ≤ 57)
def isB (c : Nat) : Bool := decide (c = 32 ∨ c = 10)
/-- both tapes hold the bytes C, of which n are read -/
def TX (gtx gtt : TA) (C : Nat → Nat) (n : Nat) : Prop := n ≤ 600 ∧ ∀ j, j < n → C j < 256 ∧ gtt j = nI (C j) ∧ gtx j = sb (C j)
theorem TX_of {gtx gtt : TA} {m n : Nat} (h : TP gtx gtt m) (hm : m ≤ 600) (hn : n ≤ m) : ∃ C, TX gtx gtt C n := by
  have hc : ∀ j, ∃ c, j < m → c < 256 ∧ gtt j = nI c ∧ gtx j = sb c := by
    intro j
    by_cases hj : j < m
    · obtain ⟨c, h1, h2, h3⟩ := h j hj; exact ⟨c, fun _ => ⟨h1, h2, h3⟩⟩
    · exact ⟨0, fun e => absurd e hj⟩
  exact ⟨fun j => Classical.choose (hc j), by omega, fun j hj => Classical.choose_spec (hc j) (by omega)⟩
theorem cb_L : ∀ c, c < 256 → p_X7_isLetter (sb c) = some (if isL c then 1 else 0) := by decide +kernel
theorem cb_D : ∀ c, c < 256 → p_X7_isDigit (sb c) = some (if isD c then 1 else 0) := by decide +kernel
theorem cb_B : ∀ c, c < 256 → p_X7_isBlank (sb c) = some (if isB c then 1 else 0) := by decide +kernel
theorem cb_35 : ∀ c, c < 256 → (sb c = 35 ↔ c = 35) := by decide +kernel
theorem cb_59 : ∀ c, c < 256 → (sb c = 59 ↔ c = 59) := by decide +kernel
theorem mb_L : ∀ c, c < 256 → p_X13_isLetter (nI c) = some (if isL c then 1 else 0) := by decide +kernel
theorem mb_D : ∀ c, c < 256 → p_X13_isDigit (nI c) = some (if isD c then 1 else 0) := by decide +kernel
theorem cb_nI : ∀ c, c < 128 → sb c = nI c := by decide +kernel
theorem isL_b {c : Nat} (h : isL c = true) : 97 ≤ c ∧ c ≤ 122 := of_decide_eq_true h
theorem isD_b {c : Nat} (h : isD c = true) : 48 ≤ c ∧ c ≤ 57 := of_decide_eq_true h
theorem isL_D {c : Nat} (h : isL c = true) : isD c = false := by have := isL_b h; exact decide_eq_false (by omega)
theorem isD_L {c : Nat} (h : isD c = true) : isL c = false := by have := isD_b h; exact decide_eq_false (by omega)
-- runs
def run (P : Nat → Bool) : Nat → Nat → Nat
  | 0, j => j
  | k + 1, j => if P j then run P k (j + 1) else j
theorem run_ge (P : Nat → Bool) : ∀ k j, j ≤ run P k j ∧ run P k j ≤ j + k := by
  intro k
  induction k with
  | zero => intro j; exact ⟨Nat.le_refl _, Nat.le_refl _⟩
  | succ k ih =>
    intro j
    unfold run
    have := ih (j + 1)
    split <;> omega
theorem run_all (P : Nat → Bool) : ∀ k j i, j ≤ i → i < run P k j → P i = true := by
  intro k
  induction k with
  | zero => intro j i h1 h2; unfold run at h2; omega
  | succ k ih =>
    intro j i h1 h2
    unfold run at h2
    by_cases hp : P j = true
    · rw [if_pos hp] at h2
      by_cases e : i = j
      · subst e; exact hp
      · exact ih (j + 1) i (by omega) h2
    · rw [if_neg hp] at h2; omega
theorem run_t {P : Nat → Bool} {k j : Nat} (h : P j = true) : run P (k + 1) j = run P k (j + 1) := if_pos h
theorem run_f {P : Nat → Bool} {k j : Nat} (h : P j = false) : run P (k + 1) j = j := if_neg (by rw [h]; decide)
theorem run_cong {P Q : Nat → Bool} (h : ∀ j, P j = Q j) (k j : Nat) : run P k j = run Q k j := by rw [show P = Q from funext h]
-- tokens: 0 end, 1 word, 2 number, 3 row, 4 sign, 5 none
def ltF (c : Nat) : Bool := decide (c = 35) || isL c
def dgF (c : Nat) : Bool := decide (c = 35) || isD c
def kdF (c l : Nat) : Nat := if c = 35 then (if 1 < l then 3 else 5) else if isL c then 1 else if isD c then 2 else if c = 59 then 4 else 5
def tS (C : Nat → Nat) (n p : Nat) : Nat := run (fun j => isB (C j)) (n - p) p
def tR (C : Nat → Nat) (lt dg : Bool) (j : Nat) : Bool := (lt && isL (C j)) || (dg && isD (C j))
def tN (C : Nat → Nat) (n s : Nat) : Nat := run (tR C (ltF (C s)) (dgF (C s))) (n - (s + 1)) (s + 1)
/-- the token's end -/
def tE (C : Nat → Nat) (n p : Nat) : Nat := if n ≤ tS C n p then tS C n p else tN C n (tS C n p)
def tK (C : Nat → Nat) (n p : Nat) : Nat := if n ≤ tS C n p then 0 else kdF (C (tS C n p)) (tN C n (tS C n p) - tS C n p)
def kap (k : Nat) : Int32 := if k = 0 then 1 else if k = 1 then 2 else if k = 2 then 3 else if k = 3 then 4 else if k = 4 then 5 else 0
theorem tk_b (C : Nat → Nat) {n p : Nat} (hp : p ≤ n) : p ≤ tS C n p ∧ tS C n p ≤ tE C n p ∧ tE C n p ≤ n ∧ (tK C n p ≠ 0 → tS C n p < tE C n p) ∧ tK C n p ≤ 5 ∧ (tK C n p = 0 → tS C n p = n) := by
  have h1 := run_ge (fun j => isB (C j)) (n - p) p
  have h1 : p ≤ tS C n p ∧ tS C n p ≤ p + (n - p) := h1
  unfold tE tK
  by_cases c : n ≤ tS C n p
  · rw [if_pos c, if_pos c]; refine ⟨h1.1, Nat.le_refl _, by omega, fun e => absurd rfl e, by omega, fun _ => by omega⟩
  · rw [if_neg c, if_neg c]
    have h2 := run_ge (tR C (ltF (C (tS C n p))) (dgF (C (tS C n p)))) (n - (tS C n p + 1)) (tS C n p + 1)
    have h2 : tS C n p + 1 ≤ tN C n (tS C n p) ∧ tN C n (tS C n p) ≤ tS C n p + 1 + (n - (tS C n p + 1)) := h2
    have h3 : ∀ c l, kdF c l ≤ 5 ∧ kdF c l ≠ 0 := by
      intro c l
      unfold kdF
      repeat' split
      all_goals omega
    refine ⟨h1.1, by omega, by omega, fun _ => by omega, (h3 _ _).1, fun e => absurd e (h3 _ _).2⟩
/-- the class's reader, standing at the token behind p -/
def rdC (C : Nat → Nat) (n p : Nat) (r : R5) : RD := (nI n, kap (tK C n p), nI (tS C n p), nI (tE C n p), r)
theorem c_sign {gtx gtt : TA} {C : Nat → Nat} {n : Nat} (h : TX gtx gtt C n) {j : Nat} (hj : j < n) (r : Int32 × Int32 × Int32 × Int32 × Int32 × Int32 × Int32 × Int32) : p_X7_signAt (nI n, r) gtx (nI j) = some (sb (C j)) := by
  have h6 := h.1
  unfold p_X7_signAt
  simp only []
  rw [if_neg (nI_pos (by omega)), if_neg (nI_ge hj (by omega)), if_neg (le_f (c := 600) (by omega) (by decide)), if_pos (ix_nI (by omega) (by decide)), cl_nI (by omega), (h.2 j hj).2.2]
theorem c_sign_e {gtx : TA} {n : Nat} (hn : n ≤ 600) (r : Int32 × Int32 × Int32 × Int32 × Int32 × Int32 × Int32 × Int32) : p_X7_signAt (nI n, r) gtx (nI n) = some (-1) := by
  unfold p_X7_signAt
  simp only []
  rw [if_neg (nI_pos (by omega)), if_pos (nI_le (Nat.le_refl _) (by omega))]
theorem c_step_8 {gtx gtt : TA} {C : Nat → Nat} {n : Nat} (h : TX gtx gtt C n) (x : Int32) (y : Int32 × Int32 × Int32 × Int32 × Int32 × Int32) : ∀ k j m : Nat, j + k = n → k < m → p_X7_step_8 gtx m (nI n, x, nI j, y) = p_X7_step_46 gtx (nI n, x, nI (run (fun j => isB (C j)) k j), y) := by
  have h6 := h.1
  intro k
  induction k with
  | zero =>
    intro j m hj hm
    obtain ⟨m, rfl⟩ : ∃ a, m = a + 1 := ⟨m - 1, by omega⟩
    unfold p_X7_step_8
    simp only []
    rw [if_pos (nI_le (by omega) (by omega))]; rfl
  | succ k ih =>
    intro j m hj hm
    obtain ⟨m, rfl⟩ : ∃ a, m = a + 1 := ⟨m - 1, by omega⟩
    unfold p_X7_step_8
    simp only []
    rw [if_neg (nI_ge (by omega) (by omega)), c_sign h (by omega), some_bind', cb_B _ (h.2 j (by omega)).1, some_bind']
    by_cases hb : isB (C j) = true
    · rw [if_pos hb, if_neg n10, nI_1, run_t (P := fun j => isB (C j)) hb]
      exact ih (j + 1) m (by omega) (by omega)
    · rw [if_neg hb, if_pos rfl, run_f (P := fun j => isB (C j)) (by simpa using hb)]
theorem c_step_110 {gtx gtt : TA} {C : Nat → Nat} {n s : Nat} (h : TX gtx gtt C n) (x x1 : Int32) (y : R5) (lt dg : Bool) : ∀ k j m : Nat, j + k = n → k < m → p_X7_step_110 gtx m (nI n, x, nI s, nI j, y) x1 (if lt then 1 else 0) (if dg then 1 else 0) = p_X7_step_170 gtx (nI n, x, nI s, nI (run (tR C lt dg) k j), y) x1 (if lt then 1 else 0) (if dg then 1 else 0) := by
  have h6 := h.1
  intro k
  induction k with
  | zero =>
    intro j m hj hm
    obtain ⟨m, rfl⟩ : ∃ a, m = a + 1 := ⟨m - 1, by omega⟩
    unfold p_X7_step_110
    simp only []
    rw [if_pos (nI_le (by omega) (by omega))]; rfl
  | succ k ih =>
    intro j m hj hm
    obtain ⟨m, rfl⟩ : ∃ a, m = a + 1 := ⟨m - 1, by omega⟩
    have hi := ih (j + 1) m (by omega) (by omega)
    unfold p_X7_step_110 p_X7_step_139 p_X7_step_157
    simp only []
    rw [if_neg (nI_ge (by omega) (by omega))]
    simp only [c_sign h (show j < n by omega), some_bind', cb_L _ (h.2 j (by omega)).1, cb_D _ (h.2 j (by omega)).1, nI_1]
    cases hl : isL (C j) <;> cases hd : isD (C j) <;> cases lt <;> cases dg <;> first
      | (rw [run_t (P := tR C _ _) (by unfold tR; rw [hl, hd]; rfl)]; exact hi)
      | (rw [run_f (P := tR C _ _) (by unfold tR; rw [hl, hd]; rfl)]; rfl)
theorem c_tok {gtx gtt : TA} {C : Nat → Nat} {n p : Nat} (h : TX gtx gtt C n) (hp : p ≤ n) (x1 x2 : Int32) (r : R5) : p_X7_step (nI n, x1, x2, nI p, r) gtx = some (rdC C n p r) := by
  have h6 := h.1
  have hb := run_ge (fun j => isB (C j)) (n - p) p
  have hb : p ≤ tS C n p ∧ tS C n p ≤ p + (n - p) := hb
  have e8 : p_X7_step (nI n, x1, x2, nI p, r) gtx = p_X7_step_46 gtx (nI n, x1, nI (tS C n p), nI p, r) := c_step_8 h x1 (nI p, r) (n - p) p fu (by omega) (fu_lt (by omega))
  rw [e8]
  unfold p_X7_step_46 p_X7_step_68 p_X7_step_73 p_X7_step_87 p_X7_step_92 rdC tE tK
  by_cases hs : n ≤ tS C n p
  · have hsn : tS C n p = n := by omega
    rw [if_pos hs, if_pos hs, hsn]
    simp only []
    rw [c_sign_e h6, some_bind', if_neg (by decide), show p_X7_isLetter (-1) = some 0 from rfl, some_bind', if_pos rfl, if_neg (by decide), show p_X7_isDigit (-1) = some 0 from rfl, some_bind', if_pos rfl, nI_1, if_pos (nI_lt (by omega) (by omega)), show fu = 999999 + 1 from rfl]
    unfold p_X7_step_110 p_X7_step_170 p_X7_kindOf
    simp only []
    rw [if_pos (nI_le (Nat.le_refl _) (by omega)), pk_sub (Nat.le_refl _), Nat.sub_self, if_neg (by decide)]; rfl
  · have hcb := (h.2 (tS C n p) (by omega)).1
    rw [if_neg hs, if_neg hs]
    simp only []
    rw [c_sign h (by omega), some_bind', cb_L _ hcb, some_bind', cb_D _ hcb, some_bind', nI_1, if_neg (nI_nlt (by omega) (by omega))]
    generalize tS C n p = s at hs hcb hb ⊢
    have hrun := run_ge (tR C (ltF (C s)) (dgF (C s))) (n - (s + 1)) (s + 1)
    have hrun : s + 1 ≤ tN C n s ∧ tN C n s ≤ s + 1 + (n - (s + 1)) := hrun
    have h110 := c_step_110 (s := s) h x1 (sb (C s)) r (ltF (C s)) (dgF (C s)) (n - (s + 1)) (s + 1) fu (by omega) (fu_lt (by omega))
    have hkind : p_X7_step_170 gtx (nI n, x1, nI s, nI (tN C n s), r) (sb (C s)) (if ltF (C s) then 1 else 0) (if dgF (C s) then 1 else 0) = some (nI n, kap (kdF (C s) (tN C n s - s)), nI s, nI (tN C n s), r) := by
      unfold p_X7_step_170 p_X7_kindOf p_X7_kindOf_26
      simp only []
      rw [pk_sub (by omega), if_pos (le_t (c := 1) (by omega) (by omega))]
      by_cases h35 : C s = 35
      · rw [show ltF (C s) = true from by unfold ltF; rw [h35]; rfl, show dgF (C s) = true from by unfold dgF; rw [h35]; rfl, if_pos rfl, if_neg n10, if_neg n10]
        unfold kdF
        rw [if_pos h35]
        by_cases hl : 1 < tN C n s - s
        · rw [if_neg (ler_f (c := 1) hl (by omega)), if_pos hl]; rfl
        · rw [if_pos (ler_t (c := 1) (by omega) (by decide)), if_neg hl]; rfl
      · have e35 : decide (C s = 35) = false := decide_eq_false h35
        unfold kdF ltF dgF
        rw [if_neg h35, e35, Bool.false_or, Bool.false_or]
        have f0 : (if false = true then (1 : Int32) else 0) = 0 := rfl
        have t1 : (if true = true then (1 : Int32) else 0) = 1 := rfl
        cases hl : isL (C s)
        · cases hd : isD (C s)
          · rw [f0, if_pos rfl, if_pos rfl, if_pos rfl]
            by_cases h59 : C s = 59
            · rw [if_pos ((cb_59 _ hcb).2 h59), if_pos h59]; rfl
            · rw [if_neg (fun e => h59 ((cb_59 _ hcb).1 e)), if_neg h59]; rfl
          · rw [f0, t1, if_pos rfl, if_pos rfl, if_neg n10]; rfl
        · rw [isL_D hl, t1, f0, if_neg n10, if_pos rfl, if_neg n10]; rfl
    have hall := h110.trans hkind
    by_cases h35 : C s = 35
    · rw [if_pos ((cb_35 _ hcb).2 h35), if_pos ((cb_35 _ hcb).2 h35)]
      rw [show ltF (C s) = true from by unfold ltF; rw [h35]; rfl, show dgF (C s) = true from by unfold dgF; rw [h35]; rfl] at hall
      exact hall
    · have hn35 : ¬ sb (C s) = 35 := fun e => h35 ((cb_35 _ hcb).1 e)
      simp only [if_neg hn35, some_bind']
      have e35 : decide (C s = 35) = false := decide_eq_false h35
      rw [show ltF (C s) = isL (C s) from by unfold ltF; rw [e35]; rfl, show dgF (C s) = isD (C s) from by unfold dgF; rw [e35]; rfl] at hall
      have f0 : (if false = true then (1 : Int32) else 0) = 0 := rfl
      have t1 : (if true = true then (1 : Int32) else 0) = 1 := rfl
      cases hl : isL (C s)
      · rw [hl] at hall
        cases hd : isD (C s)
        · rw [hd] at hall
          rw [f0] at hall ⊢
          rw [if_pos rfl, if_pos rfl]; exact hall
        · rw [hd] at hall
          rw [f0, t1] at hall ⊢
          rw [if_pos rfl, if_neg n10]; exact hall
      · rw [hl] at hall
        cases hd : isD (C s)
        · rw [hd] at hall
          rw [f0, t1] at hall ⊢
          rw [if_neg n10, if_pos rfl]; exact hall
        · rw [hd] at hall
          rw [t1] at hall ⊢
          rw [if_neg n10, if_neg n10]; exact hall
theorem c_next {gtx gtt : TA} {C : Nat → Nat} {n p : Nat} (h : TX gtx gtt C n) (hp : p ≤ n) (r r' : R5) : p_X7_step (nI n, kap (tK C n p), nI (tS C n p), nI (tE C n p), r') gtx = some (rdC C n (tE C n p) r') := c_tok h (tk_b C hp).2.2.1 _ _ r'
theorem c_open {gtx gtt : TA} {C : Nat → Nat} {n : Nat} (h : TX gtx gtt C n) (gr : RD) : p_X7_open gr gtx (nI n) = some (rdC C n 0 (0, -1, gr.2.2.2.2.2.2)) := by
  have h6 := h.1
  unfold p_X7_open
  rw [if_neg (lt_f (c := 600) h6 (by decide))]
  have := c_tok h (Nat.zero_le n) gr.2.1 gr.2.2.1 (0, -1, gr.2.2.2.2.2.2)
  have this : p_X7_step (nI n, gr.2.1, gr.2.2.1, 0, 0, -1, gr.2.2.2.2.2.2) gtx = _ := this
  rw [this]; rfl
-- the reference's tokens
theorem m_byte {gtx gtt : TA} {C : Nat → Nat} {n : Nat} (h : TX gtx gtt C n) {j : Nat} (hj : j < n) (r : Int32 × Int32 × Int32 × Int32 × Int32 × Int64 × TA) : p_X13_byteAt gtt (nI n, r) (nI j) = some (nI (C j)) := by
  have h6 := h.1
  unfold p_X13_byteAt
  simp only []
  rw [if_neg (nI_ge hj (by omega)), if_pos (ix_nI (by omega) (by decide)), cl_nI (by omega), (h.2 j hj).2.1]
theorem m_byte_e {gtt : TA} {n : Nat} (hn : n ≤ 600) (r : Int32 × Int32 × Int32 × Int32 × Int32 × Int64 × TA) : p_X13_byteAt gtt (nI n, r) (nI n) = some 0 := by
  unfold p_X13_byteAt
  simp only []
  rw [if_pos (nI_le (Nat.le_refl _) (by omega))]
theorem m_skip {gtx gtt : TA} {C : Nat → Nat} {n : Nat} (h : TX gtx gtt C n) (y : Int32 × Int32 × Int32 × Int32 × Int64 × TA) : ∀ k j m : Nat, j + k = n → k < m → p_X13_steps_0 gtt m (nI n, nI j, y) = p_X13_steps_50 gtt (nI n, nI (run (fun j => isB (C j)) k j), y) := by
  have h6 := h.1
  intro k
  induction k with
  | zero =>
    intro j m hj hm
    obtain ⟨m, rfl⟩ : ∃ a, m = a + 1 := ⟨m - 1, by omega⟩
    unfold p_X13_steps_0
    simp only []
    rw [if_pos (nI_le (by omega) (by omega))]; rfl
  | succ k ih =>
    intro j m hj hm
    obtain ⟨m, rfl⟩ : ∃ a, m = a + 1 := ⟨m - 1, by omega⟩
    have hc := (h.2 j (by omega)).1
    unfold p_X13_steps_0 p_X13_steps_37
    simp only []
    rw [if_neg (nI_ge (by omega) (by omega)), m_byte h (by omega), some_bind', some_bind', nI_1]
    by_cases h1 : C j = 32
    · rw [if_pos (eq_t (c := 32) h1), run_t (P := fun j => isB (C j)) (decide_eq_true (Or.inl h1))]
      exact ih (j + 1) m (by omega) (by omega)
    · rw [if_neg (eq_f (c := 32) h1 (by omega) (by decide))]
      by_cases h2 : C j = 10
      · rw [if_pos (eq_t (c := 10) h2), run_t (P := fun j => isB (C j)) (decide_eq_true (Or.inr h2))]
        exact ih (j + 1) m (by omega) (by omega)
      · rw [if_neg (eq_f (c := 10) h2 (by omega) (by decide)), run_f (P := fun j => isB (C j)) (decide_eq_false (fun e => e.elim h1 h2))]
/-- the value of j digits from s on -/
def dig (C : Nat → Nat) (s : Nat) : Nat → Nat
  | 0 => 0
  | j + 1 => 10 * dig C s j + (C (s + j) - 48)
/-- j letters from s on, as a number -/
def wd (C : Nat → Nat) (s : Nat) : Nat → Nat
  | 0 => 0
  | j + 1 => 32 * wd C s j + (C (s + j) - 96)
def fg (c : Nat) : Nat := if isD c then c - 48 else c - 87
def mn (a b : Nat) : Nat := if a < b then a else b
theorem dig_b {C : Nat → Nat} {s : Nat} : ∀ j, j ≤ 3 → (∀ i, i < j → isD (C (s + i)) = true) → dig C s j < 10 ^ j := by
  intro j
  induction j with
  | zero => intro _ _; exact Nat.zero_lt_one
  | succ j ih =>
    intro hj h
    have h1 := ih (by omega) (fun i hi => h i (by omega))
    have h2 := isD_b (h j (by omega))
    unfold dig
    rw [Nat.pow_succ]; omega
theorem wd_b {C : Nat → Nat} {s : Nat} : ∀ j, (∀ i, i < j → isL (C (s + i)) = true) → wd C s j < 32 ^ j := by
  intro j
  induction j with
  | zero => intro _; exact Nat.zero_lt_one
  | succ j ih =>
    intro h
    have h1 := ih (fun i hi => h i (by omega))
    have h2 := isL_b (h j (by omega))
    unfold wd
    rw [Nat.pow_succ]; omega
theorem shl5 (w : Nat) {d : Nat} (hd : d < 32) (hw : w < 2 ^ 40) : (lN w <<< ((5 : Int32).toInt64 &&& 63)) ||| lN d = lN (32 * w + d) := by
  have e1 : lN w <<< ((5 : Int32).toInt64 &&& 63) = lN (32 * w) := by
    apply Int64.toBitVec_inj.1
    rw [Int64.toBitVec_shiftLeft]
    apply BitVec.eq_of_toNat_eq
    rw [BitVec.shiftLeft_eq', BitVec.toNat_shiftLeft, show (((5 : Int32).toInt64 &&& 63).toBitVec.smod 64).toNat = 5 from by decide, Nat.shiftLeft_eq]
    show (BitVec.ofNat 64 w).toNat * 2 ^ 5 % 2 ^ 64 = (BitVec.ofNat 64 (32 * w)).toNat
    rw [BitVec.toNat_ofNat, BitVec.toNat_ofNat, Nat.mod_eq_of_lt (by omega), Nat.mod_eq_of_lt (by omega), Nat.mod_eq_of_lt (by omega), Nat.mul_comm]
  rw [e1]
  apply Int64.toBitVec_inj.1
  show BitVec.ofNat 64 (32 * w) ||| BitVec.ofNat 64 d = BitVec.ofNat 64 (32 * w + d)
  rw [show 32 * w + d = 32 * w ||| d from Nat.two_pow_add_eq_or_of_lt (i := 5) hd w]
  apply BitVec.eq_of_getLsbD_eq
  intro i hi
  simp [hi]
theorem mn_ge {a b : Nat} (h : b ≤ a) : mn a b = b := if_neg (by omega)
theorem mn_0 (a : Nat) : mn 0 a = 0 := by unfold mn; split <;> omega
theorem m_103 {gtx gtt : TA} {C : Nat → Nat} {n s : Nat} (h : TX gtx gtt C n) (x2 x4 x5 : Int32) (f : TA) : ∀ k j m : Nat, j + k = n → k < m → s ≤ j → (∀ i, s ≤ i → i < j → isL (C i) = true) → ∃ w, p_X13_steps_103 gtt m (nI n, nI j, x2, nI s, x4, x5, lN (wd C s (mn (j - s) 8)), f) = some (nI n, nI (run (fun j => isL (C j)) k j), 1, nI s, nI (run (fun j => isL (C j)) k j - s), x5, w, f) ∧ w = lN (wd C s (mn (run (fun j => isL (C j)) k j - s) 8)) := by
  have h6 := h.1
  intro k
  induction k with
  | zero =>
    intro j m hj hm hs _
    obtain ⟨m, rfl⟩ : ∃ a, m = a + 1 := ⟨m - 1, by omega⟩
    have hjn : j = n := by omega
    subst hjn
    refine ⟨_, ?_, rfl⟩
    unfold p_X13_steps_103 p_X13_steps_430
    simp only []
    rw [m_byte_e h6, some_bind', show p_X13_isLetter 0 = some 0 from rfl, some_bind', if_pos rfl, pk_sub hs]; rfl
  | succ k ih =>
    intro j m hj hm hs hall
    obtain ⟨m, rfl⟩ : ∃ a, m = a + 1 := ⟨m - 1, by omega⟩
    have hc := (h.2 j (by omega)).1
    unfold p_X13_steps_103 p_X13_steps_430 p_X13_steps_154
    simp only []
    rw [m_byte h (by omega), some_bind', mb_L _ hc, some_bind', some_bind', pk_sub hs, nI_1]
    by_cases hl : isL (C j) = true
    · have hlb := isL_b hl
      rw [if_pos hl, if_neg n10, run_t (P := fun j => isL (C j)) hl]
      have hi := ih (j + 1) m (by omega) (by omega) (by omega) (fun i h1 h2 => by
        by_cases e : i = j
        · subst e; exact hl
        · exact hall i h1 (by omega))
      by_cases h8 : j - s < 8
      · rw [if_neg (le_f (c := 8) h8 (by decide))]
        have hw := wd_b (C := C) (s := s) (j - s) (fun i hi => hall (s + i) (by omega) (by omega))
        have hw2 : 32 ^ (j - s) ≤ 32 ^ 7 := Nat.pow_le_pow_right (by decide) (by omega)
        rw [show 32 ^ 7 = 34359738368 from by decide] at hw2
        rw [show mn (j - s) 8 = j - s from if_pos h8, show (96 : Int32) = nI 96 from rfl, pk_sub (by omega), nI_l (by omega), shl5 _ (by omega) (by omega)]
        rw [show mn (j + 1 - s) 8 = (j - s) + 1 from by unfold mn; split <;> omega, show wd C s ((j - s) + 1) = 32 * wd C s (j - s) + (C (s + (j - s)) - 96) from rfl, show s + (j - s) = j by omega] at hi
        exact hi
      · rw [if_pos (le_t (c := 8) (by omega) (by omega))]
        rw [show mn (j + 1 - s) 8 = mn (j - s) 8 from by rw [mn_ge (by omega), mn_ge (by omega)]] at hi
        exact hi
    · rw [if_neg hl, if_pos rfl, run_f (P := fun j => isL (C j)) (by simpa using hl)]
      exact ⟨_, rfl, rfl⟩
theorem m_182 {gtx gtt : TA} {C : Nat → Nat} {n s : Nat} (h : TX gtx gtt C n) (x2 x4 : Int32) (w : Int64) (f : TA) : ∀ k j m : Nat, j + k = n → k < m → s ≤ j → (∀ i, s ≤ i → i < j → isD (C i) = true) → p_X13_steps_182 gtt m (nI n, nI j, x2, nI s, x4, nI (dig C s (mn (j - s) 3)), w, f) = some (nI n, nI (run (fun j => isD (C j)) k j), 2, nI s, nI (run (fun j => isD (C j)) k j - s), nI (dig C s (mn (run (fun j => isD (C j)) k j - s) 3)), w, f) := by
  have h6 := h.1
  intro k
  induction k with
  | zero =>
    intro j m hj hm hs _
    obtain ⟨m, rfl⟩ : ∃ a, m = a + 1 := ⟨m - 1, by omega⟩
    have hjn : j = n := by omega
    subst hjn
    unfold p_X13_steps_182 p_X13_steps_430
    simp only []
    rw [m_byte_e h6, some_bind', show p_X13_isDigit 0 = some 0 from rfl, some_bind', if_pos rfl, pk_sub hs]; rfl
  | succ k ih =>
    intro j m hj hm hs hall
    obtain ⟨m, rfl⟩ : ∃ a, m = a + 1 := ⟨m - 1, by omega⟩
    have hc := (h.2 j (by omega)).1
    unfold p_X13_steps_182 p_X13_steps_430 p_X13_steps_232
    simp only []
    rw [m_byte h (by omega), some_bind', mb_D _ hc, some_bind', some_bind', pk_sub hs, nI_1]
    by_cases hl : isD (C j) = true
    · have hlb := isD_b hl
      rw [if_pos hl, if_neg n10, run_t (P := fun j => isD (C j)) hl]
      have hi := ih (j + 1) m (by omega) (by omega) (by omega) (fun i h1 h2 => by
        by_cases e : i = j
        · subst e; exact hl
        · exact hall i h1 (by omega))
      by_cases h8 : j - s < 3
      · rw [if_neg (le_f (c := 3) h8 (by decide))]
        rw [show mn (j - s) 3 = j - s from if_pos h8, show (10 : Int32) = nI 10 from rfl, pk_mul, nI_add, show (48 : Int32) = nI 48 from rfl, pk_sub (by omega)]
        rw [show mn (j + 1 - s) 3 = (j - s) + 1 from by unfold mn; split <;> omega, show dig C s ((j - s) + 1) = 10 * dig C s (j - s) + (C (s + (j - s)) - 48) from rfl, show s + (j - s) = j by omega, show 10 * dig C s (j - s) + (C j - 48) = 10 * dig C s (j - s) + C j - 48 by omega] at hi
        exact hi
      · rw [if_pos (le_t (c := 3) (by omega) (by omega))]
        rw [show mn (j + 1 - s) 3 = mn (j - s) 3 from by rw [mn_ge (by omega), mn_ge (by omega)]] at hi
        exact hi
    · rw [if_neg hl, if_pos rfl, run_f (P := fun j => isD (C j)) (by simpa using hl)]
theorem m_269 {gtx gtt : TA} {C : Nat → Nat} {n s : Nat} (h : TX gtx gtt C n) (x2 x4 x5 : Int32) (w : Int64) : ∀ (k j m : Nat) (f : TA), j + k = n → k < m → s + 1 ≤ j → (∀ i, s + 1 ≤ i → i < j → i - s - 1 < 5 → f (i - s - 1) = nI (fg (C i))) → ∃ f', p_X13_steps_269 gtt m (nI n, nI j, x2, nI s, x4, x5, w, f) = some (nI n, nI (run (tR C true true) k j), (if 1 < run (tR C true true) k j - s then 3 else 5), nI s, nI (run (tR C true true) k j - s), x5, w, f') ∧ ∀ i, s + 1 ≤ i → i < run (tR C true true) k j → i - s - 1 < 5 → f' (i - s - 1) = nI (fg (C i)) := by
  have h6 := h.1
  intro k
  induction k with
  | zero =>
    intro j m f hj hm hs hf
    obtain ⟨m, rfl⟩ : ∃ a, m = a + 1 := ⟨m - 1, by omega⟩
    have hjn : j = n := by omega
    subst hjn
    refine ⟨f, ?_, hf⟩
    unfold p_X13_steps_269 p_X13_steps_399 p_X13_steps_430
    simp only []
    rw [m_byte_e h6, some_bind', show p_X13_isLetter 0 = some 0 from rfl, some_bind', if_pos rfl, some_bind', show p_X13_isDigit 0 = some 0 from rfl, some_bind', if_pos rfl, pk_sub (by omega)]
    show _ = some (nI j, nI j, (if 1 < j - s then 3 else 5), nI s, nI (j - s), x5, w, f)
    by_cases h1 : 1 < j - s
    · rw [if_neg (ler_f (c := 1) h1 (by omega)), if_pos h1]
    · rw [if_pos (ler_t (c := 1) (by omega) (by decide)), if_neg h1]
  | succ k ih =>
    intro j m f hj hm hs hf
    obtain ⟨m, rfl⟩ : ∃ a, m = a + 1 := ⟨m - 1, by omega⟩
    have hc := (h.2 j (by omega)).1
    have go : tR C true true j = true → ∃ f', p_X13_steps_297 (p_X13_steps_269 gtt m) gtt (nI n, nI j, x2, nI s, x4, x5, w, f) = some (nI n, nI (run (tR C true true) (k + 1) j), (if 1 < run (tR C true true) (k + 1) j - s then 3 else 5), nI s, nI (run (tR C true true) (k + 1) j - s), x5, w, f') ∧ ∀ i, s + 1 ≤ i → i < run (tR C true true) (k + 1) j → i - s - 1 < 5 → f' (i - s - 1) = nI (fg (C i)) := by
      intro ht
      rw [run_t ht]
      have h336 : p_X13_steps_297 (p_X13_steps_269 gtt m) gtt (nI n, nI j, x2, nI s, x4, x5, w, f) = p_X13_steps_336 (p_X13_steps_269 gtt m) gtt (nI n, nI j, x2, nI s, x4, x5, w, f) (nI (fg (C j))) := by
        unfold p_X13_steps_297
        simp only []
        rw [m_byte h (by omega), some_bind', mb_D _ hc, some_bind', some_bind', some_bind']
        unfold fg
        by_cases hd : isD (C j) = true
        · have := isD_b hd
          rw [if_pos hd, if_neg n10, if_pos hd, show (48 : Int32) = nI 48 from rfl, pk_sub (by omega)]
        · have hl : isL (C j) = true := by
            unfold tR at ht
            rw [show isD (C j) = false from by simpa using hd] at ht
            simpa using ht
          have := isL_b hl
          rw [if_neg hd, if_pos rfl, if_neg hd, show (87 : Int32) = nI 87 from rfl, pk_sub (by omega)]
      rw [h336]
      unfold p_X13_steps_336 p_X13_steps_367
      simp only []
      rw [pk_sub (by omega), nI_1]
      by_cases h5 : j - s ≤ 5
      · rw [if_neg (lt_f (c := 5) h5 (by decide)), pred_nI (by omega), if_pos (ix_nI (by omega) (by decide)), cl_nI (by omega)]
        exact ih (j + 1) m _ (by omega) (by omega) (by omega) (fun i h1 h2 h3 => by
          by_cases e : i = j
          · subst e; exact pk_us
          · rw [pk_un (by omega)]; exact hf i h1 (by omega) h3)
      · rw [if_pos (lt_t (c := 5) (by omega) (by omega))]
        exact ih (j + 1) m f (by omega) (by omega) (by omega) (fun i h1 h2 h3 => hf i h1 (by omega) h3)
    unfold p_X13_steps_269 p_X13_steps_399 p_X13_steps_430
    simp only []
    rw [m_byte h (by omega), some_bind', mb_L _ hc, some_bind', some_bind', mb_D _ hc, some_bind']
    by_cases hl : isL (C j) = true
    · rw [if_pos hl, if_neg n10]
      exact go (by unfold tR; rw [hl]; rfl)
    · by_cases hd : isD (C j) = true
      · rw [if_neg hl, if_pos rfl, if_pos hd, if_neg n10]
        exact go (by unfold tR; rw [hd]; simp)
      · rw [if_neg hl, if_pos rfl, if_neg hd, if_pos rfl, run_f (P := tR C true true) (by unfold tR; rw [show isL (C j) = false from by simpa using hl, show isD (C j) = false from by simpa using hd]; rfl), pk_sub (by omega)]
        refine ⟨f, ?_, hf⟩
        by_cases h1 : 1 < j - s
        · rw [if_neg (ler_f (c := 1) h1 (by omega)), if_pos h1]
        · rw [if_pos (ler_t (c := 1) (by omega) (by decide)), if_neg h1]
/-- the reference's reader, standing at the token behind p -/
def RRd (g : RDm) (C : Nat → Nat) (n p : Nat) : Prop := g.1 = nI n ∧ g.2.1 = nI (tE C n p) ∧ g.2.2.1 = nI (tK C n p) ∧ g.2.2.2.1 = nI (tS C n p) ∧ g.2.2.2.2.1 = nI (tE C n p - tS C n p) ∧ (tK C n p = 2 → g.2.2.2.2.2.1 = nI (dig C (tS C n p) (mn (tE C n p - tS C n p) 3))) ∧ (tK C n p = 1 → g.2.2.2.2.2.2.1 = lN (wd C (tS C n p) (mn (tE C n p - tS C n p) 8))) ∧ (tK C n p = 3 → ∀ i, i < 5 → i < tE C n p - tS C n p - 1 → g.2.2.2.2.2.2.2 i = nI (fg (C (tS C n p + 1 + i))))
theorem kd_inv {c l : Nat} : (kdF c l = 2 → isD c = true) ∧ (kdF c l = 1 → isL c = true) ∧ (kdF c l = 3 → c = 35) := by
  unfold kdF
  by_cases h1 : c = 35
  · rw [if_pos h1]; refine ⟨?_, ?_, fun _ => h1⟩ <;> intro e <;> split at e <;> omega
  · rw [if_neg h1]
    by_cases h2 : isL c = true
    · rw [if_pos h2]; exact ⟨fun e => by omega, fun _ => h2, fun e => by omega⟩
    · rw [if_neg h2]
      by_cases h3 : isD c = true
      · rw [if_pos h3]; exact ⟨fun _ => h3, fun e => by omega, fun e => by omega⟩
      · rw [if_neg h3]; refine ⟨?_, ?_, ?_⟩ <;> intro e <;> split at e <;> omega
theorem m_steps {gtx gtt : TA} {C : Nat → Nat} {n p : Nat} (h : TX gtx gtt C n) (hp : p ≤ n) (y : Int32 × Int32 × Int32 × Int32 × Int64 × TA) : ∃ g', p_X13_steps gtt (nI n, nI p, y) = some g' ∧ RRd g' C n p := by
  have h6 := h.1
  have hb := run_ge (fun j => isB (C j)) (n - p) p
  have hb : p ≤ tS C n p ∧ tS C n p ≤ p + (n - p) := hb
  have e0 : p_X13_steps gtt (nI n, nI p, y) = p_X13_steps_50 gtt (nI n, nI (tS C n p), y) := m_skip h y (n - p) p fu (by omega) (fu_lt (by omega))
  rw [e0]
  unfold RRd tE tK
  by_cases hs : n ≤ tS C n p
  · have hsn : tS C n p = n := by omega
    simp only [if_pos hs]
    rw [hsn]
    unfold p_X13_steps_50 p_X13_steps_430
    simp only []
    rw [m_byte_e h6, some_bind', if_neg (nI_nlt (Nat.le_refl _) (by omega)), pk_sub (Nat.le_refl _)]
    exact ⟨_, rfl, rfl, rfl, rfl, rfl, rfl, fun e => by omega, fun e => by omega, fun e => by omega⟩
  · have hcb := (h.2 (tS C n p) (by omega)).1
    simp only [if_neg hs]
    generalize tS C n p = s at hs hcb hb ⊢
    have hrun := run_ge (tR C (ltF (C s)) (dgF (C s))) (n - (s + 1)) (s + 1)
    have hrun : s + 1 ≤ tN C n s ∧ tN C n s ≤ s + 1 + (n - (s + 1)) := hrun
    have hki := kd_inv (c := C s) (l := tN C n s - s)
    unfold p_X13_steps_50 p_X13_steps_427 p_X13_steps_430
    simp only []
    rw [m_byte h (by omega), some_bind', if_pos (nI_lt (by omega) (by omega)), mb_L _ hcb, some_bind', mb_D _ hcb, some_bind', nI_1]
    by_cases hl : isL (C s) = true
    · have hlb := isL_b hl
      have h35 : ¬ C s = 35 := by omega
      have hkd : kdF (C s) (tN C n s - s) = 1 := by unfold kdF; rw [if_neg h35, if_pos hl]
      have htn : tN C n s = run (fun j => isL (C j)) (n - s) s := by
        rw [show n - s = (n - (s + 1)) + 1 by omega, run_t (P := fun j => isL (C j)) hl]
        unfold tN
        apply run_cong
        intro j
        unfold tR ltF dgF
        rw [hl, isL_D hl, decide_eq_false h35]; simp
      rw [if_pos hl, if_neg n10, hkd, htn]
      obtain ⟨w, a1, a2⟩ := m_103 (s := s) h y.1 y.2.2.1 0 y.2.2.2.2.2 (n - s) s fu (by omega) (fu_lt (by omega)) (Nat.le_refl _) (fun i h1 h2 => absurd h1 (by omega))
      rw [Nat.sub_self, mn_0] at a1
      exact ⟨_, a1, rfl, rfl, rfl, rfl, rfl, fun e => by omega, fun _ => a2, fun e => by omega⟩
    · rw [if_neg hl, if_pos rfl]
      by_cases hd : isD (C s) = true
      · have hdb := isD_b hd
        have h35 : ¬ C s = 35 := by omega
        have hkd : kdF (C s) (tN C n s - s) = 2 := by unfold kdF; rw [if_neg h35, if_neg hl, if_pos hd]
        have htn : tN C n s = run (fun j => isD (C j)) (n - s) s := by
          rw [show n - s = (n - (s + 1)) + 1 by omega, run_t (P := fun j => isD (C j)) hd]
          unfold tN
          apply run_cong
          intro j
          unfold tR ltF dgF
          rw [hd, isD_L hd, decide_eq_false h35]; simp
        rw [if_pos hd, if_neg n10, hkd, htn]
        have a1 := m_182 (s := s) h y.1 y.2.2.1 0 y.2.2.2.2.2 (n - s) s fu (by omega) (fu_lt (by omega)) (Nat.le_refl _) (fun i h1 h2 => absurd h1 (by omega))
        rw [Nat.sub_self, mn_0] at a1
        exact ⟨_, a1, rfl, rfl, rfl, rfl, rfl, fun _ => rfl, fun e => by omega, fun e => by omega⟩
      · rw [if_neg hd, if_pos rfl]
        by_cases h35 : C s = 35
        · have htn : tN C n s = run (tR C true true) (n - (s + 1)) (s + 1) := by
            unfold tN ltF dgF
            rw [decide_eq_true h35, Bool.true_or, Bool.true_or]
          have hkd : kdF (C s) (tN C n s - s) = if 1 < tN C n s - s then 3 else 5 := by unfold kdF; rw [if_pos h35]
          rw [if_pos (eq_t (c := 35) h35)]
          obtain ⟨f', a1, a2⟩ := m_269 (s := s) h y.1 y.2.2.1 0 0 (n - (s + 1)) (s + 1) fu y.2.2.2.2.2 (by omega) (fu_lt (by omega)) (Nat.le_refl _) (fun i h1 h2 => absurd h1 (by omega))
          rw [← htn] at a1 a2
          refine ⟨_, a1, rfl, rfl, ?_, rfl, rfl, fun e => ?_, fun e => ?_, fun _ i h1 h2 => ?_⟩
          · rw [hkd]; show (if _ then (3 : Int32) else 5) = _; split <;> rfl
          · rw [hkd] at e; split at e <;> omega
          · rw [hkd] at e; split at e <;> omega
          · have := a2 (s + 1 + i) (by omega) (by omega) (by omega)
            rw [show s + 1 + i - s - 1 = i by omega] at this
            exact this
        · rw [if_neg (eq_f (c := 35) h35 (by omega) (by decide))]
          have htn : tN C n s = s + 1 := by
            unfold tN
            cases hk : n - (s + 1) with
            | zero => rfl
            | succ k =>
              rw [run_f]
              unfold tR ltF dgF
              rw [decide_eq_false h35, show isL (C s) = false from by simpa using hl, show isD (C s) = false from by simpa using hd]; rfl
          have hkd : kdF (C s) (tN C n s - s) = if C s = 59 then 4 else 5 := by unfold kdF; rw [if_neg h35, if_neg hl, if_neg hd]
          rw [hkd, htn, pk_sub (by omega)]
          by_cases h59 : C s = 59
          · rw [if_pos (eq_t (c := 59) h59), if_pos h59]
            exact ⟨_, rfl, rfl, rfl, rfl, rfl, rfl, fun e => by omega, fun e => by omega, fun e => by omega⟩
          · rw [if_neg (eq_f (c := 59) h59 (by omega) (by decide)), if_neg h59]
            exact ⟨_, rfl, rfl, rfl, rfl, rfl, rfl, fun e => by omega, fun e => by omega, fun e => by omega⟩
theorem m_next {gtx gtt : TA} {C : Nat → Nat} {n p : Nat} {g : RDm} (h : TX gtx gtt C n) (hp : p ≤ n) (hg : RRd g C n p) : ∃ g', p_X13_steps gtt g = some g' ∧ RRd g' C n (tE C n p) := by
  obtain ⟨g1, g2, g3⟩ := g
  have e1 : g1 = nI n := hg.1
  have e2 : g2 = nI (tE C n p) := hg.2.1
  rw [e1, e2]
  exact m_steps h (tk_b C hp).2.2.1 g3
