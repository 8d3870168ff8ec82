theorem ler_t {c d : Nat} (h : d ≤ c) (hc : c < 2147483648) : nI d ≤ (OfNat.ofNat c : Int32) := nI_le h hc
theorem ler_f {c d : Nat} (h : c < d) (hd : d < 2147483648) : ¬ nI d ≤ (OfNat.ofNat c : Int32) := nI_ge h hd
abbrev TR := Int32 × TA × TA × TA
abbrev TRm := Int32 × TA
abbrev TG := Int32 × Int32 × Int32 × Int32 × Int32 × Int32
abbrev MV := Nat × Nat × (Nat → Nat) × (Nat → Nat) × (Nat → Nat) × (Nat → Nat → Nat)
abbrev vO (V : MV) : Nat := V.1
abbrev vB (V : MV) : Nat := V.2.1
abbrev vG (V : MV) (i : Nat) : Nat := V.2.2.1 i
abbrev vC (V : MV) (i : Nat) : Nat := V.2.2.2.1 i
abbrev vH (V : MV) (i : Nat) : Nat := V.2.2.2.2.1 i
abbrev vL (V : MV) (i j : Nat) : Nat := V.2.2.2.2.2 i j
def sN (f : Nat → Nat) : Nat → Nat
  | 0 => 0
  | k + 1 => sN f k + f k
theorem sN_cong {f g : Nat → Nat} : ∀ k : Nat, (∀ d, d < k → f d = g d) → sN f k = sN g k := by
  intro k
  induction k with
  | zero => intro _; rfl
  | succ k ih => intro h; simp only [sN]; rw [ih (fun d hd => h d (by omega)), h k (by omega)]
theorem sN_le (f : Nat → Nat) : ∀ k i : Nat, i < k → f i ≤ sN f k := by
  intro k
  induction k with
  | zero => intro i hi; omega
  | succ k ih =>
    intro i hi
    simp only [sN]
    by_cases e : i = k
    · subst e; omega
    · have := ih i (by omega); omega
theorem sN_cut (f : Nat → Nat) : ∀ O, O ≤ 5 → sN (fun i => if i < O then f i else 0) 5 = sN f O := by
  intro O hO
  have h : O = 0 ∨ O = 1 ∨ O = 2 ∨ O = 3 ∨ O = 4 ∨ O = 5 := by omega
  rcases h with h | h | h | h | h | h <;> subst h <;> simp [sN]
def VC (gv : TV) (V : MV) : Prop := gv.1 = nI (vO V) ∧ gv.2.1 = nI (vB V) ∧ ∀ i, i < vO V → gv.2.2.1 i = nI (vG V i) ∧ gv.2.2.2.1 i = nI (vC V i) ∧ gv.2.2.2.2.1 i = nI (vH V i) ∧ gv.2.2.2.2.2.1 i = nI (sN (vL V i) 5) ∧ gv.2.2.2.2.2.2 i = nI (sN (fun k => vL V k i) 5)
def VM (gvm : TM) (V : MV) : Prop := gvm.1 = nI (vO V) ∧ gvm.2.2.1 = nI (vB V) ∧ (∀ i, i < vO V → gvm.2.2.2.1 i = nI (vG V i) ∧ gvm.2.2.2.2.1 i = nI (vC V i) ∧ gvm.2.2.2.2.2.1 i = nI (vH V i)) ∧ ∀ i j, i < 5 → j < 5 → gvm.2.2.2.2.2.2.1 (5 * i + j) = nI (vL V i j)
def OV (V : MV) : Prop := vO V ≤ 5 ∧ vB V ≤ 40 ∧ sN (vG V) (vO V) ≤ 40 ∧ ∀ i, i < vO V → vC V i ≤ 5 ∧ sN (vL V i) 5 + vH V i ≤ vG V i
abbrev MR := Nat × (Nat → Nat) × (Nat → Nat) × (Nat → Int)
def RC (gc : TR) (R : MR) : Prop := gc.1 = nI R.1 ∧ ∀ r, r < R.1 → gc.2.1 r = nI (R.2.1 r) ∧ gc.2.2.1 r = nI (R.2.2.1 r) ∧ gc.2.2.2 r = iI (R.2.2.2 r)
def RM (grc : TRm) (R : MR) : Prop := grc.1 = nI R.1 ∧ ∀ r, r < R.1 → grc.2 (3 * r) = nI (R.2.1 r) ∧ grc.2 (3 * r + 1) = nI (R.2.2.1 r) ∧ grc.2 (3 * r + 2) = iI (R.2.2.2 r)
def OR (R : MR) : Prop := R.1 ≤ 12 ∧ ∀ r, r < R.1 → R.2.1 r < 1024 ∧ R.2.2.1 r ≤ 99999999 ∧ -20 ≤ R.2.2.2 r ∧ R.2.2.2 r ≤ 20
abbrev MS := MV × MD × MR
def CS (gv : TV) (gd : TD) (gc : TR) (S : MS) : Prop := VC gv S.1 ∧ DC gd S.2.1 ∧ RC gc S.2.2
def RS (gvm : TM) (grc : TRm) (S : MS) : Prop := VM gvm S.1 ∧ DM gvm S.2.1 ∧ RM grc S.2.2
def OS (S : MS) : Prop := OV S.1 ∧ OD (vO S.1) S.2.1 ∧ OR S.2.2
theorem OV_g {V : MV} (h : OV V) {i : Nat} (hi : i < vO V) : vG V i ≤ 40 := by
  have h2 := h.2.2.1
  have := sN_le (vG V) (vO V) i hi
  omega
def Ag1 (e : Nat) (v : Int32 ⊕ Nat) (r t : Int32) : Prop := (v = .inl r ∧ t = 0) ∨ (v = .inr e ∧ t = 1)
def Ag2 (v : Int32 ⊕ Nat) (r t : Int32) : Prop := (v = .inl r ∧ t = 0) ∨ (v = .inr 1 ∧ t = 1) ∨ (v = .inr 2 ∧ t = 2)
theorem xb_l {α γ : Type} (a : α) (f : α → Option γ) (g : Nat → Option γ) : xb (.inl a) f g = f a := rfl
theorem xb_r {α γ : Type} (k : Nat) (f : α → Option γ) (g : Nat → Option γ) : xb (.inr k : α ⊕ Nat) f g = g k := rfl
theorem r_ok (w : Int32) : p_X13_right 0 1 w = some (1, 0) := rfl
theorem r_no1 : p_X13_right 0 0 1 = some (0, 1) := rfl
theorem r_no2 : p_X13_right 0 0 2 = some (0, 2) := rfl
theorem isZ0 : isZ 0 := Or.inl rfl
theorem isZ1 : isZ 1 := Or.inr rfl
theorem n10 : ¬ (1 : Int32) = 0 := by decide
-- owners
theorem c_hasOwner {gv : TV} {V : MV} (h : VC gv V) (ho : OV V) {i : Nat} (hi : i < 5) : p_X9_hasOwner gv (nI i) = some (if i < vO V then 1 else 0) := by
  unfold p_X9_hasOwner
  have h5 := ho.1
  rw [if_neg (nI_pos (by omega)), if_neg (le_f (c := 5) hi (by decide)), h.1]
  by_cases hh : i < vO V
  · rw [if_neg (nI_ge hh (by omega)), if_pos hh]
  · rw [if_pos (nI_le (by omega) (by omega)), if_neg hh]
theorem c_hasOwner_out {gv : TV} {x : Int32} (h : x < 0 ∨ (5 : Int32) ≤ x) : p_X9_hasOwner gv x = some 0 := by
  unfold p_X9_hasOwner
  rcases h with h | h
  · rw [if_pos h]
  · by_cases h2 : x < 0
    · rw [if_pos h2]
    · rw [if_neg h2, if_pos h]
theorem c_goatsOf {gv : TV} {V : MV} (h : VC gv V) (ho : OV V) {i : Nat} (hi : i < 5) : p_X9_goatsOf gv (nI i) = some (nI (if i < vO V then vG V i else 0)) := by
  unfold p_X9_goatsOf
  rw [c_hasOwner h ho hi, some_bind']
  by_cases hh : i < vO V
  · rw [if_pos hh, if_pos hh, if_neg n10, if_pos (ix_nI hi (by decide)), cl_nI (by omega), (h.2.2 i hh).1]
  · rw [if_neg hh, if_neg hh, if_pos rfl]; rfl
theorem c_hidesOf {gv : TV} {V : MV} (h : VC gv V) (ho : OV V) {i : Nat} (hi : i < 5) : p_X9_hidesOf gv (nI i) = some (nI (if i < vO V then vC V i else 0)) := by
  unfold p_X9_hidesOf
  rw [c_hasOwner h ho hi, some_bind']
  by_cases hh : i < vO V
  · rw [if_pos hh, if_pos hh, if_neg n10, if_pos (ix_nI hi (by decide)), cl_nI (by omega), (h.2.2 i hh).2.1]
  · rw [if_neg hh, if_neg hh, if_pos rfl]; rfl
theorem c_hiddenBy {gv : TV} {V : MV} (h : VC gv V) (ho : OV V) {i : Nat} (hi : i < 5) : p_X9_hiddenBy gv (nI i) = some (nI (if i < vO V then vH V i else 0)) := by
  unfold p_X9_hiddenBy
  rw [c_hasOwner h ho hi, some_bind']
  by_cases hh : i < vO V
  · rw [if_pos hh, if_pos hh, if_neg n10, if_pos (ix_nI hi (by decide)), cl_nI (by omega), (h.2.2 i hh).2.2.1]
  · rw [if_neg hh, if_neg hh, if_pos rfl]; rfl
theorem c_lentBy {gv : TV} {V : MV} (h : VC gv V) (ho : OV V) {i : Nat} (hi : i < 5) : p_X9_lentBy gv (nI i) = some (nI (if i < vO V then sN (vL V i) 5 else 0)) := by
  unfold p_X9_lentBy
  rw [c_hasOwner h ho hi, some_bind']
  by_cases hh : i < vO V
  · rw [if_pos hh, if_pos hh, if_neg n10, if_pos (ix_nI hi (by decide)), cl_nI (by omega), (h.2.2 i hh).2.2.2.1]
  · rw [if_neg hh, if_neg hh, if_pos rfl]; rfl
theorem c_borrowedBy {gv : TV} {V : MV} (h : VC gv V) (ho : OV V) {i : Nat} (hi : i < 5) : p_X9_borrowedBy gv (nI i) = some (nI (if i < vO V then sN (fun k => vL V k i) 5 else 0)) := by
  unfold p_X9_borrowedBy
  rw [c_hasOwner h ho hi, some_bind']
  by_cases hh : i < vO V
  · rw [if_pos hh, if_pos hh, if_neg n10, if_pos (ix_nI hi (by decide)), cl_nI (by omega), (h.2.2 i hh).2.2.2.2]
  · rw [if_neg hh, if_neg hh, if_pos rfl]; rfl
theorem c_allGoats_loop {gv : TV} {V : MV} (h : VC gv V) (ho : OV V) : ∀ k j n : Nat, j + k = 5 → k < n → p_X9_allGoats_4 gv n (nI (sN (fun i => if i < vO V then vG V i else 0) j)) (nI j) = some (nI (sN (fun i => if i < vO V then vG V i else 0) 5)) := by
  intro k
  induction k with
  | zero =>
    intro j n hj hn
    obtain ⟨n, rfl⟩ : ∃ m, n = m + 1 := ⟨n - 1, by omega⟩
    have hj : j = 5 := by omega
    subst hj
    unfold p_X9_allGoats_4
    rw [if_pos (le_t (c := 5) (Nat.le_refl _) (by decide))]
  | succ k ih =>
    intro j n hj hn
    obtain ⟨n, rfl⟩ : ∃ m, n = m + 1 := ⟨n - 1, by omega⟩
    have hi := ih (j + 1) n (by omega) (by omega)
    unfold p_X9_allGoats_4
    rw [if_neg (le_f (c := 5) (by omega) (by decide)), c_goatsOf h ho (by omega), some_bind', nI_add, nI_1]
    exact hi
theorem c_allGoats {gv : TV} {V : MV} (h : VC gv V) (ho : OV V) : p_X9_allGoats gv = some (nI (sN (vG V) (vO V))) := by
  rw [← sN_cut (vG V) (vO V) ho.1]
  exact c_allGoats_loop h ho 5 0 fu (by omega) (fu_lt (by decide))
theorem m_all_loop {gvm : TM} {V : MV} (h : VM gvm V) (ho : OV V) : ∀ k j n : Nat, j + k = vO V → k < n → p_X13_all_4 gvm n (nI (sN (vG V) j)) (nI j) = some (nI (sN (vG V) (vO V))) := by
  have h5 := ho.1
  intro k
  induction k with
  | zero =>
    intro j n hj hn
    obtain ⟨n, rfl⟩ : ∃ m, n = m + 1 := ⟨n - 1, by omega⟩
    have hj : j = vO V := by omega
    subst hj
    unfold p_X13_all_4
    rw [h.1, if_pos (nI_le (Nat.le_refl _) (by omega))]
  | succ k ih =>
    intro j n hj hn
    obtain ⟨n, rfl⟩ : ∃ m, n = m + 1 := ⟨n - 1, by omega⟩
    have hi := ih (j + 1) n (by omega) (by omega)
    unfold p_X13_all_4
    rw [h.1, if_neg (nI_ge (by omega) (by omega)), if_pos (ix_nI (by omega) (by decide)), cl_nI (by omega), (h.2.2.1 j (by omega)).1, nI_add, nI_1]
    exact hi
theorem m_all {gvm : TM} {V : MV} (h : VM gvm V) (ho : OV V) : p_X13_all gvm = some (nI (sN (vG V) (vO V))) := m_all_loop h ho (vO V) 0 fu (by omega) (fu_lt (by have := ho.1; omega))
theorem m_lentBy_loop {gvm : TM} {V : MV} (h : VM gvm V) {o : Nat} (hq : o < 5) : ∀ k j n : Nat, j + k = 5 → k < n → p_X13_lentBy_4 gvm n (nI o) (nI (sN (vL V o) j)) (nI j) = some (nI (sN (vL V o) 5)) := by
  intro k
  induction k with
  | zero =>
    intro j n hj hn
    obtain ⟨n, rfl⟩ : ∃ m, n = m + 1 := ⟨n - 1, by omega⟩
    have hj : j = 5 := by omega
    subst hj
    unfold p_X13_lentBy_4
    rw [if_pos (le_t (c := 5) (Nat.le_refl _) (by decide))]
  | succ k ih =>
    intro j n hj hn
    obtain ⟨n, rfl⟩ : ∃ m, n = m + 1 := ⟨n - 1, by omega⟩
    have hi := ih (j + 1) n (by omega) (by omega)
    unfold p_X13_lentBy_4
    rw [if_neg (le_f (c := 5) (by omega) (by decide)), fig_at', if_pos (ix_nI (by omega) (by decide)), cl_nI (by omega), h.2.2.2 o j hq (by omega), nI_add, nI_1]
    exact hi
theorem m_lentBy {gvm : TM} {V : MV} (h : VM gvm V) {o : Nat} (hq : o < 5) : p_X13_lentBy gvm (nI o) = some (nI (sN (vL V o) 5)) := m_lentBy_loop h hq 5 0 fu (by omega) (fu_lt (by decide))
-- what is asked of both sides first
theorem g_owner {gv : TV} {gvm : TM} {V : MV} (hc : VC gv V) (hm : VM gvm V) (ho : OV V) (x : Int32) : (∃ o, o < vO V ∧ x = nI o ∧ p_X12_needOwner gv x = some (.inl (), ()) ∧ p_X13_isOwner 0 gvm x = some (1, 0)) ∨ (p_X12_needOwner gv x = some (.inr 1, ()) ∧ p_X13_isOwner 0 gvm x = some (0, 1)) := by
  have h5 := ho.1
  unfold p_X12_needOwner p_X13_isOwner p_X13_isOwner_17 p_X13_isOwner_18
  rcases q_ix x 5 (by decide) with h | h | ⟨j, hj, rfl⟩
  · right
    rw [c_hasOwner_out (Or.inl h), if_pos h]
    exact ⟨rfl, rfl⟩
  · right
    rw [c_hasOwner_out (Or.inr h.2.1), if_neg h.1, hm.1, if_pos (by
      rw [Int32.le_iff_toInt_le, nI_toInt (by omega)]; omega)]
    exact ⟨rfl, rfl⟩
  · rw [c_hasOwner hc ho hj, if_neg (nI_pos (by omega)), hm.1]
    by_cases hh : j < vO V
    · left
      refine ⟨j, hh, rfl, ?_, ?_⟩
      · rw [if_pos hh]; rfl
      · rw [if_neg (nI_ge hh (by omega))]; rfl
    · right
      rw [if_neg hh, if_pos (nI_le (by omega) (by omega))]
      exact ⟨rfl, rfl⟩
theorem g_door {gd : TD} {gvm : TM} {O : Nat} {D : MD} (hc : DC gd D) (hm : DM gvm D) (ho : OD O D) (x : Int32) : (∃ d, d < 10 ∧ dH D d = true ∧ x = nI d ∧ p_X12_needDoor gd x = some (.inl (), ()) ∧ p_X13_isDoor 0 gvm x = some (1, 0)) ∨ (p_X12_needDoor gd x = some (.inr 1, ()) ∧ p_X13_isDoor 0 gvm x = some (0, 1)) := by
  unfold p_X12_needDoor p_X13_isDoor p_X13_isDoor_25 p_X13_isDoor_26
  rcases q_ix x 10 (by decide) with h | h | ⟨j, hj, rfl⟩
  · right
    rw [c_has_out (Or.inl h), if_pos h]
    exact ⟨rfl, rfl⟩
  · right
    rw [c_has_out (Or.inr h.2.1), if_neg h.1, if_pos (show (10 : Int32) ≤ x from h.2.1)]
    exact ⟨rfl, rfl⟩
  · rw [c_has hc ho.2.1 hj, if_neg (nI_pos (by omega)), if_neg (le_f (c := 10) hj (by decide)), if_pos (ix_nI hj (by decide)), cl_nI (by omega), (hm.2 j hj).1]
    by_cases hh : dH D j = true
    · left
      refine ⟨j, hj, hh, rfl, ?_, ?_⟩
      · rw [if_pos hh]; rfl
      · rw [if_pos hh, if_pos rfl]; rfl
    · right
      rw [if_neg hh, if_neg (by decide)]
      exact ⟨rfl, rfl⟩
theorem g_base (x : Int32) (th : Int32) (hth : th = 0) : (∃ b, b ≤ 40 ∧ x = nI b ∧ p_X12_needBase x = some (.inl (), ()) ∧ p_X13_isBase th x 2 = some (1, 0)) ∨ (p_X12_needBase x = some (.inr 2, ()) ∧ p_X13_isBase th x 2 = some (0, 2)) := by
  subst hth
  unfold p_X12_needBase p_X13_isBase p_X13_within
  rcases q_ix x 41 (by decide) with h | h | ⟨j, hj, rfl⟩
  · right
    rw [if_pos h, if_pos h]
    exact ⟨rfl, rfl⟩
  · right
    have h40 : (40 : Int32) < x := by
      rw [Int32.lt_iff_toInt_lt]
      have h2 := h.2.2
      have h3 : (40 : Int32).toInt = 40 := by decide
      omega
    rw [if_neg h.1, if_neg h.1, if_pos h40, if_neg (fun e => by
      rw [Int32.le_iff_toInt_le] at e
      rw [Int32.lt_iff_toInt_lt] at h40
      omega)]
    exact ⟨rfl, rfl⟩
  · left
    refine ⟨j, by omega, rfl, ?_, ?_⟩
    · rw [if_neg (nI_pos (by omega)), if_pos (ler_t (c := 40) (by omega) (by decide))]
    · rw [if_neg (nI_pos (by omega)), if_neg (lt_f (c := 40) (by omega) (by decide))]; rfl
theorem g_span (x y : Int32) (th : Int32) (hth : th = 0) : (∃ a b, a ≤ b ∧ b ≤ 40 ∧ x = nI a ∧ y = nI b ∧ p_X12_needBases x y = some (.inl (), ()) ∧ p_X13_isSpan th x y 2 = some (1, 0)) ∨ (p_X12_needBases x y = some (.inr 2, ()) ∧ p_X13_isSpan th x y 2 = some (0, 2)) := by
  subst hth
  unfold p_X12_needBases p_X13_isSpan p_X13_isSpan_20 p_X13_isSpan_21
  by_cases h1 : x < 0
  · right; rw [if_pos h1, if_pos h1]; exact ⟨rfl, rfl⟩
  · rw [if_neg h1, if_neg h1]
    by_cases h2 : (40 : Int32) < y
    · right; rw [if_pos h2, if_pos h2]; exact ⟨rfl, rfl⟩
    · rw [if_neg h2, if_neg h2]
      have h40 : (40 : Int32).toInt = 40 := by decide
      have h0 : (0 : Int32).toInt = 0 := by decide
      rw [Int32.lt_iff_toInt_lt] at h1 h2
      by_cases h3 : x ≤ y
      · left
        have h3' := h3
        rw [Int32.le_iff_toInt_le] at h3'
        obtain ⟨a, ha, ea⟩ := ix_of (x := x) (n := 41) ⟨by omega, by omega⟩ (by decide)
        obtain ⟨b, hb, eb⟩ := ix_of (x := y) (n := 41) ⟨by omega, by omega⟩ (by decide)
        refine ⟨a, b, ?_, by omega, ea, eb, ?_, ?_⟩
        · rw [ea, eb, nI_toInt (by omega), nI_toInt (by omega)] at h3'; omega
        · rw [if_pos h3]
        · rw [if_neg (fun e => by rw [Int32.lt_iff_toInt_lt] at e; omega)]; rfl
      · right
        rw [if_neg h3, if_pos (by rw [Int32.lt_iff_toInt_lt]; rw [Int32.le_iff_toInt_le] at h3; omega)]
        exact ⟨rfl, rfl⟩
theorem g_what1 (x : Int32) : (x = 0 ∧ p_X12_needWhat x 1 = some (.inl (), ())) ∨ (x = 1 ∧ p_X12_needWhat x 1 = some (.inl (), ())) ∨ (x ≠ 0 ∧ x ≠ 1 ∧ p_X12_needWhat x 1 = some (.inr 1, ())) := by
  unfold p_X12_needWhat
  rcases q_ix x 2 (by decide) with h | h | ⟨j, hj, rfl⟩
  · right; right
    refine ⟨fun e => ?_, fun e => ?_, by rw [if_pos h]⟩ <;> rw [e] at h <;> exact absurd h (by decide)
  · right; right
    have h2 := h.2.2
    refine ⟨fun e => ?_, fun e => ?_, ?_⟩
    · rw [e] at h2; exact absurd h2 (by decide)
    · rw [e] at h2; exact absurd h2 (by decide)
    · rw [if_neg h.1, if_neg (fun e => by
        rw [Int32.le_iff_toInt_le] at e
        have h3 : (1 : Int32).toInt = 1 := by decide
        omega)]
  · have h : j = 0 ∨ j = 1 := by omega
    rcases h with h | h <;> subst h
    · left; exact ⟨rfl, rfl⟩
    · right; left; exact ⟨rfl, rfl⟩
