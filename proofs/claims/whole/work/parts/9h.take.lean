-- what tokens are made of
theorem tk_L {C : Nat → Nat} {n p : Nat} (hp : p ≤ n) (h : tK C n p = 1) : ∀ i, tS C n p ≤ i → i < tE C n p → isL (C i) = true := by
  unfold tK at h
  unfold tE
  by_cases hs : n ≤ tS C n p
  · rw [if_pos hs] at h; omega
  · rw [if_neg hs] at h
    simp only [if_neg hs]
    have hl := kd_inv.2.1 h
    have hlb := isL_b hl
    intro i h1 h2
    by_cases e : i = tS C n p
    · rw [e]; exact hl
    · have := run_all _ _ _ i (show tS C n p + 1 ≤ i by omega) h2
      unfold tR ltF dgF at this
      rw [isL_D hl, hl, decide_eq_false (show ¬ C (tS C n p) = 35 by omega)] at this
      simpa using this
theorem tk_D {C : Nat → Nat} {n p : Nat} (hp : p ≤ n) (h : tK C n p = 2) : ∀ i, tS C n p ≤ i → i < tE C n p → isD (C i) = true := by
  unfold tK at h
  unfold tE
  by_cases hs : n ≤ tS C n p
  · rw [if_pos hs] at h; omega
  · rw [if_neg hs] at h
    simp only [if_neg hs]
    have hl := kd_inv.1 h
    have hlb := isD_b hl
    intro i h1 h2
    by_cases e : i = tS C n p
    · rw [e]; exact hl
    · have := run_all _ _ _ i (show tS C n p + 1 ≤ i by omega) h2
      unfold tR ltF dgF at this
      rw [isD_L hl, hl, decide_eq_false (show ¬ C (tS C n p) = 35 by omega)] at this
      simpa using this
theorem tk_R {C : Nat → Nat} {n p : Nat} (hp : p ≤ n) (h : tK C n p = 3) : tS C n p + 2 ≤ tE C n p ∧ ∀ i, tS C n p < i → i < tE C n p → isL (C i) = true ∨ isD (C i) = true := by
  unfold tK at h
  unfold tE
  by_cases hs : n ≤ tS C n p
  · rw [if_pos hs] at h; omega
  · rw [if_neg hs] at h
    simp only [if_neg hs]
    have h35 := kd_inv.2.2 h
    constructor
    · unfold kdF at h
      rw [if_pos h35] at h
      split at h <;> omega
    · intro i h1 h2
      have := run_all _ _ _ i (show tS C n p + 1 ≤ i by omega) h2
      unfold tR ltF dgF at this
      rw [decide_eq_true h35] at this
      simpa using this
theorem kap_i : ∀ k, k < 6 → (kap k = 1 ↔ k = 0) ∧ (kap k = 2 ↔ k = 1) ∧ (kap k = 3 ↔ k = 2) ∧ (kap k = 4 ↔ k = 3) ∧ (kap k = 5 ↔ k = 4) := by decide +kernel
-- words
def wNl : List (List Nat) := [[111, 119, 110, 101, 114], [100, 111, 111, 114], [108, 97, 119], [104, 105, 100, 101, 115], [118, 111, 105, 100], [100, 117, 101], [103, 114, 101, 97, 116, 101, 115, 116], [98, 111, 114, 110], [101, 97, 116, 101, 110], [108, 101, 110, 116], [104, 105, 100, 100, 101, 110], [99, 101, 110, 115, 117, 115], [114, 117, 98], [119, 114, 105, 116, 101], [115, 119, 97, 112]]
def wB (x i : Nat) : Nat := (wNl.getD x []).getD i 0
def wl (x : Nat) : Nat := wLen.getD x 0
def rx (x : Nat) : Nat := [8, 10, 11, 9, 12, 13, 14, 0, 1, 2, 3, 4, 5, 6, 7].getD x 0
theorem w_b : ∀ x, x < 15 → 3 ≤ wl x ∧ wl x ≤ 8 := by decide +kernel
theorem w_c : ∀ x, x < 15 → ∀ i, i < 8 → i < wl x → wCh x i = nI (wB x i) ∧ isL (wB x i) = true := by decide +kernel
theorem w_r : ∀ x, x < 15 → p_X13_letters (nI (rx x)) = some (lN (wd (wB x) 0 (wl x))) := by decide +kernel
def isW (C : Nat → Nat) (n p x : Nat) : Prop := tK C n p = 1 ∧ tE C n p - tS C n p = wl x ∧ ∀ i, i < wl x → C (tS C n p + i) = wB x i
theorem wd_inj {C C' : Nat → Nat} {s s' : Nat} : ∀ a b, (∀ i, i < a → isL (C (s + i)) = true) → (∀ i, i < b → isL (C' (s' + i)) = true) → wd C s a = wd C' s' b → a = b ∧ ∀ i, i < a → C (s + i) = C' (s' + i) := by
  intro a
  induction a with
  | zero =>
    intro b h1 h2 e
    cases b with
    | zero => exact ⟨rfl, fun i hi => by omega⟩
    | succ b =>
      have := isL_b (h2 b (by omega))
      unfold wd at e; omega
  | succ a ih =>
    intro b h1 h2 e
    have l1 := isL_b (h1 a (by omega))
    cases b with
    | zero => unfold wd at e; omega
    | succ b =>
      have l2 := isL_b (h2 b (by omega))
      unfold wd at e
      have e1 : C (s + a) - 96 = C' (s' + b) - 96 := by omega
      have e2 : wd C s a = wd C' s' b := by omega
      obtain ⟨q1, q2⟩ := ih b (fun i hi => h1 i (by omega)) (fun i hi => h2 i (by omega)) e2
      subst q1
      refine ⟨rfl, fun i hi => ?_⟩
      by_cases c : i = a
      · subst c; omega
      · exact q2 i (by omega)
theorem wd_cong {C C' : Nat → Nat} {s s' : Nat} : ∀ a, (∀ i, i < a → C (s + i) = C' (s' + i)) → wd C s a = wd C' s' a := by
  intro a
  induction a with
  | zero => intro _; rfl
  | succ a ih => intro h; unfold wd; rw [ih (fun i hi => h i (by omega)), h a (by omega)]
theorem c_word_28 {gtx gtt : TA} {C : Nat → Nat} {n p x : Nat} (h : TX gtx gtt C n) (hp : p ≤ n) (hx : x < 15) (r : R5) (hk : tK C n p = 1) (hl : tE C n p - tS C n p = wl x) : ∀ k j m : Nat, j + k = wl x → k < m → (∀ i, i < j → C (tS C n p + i) = wB x i) → ∃ v, p_X7_isWord_28 (rdC C n p r) gtx m x (nI j) = some v ∧ ((v = 1 ∧ isW C n p x) ∨ (v = 0 ∧ ¬ isW C n p x)) := by
  have h6 := h.1
  have hb := tk_b C hp
  have hw := w_b x hx
  intro k
  induction k with
  | zero =>
    intro j m hj hm hall
    obtain ⟨m, rfl⟩ : ∃ a, m = a + 1 := ⟨m - 1, by omega⟩
    refine ⟨1, ?_, Or.inl ⟨rfl, hk, hl, fun i hi => hall i (by omega)⟩⟩
    unfold p_X7_isWord_28
    rw [if_pos hx, if_pos (show wLn x ≤ nI j from nI_le (a := wl x) (by omega) (by omega))]
  | succ k ih =>
    intro j m hj hm hall
    obtain ⟨m, rfl⟩ : ∃ a, m = a + 1 := ⟨m - 1, by omega⟩
    have hc := w_c x hx j (by omega) (by omega)
    have hlt := tk_L hp hk (tS C n p + j) (by omega) (by omega)
    have hlb := isL_b hlt
    have hwb := isL_b hc.2
    have hsg : p_X7_signAt (rdC C n p r) gtx (nI (tS C n p) + nI j) = some (nI (C (tS C n p + j))) := by
      rw [nI_add, ← cb_nI (C (tS C n p + j)) (by omega)]
      exact c_sign h (by omega) _
    unfold p_X7_isWord_28
    rw [if_pos hx, if_neg (show ¬ wLn x ≤ nI j from nI_ge (b := wl x) (by omega) (by omega))]
    rw [show (rdC C n p r).2.2.1 = nI (tS C n p) from rfl, hsg, some_bind', if_pos hx, if_pos (show ix (nI j) (wLen.getD x 0) from ix_nI (n := wl x) (by omega) (by omega)), cl_nI (by omega), hc.1, nI_1]
    by_cases he : C (tS C n p + j) = wB x j
    · rw [if_pos (by rw [he])]
      exact ih (j + 1) m (by omega) (by omega) (fun i hi => by
        by_cases c : i = j
        · subst c; exact he
        · exact hall i (by omega))
    · rw [if_neg (ne_f he (by omega) (by omega))]
      exact ⟨0, rfl, Or.inr ⟨rfl, fun q => he (q.2.2 j (by omega))⟩⟩
theorem q_word {gtx gtt : TA} {C : Nat → Nat} {n p x : Nat} (h : TX gtx gtt C n) (hp : p ≤ n) (hx : x < 15) : (isW C n p x ∧ (∀ r, p_X7_isWord (rdC C n p r) gtx x = some 1) ∧ ∀ g, RRd g C n p → p_X13_is g (nI (rx x)) = some 1) ∨ (¬ isW C n p x ∧ (∀ r, p_X7_isWord (rdC C n p r) gtx x = some 0) ∧ ∀ g, RRd g C n p → p_X13_is g (nI (rx x)) = some 0) := by
  have h6 := h.1
  have hb := tk_b C hp
  have hw := w_b x hx
  have hki := kap_i (tK C n p) (by omega)
  by_cases hk : tK C n p = 1
  · -- the reference
    have href : ∀ g, RRd g C n p → p_X13_is g (nI (rx x)) = some (if tE C n p - tS C n p < 9 ∧ wd C (tS C n p) (tE C n p - tS C n p) = wd (wB x) 0 (wl x) then 1 else 0) := by
      intro g hg
      unfold p_X13_is
      rw [hg.2.2.1, if_pos (eq_t (c := 1) hk), hg.2.2.2.2.1]
      by_cases h9 : tE C n p - tS C n p < 9
      · rw [if_neg (le_f (c := 9) h9 (by decide)), w_r x hx, some_bind', hg.2.2.2.2.2.2.1 hk, show mn (tE C n p - tS C n p) 8 = tE C n p - tS C n p from by unfold mn; split <;> omega]
        have b1 := wd_b (C := C) (s := tS C n p) (tE C n p - tS C n p) (fun i hi => tk_L hp hk _ (by omega) (by omega))
        have b2 := wd_b (C := wB x) (s := 0) (wl x) (fun i hi => by rw [Nat.zero_add]; exact (w_c x hx i (by omega) hi).2)
        have b3 : 32 ^ (tE C n p - tS C n p) ≤ 32 ^ 8 := Nat.pow_le_pow_right (by decide) (by omega)
        have b4 : 32 ^ wl x ≤ 32 ^ 8 := Nat.pow_le_pow_right (by decide) hw.2
        rw [show 32 ^ 8 = 1099511627776 from by decide] at b3 b4
        by_cases he : wd C (tS C n p) (tE C n p - tS C n p) = wd (wB x) 0 (wl x)
        · rw [if_pos ((lg_cmp_eq _ _).2 (by rw [he])), if_pos ⟨h9, he⟩]
        · rw [if_neg (fun e => he ((pk_lEQ (by omega) (by omega)).1 ((lg_cmp_eq _ _).1 e))), if_neg (fun e => he e.2)]
      · rw [if_pos (le_t (c := 9) (by omega) (by omega)), if_neg (fun e => h9 e.1)]
    have hiff : (tE C n p - tS C n p < 9 ∧ wd C (tS C n p) (tE C n p - tS C n p) = wd (wB x) 0 (wl x)) ↔ isW C n p x := by
      constructor
      · intro e
        have := wd_inj (C := C) (C' := wB x) (s := tS C n p) (s' := 0) _ _ (fun i hi => tk_L hp hk _ (by omega) (by omega)) (fun i hi => by rw [Nat.zero_add]; exact (w_c x hx i (by omega) hi).2) e.2
        exact ⟨hk, this.1, fun i hi => by have q := this.2 i (by omega); rw [Nat.zero_add] at q; exact q⟩
      · intro e
        refine ⟨by rw [e.2.1]; omega, ?_⟩
        rw [e.2.1]
        exact wd_cong _ (fun i hi => by rw [Nat.zero_add]; exact e.2.2 i hi)
    by_cases hl : tE C n p - tS C n p = wl x
    · have hcl : ∀ r, ∃ v, p_X7_isWord (rdC C n p r) gtx x = some v ∧ ((v = 1 ∧ isW C n p x) ∨ (v = 0 ∧ ¬ isW C n p x)) := by
        intro r
        obtain ⟨v, a1, a2⟩ := c_word_28 h hp hx r hk hl (wl x) 0 fu (by omega) (fu_lt (by omega)) (fun i hi => by omega)
        refine ⟨v, ?_, a2⟩
        unfold p_X7_isWord
        rw [show (rdC C n p r).2.1 = kap (tK C n p) from rfl, if_pos (hki.2.1.2 hk), if_pos hx, show (rdC C n p r).2.2.2.1 - (rdC C n p r).2.2.1 = nI (tE C n p) - nI (tS C n p) from rfl, pk_sub (by omega), if_pos (show nI (tE C n p - tS C n p) = wLn x from by rw [hl]; rfl)]
        exact a1
      by_cases hwd : isW C n p x
      · left
        refine ⟨hwd, fun r => ?_, fun g hg => by rw [href g hg, if_pos (hiff.2 hwd)]⟩
        obtain ⟨v, a1, a2⟩ := hcl r
        rcases a2 with a2 | a2
        · rw [a1, a2.1]
        · exact absurd hwd a2.2
      · right
        refine ⟨hwd, fun r => ?_, fun g hg => by rw [href g hg, if_neg (fun e => hwd (hiff.1 e))]⟩
        obtain ⟨v, a1, a2⟩ := hcl r
        rcases a2 with a2 | a2
        · exact absurd a2.2 hwd
        · rw [a1, a2.1]
    · right
      have hwd : ¬ isW C n p x := fun e => hl e.2.1
      refine ⟨hwd, fun r => ?_, fun g hg => by rw [href g hg, if_neg (fun e => hwd (hiff.1 e))]⟩
      unfold p_X7_isWord
      rw [show (rdC C n p r).2.1 = kap (tK C n p) from rfl, if_pos (hki.2.1.2 hk), if_pos hx, show (rdC C n p r).2.2.2.1 - (rdC C n p r).2.2.1 = nI (tE C n p) - nI (tS C n p) from rfl, pk_sub (by omega), if_neg (show ¬ nI (tE C n p - tS C n p) = wLn x from fun e => hl ((nI_eq (a := tE C n p - tS C n p) (b := wl x) (by omega) (by omega)).1 e))]
  · right
    refine ⟨fun e => hk e.1, fun r => ?_, fun g hg => ?_⟩
    · unfold p_X7_isWord
      rw [show (rdC C n p r).2.1 = kap (tK C n p) from rfl, if_neg (fun e => hk (hki.2.1.1 e))]
    · unfold p_X13_is
      rw [hg.2.2.1, if_neg (eq_f (c := 1) hk (by omega) (by decide))]
-- takes
def Rfs (gr : RD) (w : Int32) (s : Nat) : Prop := gr.2.2.2.2.1 = w ∧ gr.2.2.2.2.2.1 = nI s
theorem c_rf (C : Nat → Nat) (n p : Nat) (r : R5) (w : Int32) : ∃ gr', p_X7_refuse (rdC C n p r) w = some (0, gr') ∧ Rfs gr' w (tS C n p) := ⟨_, rfl, rfl, rfl⟩
theorem c_rfz (C : Nat → Nat) (n p : Nat) (r : R5) (w : Int32) : ∃ gr', ((p_X7_refuse (rdC C n p r) w).bind fun v => (if isZ v.1 then some (v.1, v.2) else none)) = some (0, gr') ∧ Rfs gr' w (tS C n p) := ⟨_, rfl, rfl, rfl⟩
theorem c_sn_loop {gtx gtt : TA} {C : Nat → Nat} {n p : Nat} (h : TX gtx gtt C n) (hp : p ≤ n) (hk : tK C n p = 2) (hl : tE C n p - tS C n p ≤ 3) : ∀ (k j m : Nat) (r : R5), j + k = tE C n p - tS C n p → k < m → p_X7_isShortNumber_43 gtx m (rdC C n p (r.1, r.2.1, nI (dig C (tS C n p) j), r.2.2.2)) (nI (tS C n p + j)) = some (1, rdC C n p (r.1, r.2.1, nI (dig C (tS C n p) (tE C n p - tS C n p)), r.2.2.2)) := by
  have h6 := h.1
  have hb := tk_b C hp
  intro k
  induction k with
  | zero =>
    intro j m r hj hm
    obtain ⟨m, rfl⟩ : ∃ a, m = a + 1 := ⟨m - 1, by omega⟩
    have hj : j = tE C n p - tS C n p := by omega
    subst hj
    unfold p_X7_isShortNumber_43
    rw [if_pos (show (rdC C n p _).2.2.2.1 ≤ _ from nI_le (a := tE C n p) (by omega) (by omega))]
  | succ k ih =>
    intro j m r hj hm
    obtain ⟨m, rfl⟩ : ∃ a, m = a + 1 := ⟨m - 1, by omega⟩
    have hd := isD_b (tk_D hp hk (tS C n p + j) (by omega) (by omega))
    unfold p_X7_isShortNumber_43
    rw [if_neg (show ¬ (rdC C n p _).2.2.2.1 ≤ _ from nI_ge (b := tE C n p) (by omega) (by omega)), show p_X7_signAt (rdC C n p (r.1, r.2.1, nI (dig C (tS C n p) j), r.2.2.2)) gtx (nI (tS C n p + j)) = some (sb (C (tS C n p + j))) from c_sign h (by omega) _, some_bind', cb_nI _ (by omega), nI_1]
    have hi := ih (j + 1) m r (by omega) (by omega)
    have hv : (nI (dig C (tS C n p) j) * 10 + nI (C (tS C n p + j))) - 48 = nI (dig C (tS C n p) (j + 1)) := by
      rw [show (10 : Int32) = nI 10 from rfl, pk_mul, nI_add, show (48 : Int32) = nI 48 from rfl, pk_sub (by omega)]
      congr 1
      show _ = 10 * dig C (tS C n p) j + (C (tS C n p + j) - 48)
      omega
    rw [← hv] at hi
    exact hi
/-- the number of a token of at most three digits -/
def tV (C : Nat → Nat) (n p : Nat) : Nat := dig C (tS C n p) (tE C n p - tS C n p)
theorem tV_b {C : Nat → Nat} {n p : Nat} (hp : p ≤ n) (hk : tK C n p = 2) (hl : tE C n p - tS C n p ≤ 3) : tV C n p < 1000 := by
  have hb := tk_b C hp
  have h1 := dig_b (C := C) (s := tS C n p) (tE C n p - tS C n p) hl (fun i hi => tk_D hp hk _ (by omega) (by omega))
  have h2 : 10 ^ (tE C n p - tS C n p) ≤ 10 ^ 3 := Nat.pow_le_pow_right (by decide) hl
  unfold tV; omega
theorem q_short {gtx gtt : TA} {C : Nat → Nat} {n p : Nat} (h : TX gtx gtt C n) (hp : p ≤ n) : (tK C n p = 2 ∧ tE C n p - tS C n p ≤ 3 ∧ ∀ r, p_X7_isShortNumber (rdC C n p r) gtx = some (1, rdC C n p (r.1, r.2.1, nI (tV C n p), r.2.2.2))) ∨ (∃ w : Int32, ((w = 1 ∧ tK C n p ≠ 2) ∨ (w = 2 ∧ tK C n p = 2 ∧ 3 < tE C n p - tS C n p)) ∧ ∀ r, ∃ gr', p_X7_isShortNumber (rdC C n p r) gtx = some (0, gr') ∧ Rfs gr' w (tS C n p)) := by
  have h6 := h.1
  have hb := tk_b C hp
  have hki := kap_i (tK C n p) (by omega)
  by_cases hk : tK C n p = 2
  · by_cases hl : tE C n p - tS C n p ≤ 3
    · left
      refine ⟨hk, hl, fun r => ?_⟩
      unfold p_X7_isShortNumber
      rw [show (rdC C n p r).2.1 = kap (tK C n p) from rfl, if_pos (hki.2.2.1.2 hk), show (rdC C n p r).2.2.2.1 - (rdC C n p r).2.2.1 = nI (tE C n p) - nI (tS C n p) from rfl, pk_sub (by omega), if_pos (ler_t (c := 3) hl (by decide))]
      exact c_sn_loop h hp hk hl (tE C n p - tS C n p) 0 fu r (by omega) (fu_lt (by omega))
    · right
      refine ⟨2, Or.inr ⟨rfl, hk, by omega⟩, fun r => ?_⟩
      unfold p_X7_isShortNumber
      rw [show (rdC C n p r).2.1 = kap (tK C n p) from rfl, if_pos (hki.2.2.1.2 hk), show (rdC C n p r).2.2.2.1 - (rdC C n p r).2.2.1 = nI (tE C n p) - nI (tS C n p) from rfl, pk_sub (by omega), if_neg (ler_f (c := 3) (by omega) (by omega))]
      exact c_rfz C n p r 2
  · right
    refine ⟨1, Or.inl ⟨rfl, hk⟩, fun r => ?_⟩
    unfold p_X7_isShortNumber
    rw [show (rdC C n p r).2.1 = kap (tK C n p) from rfl, if_neg (fun e => hk (hki.2.2.1.1 e))]
    exact c_rfz C n p r 1
theorem m_value {C : Nat → Nat} {n p : Nat} {g : RDm} (hg : RRd g C n p) (hk : tK C n p = 2) (hl : tE C n p - tS C n p ≤ 3) : g.2.2.2.2.2.1 = nI (tV C n p) := by
  rw [hg.2.2.2.2.2.1 hk, show mn (tE C n p - tS C n p) 3 = tE C n p - tS C n p from by unfold mn; split <;> omega]; rfl
theorem q_number {gtx gtt : TA} {C : Nat → Nat} {n p : Nat} (h : TX gtx gtt C n) (hp : p ≤ n) {lo hi : Nat} (hlo : lo < 1000) (hh : hi < 1000) : (lo ≤ tV C n p ∧ tV C n p ≤ hi ∧ tS C n p < tE C n p ∧ (∀ r, p_X7_takeNumber (rdC C n p r) gtx (nI lo) (nI hi) = some (1, rdC C n (tE C n p) (r.1, r.2.1, nI (tV C n p), r.2.2.2))) ∧ ∀ g fp, RRd g C n p → ∃ g', p_X13_number gtt (0, fp) g (nI lo) (nI hi) = some (nI (tV C n p), (0, fp), g') ∧ RRd g' C n (tE C n p)) ∨ (∃ w : Int32, w ≠ 0 ∧ (∀ r, ∃ gr', p_X7_takeNumber (rdC C n p r) gtx (nI lo) (nI hi) = some (0, gr') ∧ Rfs gr' w (tS C n p)) ∧ ∀ g fp, RRd g C n p → ∃ v, p_X13_number gtt (0, fp) g (nI lo) (nI hi) = some (v, (w, nI (tS C n p)), g)) := by
  have hb := tk_b C hp
  rcases q_short h hp with ⟨hk, hl, hc⟩ | ⟨w, hw, hc⟩
  · have hv := tV_b hp hk hl
    by_cases h1 : lo ≤ tV C n p
    · by_cases h2 : tV C n p ≤ hi
      · left
        refine ⟨h1, h2, hb.2.2.2.1 (by omega), fun r => ?_, fun g fp hg => ?_⟩
        · unfold p_X7_takeNumber
          rw [hc r, some_bind', if_neg n10]
          rw [show (rdC C n p (r.1, r.2.1, nI (tV C n p), r.2.2.2)).2.2.2.2.2.2.1 = nI (tV C n p) from rfl, if_neg (nI_nlt h1 (by omega)), if_pos (nI_le h2 (by omega)), show p_X7_step (rdC C n p (r.1, r.2.1, nI (tV C n p), r.2.2.2)) gtx = _ from c_next h hp r _]
          rfl
        · obtain ⟨g', s1, s2⟩ := m_next h hp hg
          refine ⟨g', ?_, s2⟩
          unfold p_X13_number p_X13_number_54 p_X13_isGood
          rw [if_pos rfl, some_bind', if_neg n10, hg.2.2.1, if_pos (eq_t (c := 2) hk), hg.2.2.2.2.1, if_neg (lt_f (c := 3) hl (by decide)), m_value hg hk hl, if_neg (nI_nlt h1 (by omega)), if_pos (nI_le h2 (by omega)), some_bind', if_neg n10, s1, some_bind']
      · right
        refine ⟨2, by decide, fun r => ?_, fun g fp hg => ?_⟩
        · unfold p_X7_takeNumber p_X7_takeNumber_25
          rw [hc r, some_bind', if_neg n10]
          rw [show (rdC C n p (r.1, r.2.1, nI (tV C n p), r.2.2.2)).2.2.2.2.2.2.1 = nI (tV C n p) from rfl, if_neg (nI_nlt h1 (by omega)), if_neg (nI_ge (by omega) (by omega))]
          exact c_rfz C n p _ 2
        · refine ⟨g.2.2.2.2.2.1, ?_⟩
          unfold p_X13_number p_X13_number_49 p_X13_number_54 p_X13_isGood p_X13_wrong
          rw [if_pos rfl, some_bind', if_neg n10, hg.2.2.1, if_pos (eq_t (c := 2) hk), hg.2.2.2.2.1, if_neg (lt_f (c := 3) hl (by decide)), m_value hg hk hl, if_neg (nI_nlt h1 (by omega)), if_neg (nI_ge (by omega) (by omega)), if_pos rfl, some_bind', hg.2.2.2.1]
          rfl
    · right
      refine ⟨2, by decide, fun r => ?_, fun g fp hg => ?_⟩
      · unfold p_X7_takeNumber p_X7_takeNumber_25
        rw [hc r, some_bind', if_neg n10]
        rw [show (rdC C n p (r.1, r.2.1, nI (tV C n p), r.2.2.2)).2.2.2.2.2.2.1 = nI (tV C n p) from rfl]
        rw [if_pos (nI_lt (by omega) (by omega))]
        exact c_rfz C n p _ 2
      · refine ⟨g.2.2.2.2.2.1, ?_⟩
        unfold p_X13_number p_X13_number_49 p_X13_number_54 p_X13_isGood p_X13_wrong
        rw [if_pos rfl, some_bind', if_neg n10, hg.2.2.1, if_pos (eq_t (c := 2) hk), hg.2.2.2.2.1, if_neg (lt_f (c := 3) hl (by decide)), m_value hg hk hl, if_pos (nI_lt (by omega) (by omega)), if_pos rfl, some_bind', hg.2.2.2.1]
        rfl
  · right
    refine ⟨w, by rcases hw with hw | hw <;> rw [hw.1] <;> decide, fun r => ?_, fun g fp hg => ?_⟩
    · obtain ⟨gr', a1, a2⟩ := hc r
      refine ⟨gr', ?_, a2⟩
      unfold p_X7_takeNumber
      rw [a1, some_bind', if_pos rfl]
    · refine ⟨g.2.2.2.2.2.1, ?_⟩
      unfold p_X13_number p_X13_number_49 p_X13_number_54 p_X13_isGood p_X13_wrong
      rw [if_pos rfl, some_bind', if_neg n10, hg.2.2.1, hg.2.2.2.1]
      rcases hw with ⟨rfl, hk⟩ | ⟨rfl, hk, hl⟩
      · rw [if_neg (eq_f (c := 2) hk (by omega) (by decide)), if_pos rfl, some_bind']
        rfl
      · have h6 := h.1
        rw [if_pos (eq_t (c := 2) hk), hg.2.2.2.2.1, if_pos (lt_t (c := 3) hl (by omega)), if_pos rfl, some_bind']
        rfl
theorem q_among {gtx gtt : TA} {C : Nat → Nat} {n p : Nat} (h : TX gtx gtt C n) (hp : p ≤ n) {many : Nat} (x2 : Int32) (hh : many < 1000) : (tV C n p < many ∧ nI (tV C n p) ≠ x2 ∧ tS C n p < tE C n p ∧ (∀ r, p_X7_takeOneOf (rdC C n p r) gtx (nI many) x2 = some (1, rdC C n (tE C n p) (r.1, r.2.1, nI (tV C n p), r.2.2.2))) ∧ ∀ g fp, RRd g C n p → ∃ g', p_X13_among gtt (0, fp) g (nI many) x2 = some (nI (tV C n p), (0, fp), g') ∧ RRd g' C n (tE C n p)) ∨ (∃ w : Int32, w ≠ 0 ∧ (∀ r, ∃ gr', p_X7_takeOneOf (rdC C n p r) gtx (nI many) x2 = some (0, gr') ∧ Rfs gr' w (tS C n p)) ∧ ∀ g fp, RRd g C n p → ∃ v, p_X13_among gtt (0, fp) g (nI many) x2 = some (v, (w, nI (tS C n p)), g)) := by
  have hb := tk_b C hp
  rcases q_short h hp with ⟨hk, hl, hc⟩ | ⟨w, hw, hc⟩
  · have hv := tV_b hp hk hl
    by_cases h1 : tV C n p < many
    · by_cases h2 : nI (tV C n p) = x2
      · right
        refine ⟨4, by decide, fun r => ?_, fun g fp hg => ?_⟩
        · unfold p_X7_takeOneOf
          rw [hc r, some_bind', if_neg n10]
          rw [show (rdC C n p (r.1, r.2.1, nI (tV C n p), r.2.2.2)).2.2.2.2.2.2.1 = nI (tV C n p) from rfl, if_pos (nI_lt h1 (by omega)), if_pos h2]
          exact c_rfz C n p _ 4
        · refine ⟨g.2.2.2.2.2.1, ?_⟩
          unfold p_X13_among p_X13_among_70 p_X13_isGood p_X13_wrong
          rw [if_pos rfl, some_bind', if_neg n10, hg.2.2.1, if_pos (eq_t (c := 2) hk), hg.2.2.2.2.1, if_pos (ler_t (c := 3) hl (by decide)), m_value hg hk hl, if_pos (nI_lt h1 (by omega)), if_pos h2, if_pos rfl, some_bind', hg.2.2.2.1]
          rfl
      · left
        refine ⟨h1, h2, hb.2.2.2.1 (by omega), fun r => ?_, fun g fp hg => ?_⟩
        · unfold p_X7_takeOneOf
          rw [hc r, some_bind', if_neg n10]
          rw [show (rdC C n p (r.1, r.2.1, nI (tV C n p), r.2.2.2)).2.2.2.2.2.2.1 = nI (tV C n p) from rfl, if_pos (nI_lt h1 (by omega)), if_neg h2, show p_X7_step (rdC C n p (r.1, r.2.1, nI (tV C n p), r.2.2.2)) gtx = _ from c_next h hp r _]
          rfl
        · obtain ⟨g', s1, s2⟩ := m_next h hp hg
          refine ⟨g', ?_, s2⟩
          unfold p_X13_among p_X13_among_70 p_X13_isGood
          rw [if_pos rfl, some_bind', if_neg n10, hg.2.2.1, if_pos (eq_t (c := 2) hk), hg.2.2.2.2.1, if_pos (ler_t (c := 3) hl (by decide)), m_value hg hk hl, if_pos (nI_lt h1 (by omega)), if_neg h2, some_bind', if_neg n10, s1, some_bind']
    · right
      refine ⟨3, by decide, fun r => ?_, fun g fp hg => ?_⟩
      · unfold p_X7_takeOneOf
        rw [hc r, some_bind', if_neg n10]
        rw [show (rdC C n p (r.1, r.2.1, nI (tV C n p), r.2.2.2)).2.2.2.2.2.2.1 = nI (tV C n p) from rfl, if_neg (nI_nlt (by omega) (by omega))]
        exact c_rfz C n p _ 3
      · refine ⟨g.2.2.2.2.2.1, ?_⟩
        unfold p_X13_among p_X13_among_70 p_X13_isGood p_X13_wrong
        rw [if_pos rfl, some_bind', if_neg n10, hg.2.2.1, if_pos (eq_t (c := 2) hk), hg.2.2.2.2.1, if_pos (ler_t (c := 3) hl (by decide)), m_value hg hk hl, if_neg (nI_nlt (by omega) (by omega)), if_pos rfl, some_bind', hg.2.2.2.1]
        rfl
  · right
    refine ⟨w, by rcases hw with hw | hw <;> rw [hw.1] <;> decide, fun r => ?_, fun g fp hg => ?_⟩
    · obtain ⟨gr', a1, a2⟩ := hc r
      refine ⟨gr', ?_, a2⟩
      unfold p_X7_takeOneOf
      rw [a1, some_bind', if_pos rfl]
    · refine ⟨g.2.2.2.2.2.1, ?_⟩
      unfold p_X13_among p_X13_among_70 p_X13_isGood p_X13_wrong
      rw [if_pos rfl, some_bind', if_neg n10, hg.2.2.1, hg.2.2.2.1]
      rcases hw with ⟨rfl, hk⟩ | ⟨rfl, hk, hl⟩
      · rw [if_neg (eq_f (c := 2) hk (by omega) (by decide)), if_pos rfl, some_bind']
        rfl
      · have h6 := h.1
        rw [if_pos (eq_t (c := 2) hk), hg.2.2.2.2.1, if_neg (ler_f (c := 3) hl (by omega)), if_pos rfl, some_bind']
        rfl
theorem q_stop {gtx gtt : TA} {C : Nat → Nat} {n p : Nat} (h : TX gtx gtt C n) (hp : p ≤ n) : (tK C n p = 4 ∧ tS C n p < tE C n p ∧ (∀ r, p_X7_takeStop (rdC C n p r) gtx = some (1, rdC C n (tE C n p) r)) ∧ ∀ g fp, RRd g C n p → g.2.2.1 = 4 ∧ ∃ g', p_X13_need gtt (0, fp) g 1 = some ((0, fp), g') ∧ RRd g' C n (tE C n p)) ∨ ((∀ r, ∃ gr', p_X7_takeStop (rdC C n p r) gtx = some (0, gr') ∧ Rfs gr' 1 (tS C n p)) ∧ ∀ g fp, RRd g C n p → ¬ g.2.2.1 = 4 ∧ p_X13_need gtt (0, fp) g 0 = some ((1, nI (tS C n p)), g)) := by
  have hb := tk_b C hp
  have hki := kap_i (tK C n p) (by omega)
  by_cases hk : tK C n p = 4
  · left
    refine ⟨hk, hb.2.2.2.1 (by omega), fun r => ?_, fun g fp hg => ⟨by rw [hg.2.2.1]; exact eq_t (c := 4) hk, ?_⟩⟩
    · unfold p_X7_takeStop
      rw [show (rdC C n p r).2.1 = kap (tK C n p) from rfl, if_pos (hki.2.2.2.2.2 hk), show p_X7_step (rdC C n p r) gtx = _ from c_next h hp r _]
      rfl
    · obtain ⟨g', s1, s2⟩ := m_next h hp hg
      refine ⟨g', ?_, s2⟩
      unfold p_X13_need p_X13_isGood
      rw [if_pos rfl, some_bind', if_neg n10, if_neg n10, s1]
      rfl
  · right
    refine ⟨fun r => ?_, fun g fp hg => ⟨by rw [hg.2.2.1]; exact eq_f (c := 4) hk (by omega) (by decide), ?_⟩⟩
    · unfold p_X7_takeStop
      rw [show (rdC C n p r).2.1 = kap (tK C n p) from rfl, if_neg (fun e => hk (hki.2.2.2.2.1 e))]
      exact c_rfz C n p r 1
    · unfold p_X13_need p_X13_isGood p_X13_wrong
      rw [if_pos rfl, some_bind', if_neg n10, if_pos rfl, if_pos rfl, hg.2.2.2.1]
      rfl
theorem m_fig_loop {N : Nat} {gtt : TA} {fp : Int32} {g : RDm} {m a : Nat} {f : Nat → Nat} (hN : N ≤ 600) (ha : a + m ≤ N) (hm : m ≤ 5) (hf : ∀ i, i < m → g.2.2.2.2.2.2.2 i = nI (f i)) : ∀ (k j q : Nat) (t : TA), j + k = m → k < q → (∀ i, i < j → t (a + i) = nI (f i)) → ∃ t', p_X13_figures_49 N gtt q (0, fp) g t (nI a) (nI m) (nI j) = p_X13_figures_81 N gtt (0, fp) g t' (nI m) ∧ (∀ i, i < m → t' (a + i) = nI (f i)) ∧ ∀ i, (i < a ∨ a + m ≤ i) → t' i = t i := by
  intro k
  induction k with
  | zero =>
    intro j q t hj hq ht
    obtain ⟨q, rfl⟩ : ∃ b, q = b + 1 := ⟨q - 1, by omega⟩
    refine ⟨t, ?_, fun i hi => ht i (by omega), fun _ _ => rfl⟩
    unfold p_X13_figures_49
    rw [if_pos (nI_le (by omega) (by omega))]
  | succ k ih =>
    intro j q t hj hq ht
    obtain ⟨q, rfl⟩ : ∃ b, q = b + 1 := ⟨q - 1, by omega⟩
    obtain ⟨t', a1, a2, a3⟩ := ih (j + 1) q (upd t (a + j) (nI (f j))) (by omega) (by omega) (fun i hi => by
      by_cases e : i = j
      · subst e; exact pk_us
      · rw [pk_un (by omega)]; exact ht i (by omega))
    refine ⟨t', ?_, a2, fun i hi => by rw [a3 i hi, pk_un (by omega)]⟩
    unfold p_X13_figures_49 p_X13_isGood
    rw [if_neg (nI_ge (by omega) (by omega)), if_pos rfl, some_bind', if_neg n10, if_pos (ix_nI (by omega) (by decide)), nI_add, if_pos (ix_nI (by omega) (by omega)), cl_nI (by omega), cl_nI (by omega), hf j (by omega), nI_1]
    exact a1
theorem q_row {gtx gtt : TA} {C : Nat → Nat} {n p : Nat} (h : TX gtx gtt C n) (hp : p ≤ n) {N a : Nat} (hN : N ≤ 600) (ha : a + 5 ≤ N) : (∃ m, 1 ≤ m ∧ m ≤ 5 ∧ tS C n p < tE C n p ∧ tS C n p + 1 + m ≤ n ∧ (∀ i, i < m → isL (C (tS C n p + 1 + i)) = true ∨ isD (C (tS C n p + 1 + i)) = true) ∧ (∀ r, p_X7_takeRow (rdC C n p r) gtx = some (1, rdC C n (tE C n p) (r.1, r.2.1, r.2.2.1, nI m, nI (tS C n p + 1)))) ∧ ∀ g fp t, RRd g C n p → ∃ g' t', p_X13_figures N gtt (0, fp) g t (nI a) = some (nI m, (0, fp), g', t') ∧ RRd g' C n (tE C n p) ∧ (∀ i, i < m → t' (a + i) = nI (fg (C (tS C n p + 1 + i)))) ∧ ∀ i, (i < a ∨ a + m ≤ i) → t' i = t i) ∨ (∃ w : Int32, w ≠ 0 ∧ (∀ r, ∃ gr', p_X7_takeRow (rdC C n p r) gtx = some (0, gr') ∧ Rfs gr' w (tS C n p)) ∧ ∀ g fp t, RRd g C n p → ∃ v, p_X13_figures N gtt (0, fp) g t (nI a) = some (v, (w, nI (tS C n p)), g, t)) := by
  have h6 := h.1
  have hb := tk_b C hp
  have hki := kap_i (tK C n p) (by omega)
  have hbad : ∀ (w : Int32) (g : RDm) (t : TA), w ≠ 0 → RRd g C n p → ∃ v, p_X13_figures_39 N gtt (w, nI (tS C n p)) g t (nI a) = some (v, (w, nI (tS C n p)), g, t) := by
    intro w g t hw hg
    refine ⟨g.2.2.2.2.1 - 1, ?_⟩
    unfold p_X13_figures_39
    rw [show fu = 999999 + 1 from rfl]
    unfold p_X13_figures_49 p_X13_figures_81 p_X13_isGood
    simp only [if_neg hw, some_bind', if_pos]
    split <;> rfl
  by_cases hk : tK C n p = 3
  · have hR := tk_R hp hk
    by_cases hl : tE C n p - tS C n p ≤ 6
    · left
      refine ⟨tE C n p - tS C n p - 1, by omega, by omega, hb.2.2.2.1 (by omega), by omega, fun i hi => hR.2 _ (by omega) (by omega), fun r => ?_, fun g fp t hg => ?_⟩
      · unfold p_X7_takeRow
        rw [show (rdC C n p r).2.1 = kap (tK C n p) from rfl, if_pos (hki.2.2.2.1.2 hk), show (rdC C n p r).2.2.2.1 - (rdC C n p r).2.2.1 = nI (tE C n p) - nI (tS C n p) from rfl, pk_sub (by omega), pred_nI (by omega), if_pos (ler_t (c := 5) (by omega) (by decide)), show (rdC C n p r).2.2.2.1 - ((rdC C n p r).2.2.1 + 1) = nI (tE C n p) - (nI (tS C n p) + 1) from rfl, show (rdC C n p r).2.2.1 + 1 = nI (tS C n p) + 1 from rfl, nI_1, pk_sub (by omega), show tE C n p - (tS C n p + 1) = tE C n p - tS C n p - 1 by omega]
        have hst := c_next h hp r (r.1, r.2.1, r.2.2.1, nI (tE C n p - tS C n p - 1), nI (tS C n p + 1))
        show ((p_X7_step (nI n, kap (tK C n p), nI (tS C n p), nI (tE C n p), r.1, r.2.1, r.2.2.1, nI (tE C n p - tS C n p - 1), nI (tS C n p + 1)) gtx).bind fun v3 => some ((1 : Int32), v3)) = _
        rw [hst]
        rfl
      · obtain ⟨g', s1, s2⟩ := m_next h hp hg
        obtain ⟨t', a1, a2, a3⟩ := m_fig_loop (N := N) (gtt := gtt) (fp := fp) (g := g) (m := tE C n p - tS C n p - 1) (a := a) (f := fun i => fg (C (tS C n p + 1 + i))) hN (by omega) (by omega) (fun i hi => hg.2.2.2.2.2.2.2 hk i (by omega) hi) (tE C n p - tS C n p - 1) 0 fu t (by omega) (fu_lt (by omega)) (fun i hi => by omega)
        refine ⟨g', t', ?_, s2, a2, a3⟩
        have a1 : p_X13_figures_49 N gtt fu (0, fp) g t (nI a) (nI (tE C n p - tS C n p - 1)) 0 = _ := a1
        unfold p_X13_figures p_X13_figures_39 p_X13_isGood
        rw [if_pos rfl, some_bind', if_neg n10, hg.2.2.1, if_pos (eq_t (c := 3) hk), hg.2.2.2.2.1, if_pos (ler_t (c := 6) hl (by decide)), pred_nI (by omega), a1]
        unfold p_X13_figures_81 p_X13_isGood
        rw [if_pos rfl, some_bind', if_neg n10, s1]
        rfl
    · right
      refine ⟨2, by decide, fun r => ?_, fun g fp t hg => ?_⟩
      · unfold p_X7_takeRow
        rw [show (rdC C n p r).2.1 = kap (tK C n p) from rfl, if_pos (hki.2.2.2.1.2 hk), show (rdC C n p r).2.2.2.1 - (rdC C n p r).2.2.1 = nI (tE C n p) - nI (tS C n p) from rfl, pk_sub (by omega), pred_nI (by omega), if_neg (ler_f (c := 5) (by omega) (by omega))]
        exact c_rfz C n p r 2
      · obtain ⟨v, q⟩ := hbad 2 g t (by decide) hg
        refine ⟨v, ?_⟩
        unfold p_X13_figures p_X13_isGood p_X13_wrong
        rw [if_pos rfl, some_bind', if_neg n10, hg.2.2.1, if_pos (eq_t (c := 3) hk), hg.2.2.2.2.1, if_neg (ler_f (c := 6) (by omega) (by omega)), if_pos rfl, some_bind', hg.2.2.2.1]
        exact q
  · right
    refine ⟨1, by decide, fun r => ?_, fun g fp t hg => ?_⟩
    · unfold p_X7_takeRow
      rw [show (rdC C n p r).2.1 = kap (tK C n p) from rfl, if_neg (fun e => hk (hki.2.2.2.1.1 e))]
      exact c_rfz C n p r 1
    · obtain ⟨v, q⟩ := hbad 1 g t (by decide) hg
      refine ⟨v, ?_⟩
      unfold p_X13_figures p_X13_isGood p_X13_wrong
      rw [if_pos rfl, some_bind', if_neg n10, hg.2.2.1, if_neg (eq_f (c := 3) hk (by omega) (by decide)), if_pos rfl, some_bind', hg.2.2.2.1]
      exact q
-- a fault once found stays
theorem bad_good {w fp : Int32} (hw : w ≠ 0) : p_X13_isGood (w, fp) = some 0 := if_neg hw
theorem bad_need {gtt : TA} {w fp : Int32} (hw : w ≠ 0) (g : RDm) (x : Int32) : p_X13_need gtt (w, fp) g x = some ((w, fp), g) := by unfold p_X13_need; rw [bad_good hw]; rfl
theorem bad_number {gtt : TA} {w fp : Int32} (hw : w ≠ 0) (g : RDm) (x y : Int32) : p_X13_number gtt (w, fp) g x y = some (0, (w, fp), g) := by unfold p_X13_number; rw [bad_good hw]; rfl
theorem bad_among {gtt : TA} {w fp : Int32} (hw : w ≠ 0) (g : RDm) (x y : Int32) : p_X13_among gtt (w, fp) g x y = some (0, (w, fp), g) := by unfold p_X13_among; rw [bad_good hw]; rfl
theorem bad_figures {N : Nat} {gtt : TA} {w fp : Int32} (hw : w ≠ 0) (g : RDm) (t : TA) (x : Int32) : p_X13_figures N gtt (w, fp) g t x = some (0, (w, fp), g, t) := by unfold p_X13_figures; rw [bad_good hw]; rfl
theorem good0 (fp : Int32) : p_X13_isGood (0, fp) = some 1 := rfl
