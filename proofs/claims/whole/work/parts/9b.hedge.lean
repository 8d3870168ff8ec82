-- hedge
def pc10 (s : Nat) : Nat := sN (fun j => (s.testBit j).toNat) 10
theorem bc10 : ∀ s, s < 1024 → p_J6_bitCount_0f7a4 (nI s) = some (nI (pc10 s)) := by decide +kernel
theorem bt10 : ∀ s, s < 1024 → ∀ j, j < 10 → (nI s >>> (nI j &&& 31)) &&& 1 = nI ((s.testBit j).toNat) := by decide +kernel
theorem m_bits_loop {s : Nat} (hs : s < 1024) : ∀ k j n : Nat, j + k = 10 → k < n → p_X13_bits_4 n (nI s) (nI (sN (fun j => (s.testBit j).toNat) j)) (nI j) = some (nI (pc10 s)) := by
  intro k
  induction k with
  | zero =>
    intro j n hj hn
    obtain ⟨n, rfl⟩ : ∃ m, n = m + 1 := ⟨n - 1, by omega⟩
    have hj : j = 10 := by omega
    subst hj
    unfold p_X13_bits_4
    rw [if_pos (le_t (c := 10) (Nat.le_refl _) (by decide))]; rfl
  | succ k ih =>
    intro j n hj hn
    obtain ⟨n, rfl⟩ : ∃ m, n = m + 1 := ⟨n - 1, by omega⟩
    have hi := ih (j + 1) n (by omega) (by omega)
    unfold p_X13_bits_4
    rw [if_neg (le_f (c := 10) (by omega) (by decide)), bt10 s hs j (by omega), nI_add, nI_1]
    exact hi
theorem m_bits {s : Nat} (hs : s < 1024) : p_X13_bits (nI s) = some (nI (pc10 s)) := m_bits_loop hs 10 0 fu (by omega) (fu_lt (by decide))
theorem pc10_le (s : Nat) : pc10 s ≤ 10 := by
  have h : ∀ k, sN (fun j => (s.testBit j).toNat) k ≤ k := by
    intro k
    induction k with
    | zero => exact Nat.le_refl _
    | succ k ih =>
      simp only [sN]
      have : (s.testBit k).toNat ≤ 1 := by cases s.testBit k <;> decide
      omega
  exact h 10
-- alike over a .. a + j
def al (f : Nat → Int) (a : Nat) : Nat → Bool
  | 0 => true
  | j + 1 => al f a j && decide (f (a + (j + 1)) = f a)
theorem al_no {f : Nat → Int} {a j : Nat} (h : al f a j = false) : ∀ k, al f a (j + k) = false := by
  intro k
  induction k with
  | zero => exact h
  | succ k ih => show (al f a (j + k) && _) = false; rw [ih]; rfl
theorem al_mx {f : Nat → Int} {a : Nat} : ∀ j, al f a j = true → mxZ f a j = f a ∧ mnZ f a j = f a := by
  intro j
  induction j with
  | zero => intro _; exact ⟨rfl, rfl⟩
  | succ j ih =>
    intro h
    have h : (al f a j && decide (f (a + (j + 1)) = f a)) = true := h
    rw [Bool.and_eq_true, decide_eq_true_iff] at h
    have hi := ih h.1
    unfold mxZ mnZ
    rw [hi.1, hi.2, h.2]
    constructor <;> split <;> rfl
theorem mx_al {f : Nat → Int} {a : Nat} : ∀ j, mnZ f a j ≤ f a ∧ f a ≤ mxZ f a j ∧ (mxZ f a j = mnZ f a j → al f a j = true) := by
  intro j
  induction j with
  | zero => exact ⟨Int.le_refl _, Int.le_refl _, fun _ => rfl⟩
  | succ j ih =>
    have hm := mn_le_mx (f := f) (a := a) j
    refine ⟨?_, ?_, ?_⟩
    · unfold mnZ; split <;> omega
    · unfold mxZ; split <;> omega
    · intro h
      unfold mxZ mnZ at h
      show (al f a j && decide (f (a + (j + 1)) = f a)) = true
      have e : mxZ f a j = mnZ f a j ∧ f (a + (j + 1)) = mxZ f a j := by
        split at h <;> split at h <;> omega
      rw [ih.2.2 e.1, decide_eq_true (by omega)]; rfl
theorem al_sp {f : Nat → Int} {a b : Nat} : al f a (b - a) = true ↔ spZ f a b = 0 := by
  unfold spZ
  constructor
  · intro h; have := al_mx _ h; omega
  · intro h; exact (mx_al (b - a)).2.2 (by omega)
theorem iI_z0 {z : Int} (h : 0 ≤ z) (h2 : z < 4294967296) : iI z = 0 ↔ z = 0 := by
  constructor
  · intro e
    have e2 : (Int32.ofInt z).toInt = (0 : Int32).toInt := congrArg Int32.toInt e
    rw [Int32.toInt_ofInt, show (0 : Int32).toInt = 0 from by decide] at e2
    have hsz : Int32.size = 4294967296 := rfl
    rw [hsz, Int.bmod_def] at e2
    split at e2 <;> omega
  · intro e; rw [e]; rfl
def hF (D : MD) (o s : Nat) (x4 : Int32) (j k : Nat) : Int := nO D o k + (if x4 = 0 then sZ (wT D s k) j else -(sZ (wT D s k) j))
theorem wT_b {O : Nat} {D : MD} (ho : OD O D) {s k d : Nat} (hd : d < 10) (hk : k ≤ 40) : 0 ≤ wT D s (k : Int) d ∧ wT D s (k : Int) d ≤ 102400000 := by
  have h := dW_le ho hd hk (by decide)
  rw [show 40 ^ 5 = 102400000 from by decide] at h
  unfold wT
  rw [Int.toNat_natCast]
  split <;> omega
theorem hF_b {O : Nat} {D : MD} (ho : OD O D) (o s : Nat) (x4 : Int32) {k : Nat} (hk : k ≤ 40) : -2048000000 ≤ hF D o s x4 10 k ∧ hF D o s x4 10 k ≤ 2048000000 := by
  have h1 := nO_b ho o hk
  have h2 := sZ_b10 (f := wT D s (k : Int)) (fun d hd => wT_b ho hd hk)
  unfold hF
  split <;> omega
theorem c_nws_loop {O : Nat} {gne : TN} {D : MD} {x4 : Int32} (h : NE gne D) (ho : OD O D) {o s k : Nat} (hq : o < 5) (hs : s < 1024) (hk : k ≤ 40) : ∀ i j n : Nat, j + i = 10 → i < n → p_X6_netWithSet_6 gne n (nI o) (nI s) x4 (nI k) (iL (sZ (wT D s k) j)) (nI j) = some (iL (hF D o s x4 10 k)) := by
  intro i
  induction i with
  | zero =>
    intro j n hj hn
    obtain ⟨n, rfl⟩ : ∃ m, n = m + 1 := ⟨n - 1, by omega⟩
    have hj : j = 10 := by omega
    subst hj
    unfold p_X6_netWithSet_6 hF
    rw [if_pos (le_t (c := 10) (Nat.le_refl _) (by decide)), c_netIn h hq hk, some_bind']
    by_cases hx : x4 = 0
    · rw [if_pos hx, if_pos hx, iL_add]
    · rw [if_neg hx, if_neg hx, show -(iL (sZ (wT D s k) 10)) = iL (-(sZ (wT D s k) 10)) from (Int64.ofInt_neg _).symm, iL_add]
  | succ i ih =>
    intro j n hj hn
    obtain ⟨n, rfl⟩ : ∃ m, n = m + 1 := ⟨n - 1, by omega⟩
    have hj10 : j < 10 := by omega
    have hi := ih (j + 1) n (by omega) (by omega)
    rw [show sZ (wT D s k) (j + 1) = sZ (wT D s k) j + wT D s k j from rfl] at hi
    unfold p_X6_netWithSet_6 p_X6_netWithSet_36
    rw [if_neg (le_f (c := 10) hj10 (by decide)), nI_1]
    have hb := bit10 s hs j hj10
    by_cases hh : s.testBit j = true
    · rw [if_neg (fun e => by rw [hb.1 e] at hh; exact absurd hh (by decide)), c_worthOf h hj10 hk, some_bind', nI_lz (dW_i ho hj10 (by omega)), iL_add]
      rw [show wT D s k j = (dW D j k : Int) from if_pos hh] at hi
      exact hi
    · rw [if_pos (hb.2 (by simpa using hh))]
      rw [show wT D s k j = 0 from if_neg hh, Int.add_zero] at hi
      exact hi
theorem c_nws {O : Nat} {gne : TN} {D : MD} {x4 : Int32} (h : NE gne D) (ho : OD O D) {o s k : Nat} (hq : o < 5) (hs : s < 1024) (hk : k ≤ 40) : p_X6_netWithSet gne (nI o) (nI s) x4 (nI k) = some (iL (hF D o s x4 10 k)) := c_nws_loop h ho hq hs hk 10 0 fu (by omega) (fu_lt (by decide))
theorem c_alike_loop {O : Nat} {gne : TN} {D : MD} {x4 : Int32} (h : NE gne D) (ho : OD O D) {o s a b : Nat} (hq : o < 5) (hs : s < 1024) (hab : a ≤ b) (hb : b ≤ 40) : ∀ i j n : Nat, a + j + i = b → i < n → al (hF D o s x4 10) a j = true → p_X6_standsAlike_17 gne n (nI o) (nI s) x4 (nI b) (iL (hF D o s x4 10 a)) (nI (a + j + 1)) = some (if al (hF D o s x4 10) a (b - a) = true then 1 else 0) := by
  intro i
  induction i with
  | zero =>
    intro j n hj hn hal
    obtain ⟨n, rfl⟩ : ∃ m, n = m + 1 := ⟨n - 1, by omega⟩
    have hj : j = b - a := by omega
    subst hj
    unfold p_X6_standsAlike_17
    rw [if_pos (nI_lt (by omega) (by omega)), if_pos hal]
  | succ i ih =>
    intro j n hj hn hal
    obtain ⟨n, rfl⟩ : ∃ m, n = m + 1 := ⟨n - 1, by omega⟩
    have b1 := hF_b ho o s x4 (k := a + j + 1) (by omega)
    have b2 := hF_b ho o s x4 (k := a) (by omega)
    unfold p_X6_standsAlike_17
    rw [if_neg (nI_nlt (by omega) (by omega)), c_nws h ho hq hs (by omega), some_bind', nI_1]
    by_cases he : hF D o s x4 10 (a + j + 1) = hF D o s x4 10 a
    · rw [if_pos ((lg_cmp_eq _ _).2 (by rw [he]))]
      exact ih (j + 1) n (by omega) (by omega) (by
        show (al _ a j && decide _) = true
        rw [hal, decide_eq_true (show hF D o s x4 10 (a + (j + 1)) = _ from he)]; rfl)
    · rw [if_neg (fun e => he ((iL_eq (by omega) (by omega) (by omega) (by omega)).1 ((lg_cmp_eq _ _).1 e)))]
      have hno : al (hF D o s x4 10) a (j + 1) = false := by
        show (al _ a j && decide _) = false
        rw [decide_eq_false (show ¬ hF D o s x4 10 (a + (j + 1)) = _ from he), Bool.and_false]
      have := al_no hno i
      rw [show j + 1 + i = b - a by omega] at this
      rw [this, if_neg (by decide)]
theorem c_alike {O : Nat} {gne : TN} {D : MD} {x4 : Int32} (h : NE gne D) (ho : OD O D) {o s a b : Nat} (hq : o < 5) (hs : s < 1024) (hab : a ≤ b) (hb : b ≤ 40) : p_X6_standsAlike gne (nI o) (nI s) x4 (nI a) (nI b) = some (if al (hF D o s x4 10) a (b - a) = true then 1 else 0) := by
  unfold p_X6_standsAlike
  rw [c_nws h ho hq hs (by omega), some_bind', nI_1]
  exact c_alike_loop h ho hq hs hab hb (b - a) 0 fu (by omega) (fu_lt (by omega)) rfl
-- the reference's nets with a set
abbrev THk := Int32 → TA → TA → Int32 → Int32 → Int32 → Int32 → Int32 → Int32 → Int32 → Option (Int32 × Int32 × TA × TA)
abbrev THk2 := Int32 → TA → TA → Int32 → Int32 → Int32 → Int32 → Int32 → Int32 → Int32 → Int32 → Option (Int32 × Int32 × TA × TA)
theorem m_hedge_158 {O : Nat} {gvm : TM} {gla : TA} {D : MD} {gth x4 x5 x6 : Int32} {k100 : THk} {k148 : THk2} (hl : LA gla D) (ho : OD O D) {o s a b d : Nat} (hs : s < 1024) (hb : b ≤ 40) (hd : d < 10) : ∀ (i q n : Nat) (gne : TA), q + i = b + 1 → i < n → a ≤ q → (∀ k, a ≤ k → k < q → gne k = iI (hF D o s x4 (d + 1) k)) → (∀ k, q ≤ k → k ≤ b → gne k = iI (hF D o s x4 d k)) → ∃ g', p_X13_hedge_158 k100 k148 gvm n gth gla gne (nI o) (nI a) (nI b) x4 x5 x6 (nI s) (nI d) (nI q) = k148 gth gla g' (nI o) (nI a) (nI b) x4 x5 x6 (nI s) (nI (d + 1)) ∧ ∀ k, a ≤ k → k ≤ b → g' k = iI (hF D o s x4 (d + 1) k) := by
  intro i
  induction i with
  | zero =>
    intro q n gne hq hn haq h1 h2
    obtain ⟨n, rfl⟩ : ∃ m, n = m + 1 := ⟨n - 1, by omega⟩
    refine ⟨gne, ?_, fun k ha hk => h1 k ha (by omega)⟩
    unfold p_X13_hedge_158 p_X13_hedge_226
    rw [if_pos (nI_lt (by omega) (by omega)), nI_1]
  | succ i ih =>
    intro q n gne hq hn haq h1 h2
    obtain ⟨n, rfl⟩ : ∃ m, n = m + 1 := ⟨n - 1, by omega⟩
    have hbt := bit10' s hs d hd
    by_cases hh : s.testBit d = true
    · obtain ⟨g', a1, a2⟩ := ih (q + 1) n (upd gne q (iI (hF D o s x4 (d + 1) q))) (by omega) (by omega) (by omega) (fun k ha hk => by
        by_cases e : k = q
        · subst e; exact pk_us
        · rw [pk_un e]; exact h1 k ha (by omega)) (fun k ha hk => by rw [pk_un (by omega)]; exact h2 k (by omega) hk)
      refine ⟨g', ?_, a2⟩
      unfold p_X13_hedge_158 p_X13_hedge_218
      rw [if_neg (nI_nlt (by omega) (by omega)), if_pos (hbt.2 hh), if_pos (ix_nI (by omega) (by decide)), lay_at, cl_nI (by omega), cl_nI (by omega), h2 q (by omega) (by omega), hl d hd q (by omega), nI_1]
      have hw : wT D s (q : Int) d = (dW D d q : Int) := if_pos hh
      have hsz : sZ (wT D s (q : Int)) (d + 1) = sZ (wT D s (q : Int)) d + (dW D d q : Int) := by rw [← hw]; rfl
      by_cases hx : x4 = 0
      · rw [if_pos hx, if_pos (ix_nI (by omega) (by decide)), if_pos (ix_nI (by omega) (by decide)), nI_iI (dW D d q), iI_add]
        rw [show hF D o s x4 (d + 1) q = hF D o s x4 d q + (dW D d q : Int) from by unfold hF; rw [if_pos hx, if_pos hx, hsz]; omega] at a1
        exact a1
      · rw [if_neg hx, if_pos (ix_nI (by omega) (by decide)), if_pos (ix_nI (by omega) (by decide)), show -(nI (dW D d q)) = iI (-(dW D d q : Int)) from by rw [nI_iI]; exact (Int32.ofInt_neg _).symm, iI_add]
        rw [show hF D o s x4 (d + 1) q = hF D o s x4 d q + -(dW D d q : Int) from by unfold hF; rw [if_neg hx, if_neg hx, hsz]; omega] at a1
        exact a1
    · have hsz : ∀ k : Nat, hF D o s x4 (d + 1) k = hF D o s x4 d k := by
        intro k
        unfold hF
        rw [show sZ (wT D s (k : Int)) (d + 1) = sZ (wT D s (k : Int)) d + wT D s (k : Int) d from rfl, show wT D s (k : Int) d = 0 from if_neg hh, Int.add_zero]
      refine ⟨gne, ?_, fun k ha hk => ?_⟩
      · unfold p_X13_hedge_158 p_X13_hedge_226
        rw [if_neg (nI_nlt (by omega) (by omega)), if_neg (fun e => hh (hbt.1 e)), nI_1]
      · by_cases hkq : k < q
        · exact h1 k ha hkq
        · rw [hsz]; exact h2 k (by omega) hk
theorem m_hedge_148 {O : Nat} {gvm : TM} {gla : TA} {D : MD} {gth x4 x5 x6 : Int32} {k100 : THk} (hl : LA gla D) (ho : OD O D) {o s a b : Nat} (hs : s < 1024) (hab : a ≤ b) (hb : b ≤ 40) : ∀ (i d n : Nat) (gne : TA), d + i = 10 → i < n → (∀ k, a ≤ k → k ≤ b → gne k = iI (hF D o s x4 d k)) → ∃ g', p_X13_hedge_148 k100 gvm n gth gla gne (nI o) (nI a) (nI b) x4 x5 x6 (nI s) (nI d) = k100 gth gla g' (nI o) (nI a) (nI b) x4 x5 (if al (hF D o s x4 10) a (b - a) = true then nI s else x6) (nI (s + 1)) := by
  intro i
  induction i with
  | zero =>
    intro d n gne hd hn h1
    obtain ⟨n, rfl⟩ : ∃ m, n = m + 1 := ⟨n - 1, by omega⟩
    have hd : d = 10 := by omega
    subst hd
    refine ⟨gne, ?_⟩
    have hm := mn_le_mx (f := hF D o s x4 10) (a := a) (b - a)
    have hbd := mxZ_b (f := hF D o s x4 10) (a := a) (c := b) (fun k hk => hF_b ho o s x4 (by omega)) (b - a) (by omega)
    have hz : iI (spZ (hF D o s x4 10) a b) = 0 ↔ al (hF D o s x4 10) a (b - a) = true := by
      rw [iI_z0 (by unfold spZ; omega) (by unfold spZ; omega), al_sp]
    unfold p_X13_hedge_148 p_X13_hedge_245
    rw [if_pos (le_t (c := 10) (Nat.le_refl _) (by decide)), m_spread hab hb h1 (fun k hk => by have := hF_b ho o s x4 (k := k) (by omega); omega), some_bind', nI_1]
    by_cases ha : al (hF D o s x4 10) a (b - a) = true
    · rw [if_pos (hz.2 ha), if_pos ha]
    · rw [if_neg (fun e => ha (hz.1 e)), if_neg ha]
  | succ i ih =>
    intro d n gne hd hn h1
    obtain ⟨n, rfl⟩ : ∃ m, n = m + 1 := ⟨n - 1, by omega⟩
    obtain ⟨g1, a1, a2⟩ := m_hedge_158 (gvm := gvm) (gth := gth) (x4 := x4) (x5 := x5) (x6 := x6) (k100 := k100) (k148 := p_X13_hedge_148 k100 gvm n) (o := o) (a := a) hl ho hs hb (show d < 10 by omega) (b + 1 - a) a fu gne (by omega) (fu_lt (by omega)) (Nat.le_refl _) (fun k ha hk => absurd hk (by omega)) (fun k ha hk => h1 k ha hk)
    obtain ⟨g', b1⟩ := ih (d + 1) n g1 (by omega) (by omega) a2
    refine ⟨g', ?_⟩
    unfold p_X13_hedge_148
    rw [if_neg (le_f (c := 10) (by omega) (by decide))]
    exact a1.trans b1
theorem q_hedge_loop {O : Nat} {gvn : TV} {gd : TD} {gvm : TM} {gne : TN} {gla : TA} {D : MD} {x4 F : Int32} (h : NE gne D) (hm : DM gvm D) (hl : LA gla D) (ho : OD O D) (hO : O ≤ 5) {o a b : Nat} (hq : o < 5) (hab : a ≤ b) (hb : b ≤ 40) : ∀ (i s n m : Nat) (x6 : Int32) (gnm : TA), s + i = 1024 → i < n → i < m → (x6 = -1 ∨ ∃ s', s' < 1024 ∧ x6 = nI s') → ∃ v nm, p_X12_hedge_40 gvn gd n gne (nI o) (nI a) (nI b) x4 F x6 (nI s) = some (Sum.inl v, gne) ∧ p_X13_hedge_100 gvm m 0 gla gnm (nI o) (nI a) (nI b) x4 F x6 (nI s) = some (v, 0, gla, nm) := by
  intro i
  induction i with
  | zero =>
    intro s n m x6 gnm hs hn hm2 hx
    obtain ⟨n, rfl⟩ : ∃ a, n = a + 1 := ⟨n - 1, by omega⟩
    obtain ⟨m, rfl⟩ : ∃ a, m = a + 1 := ⟨m - 1, by omega⟩
    unfold p_X12_hedge_40 p_X13_hedge_100
    rw [if_pos (le_t (c := 1024) (by omega) (by omega)), if_pos (le_t (c := 1024) (by omega) (by omega))]
    exact ⟨_, _, rfl, rfl⟩
  | succ i ih =>
    intro s n m x6 gnm hs hn hm2 hx
    obtain ⟨n, rfl⟩ : ∃ a, n = a + 1 := ⟨n - 1, by omega⟩
    obtain ⟨m, rfl⟩ : ∃ a, m = a + 1 := ⟨m - 1, by omega⟩
    have hs2 : s < 1024 := by omega
    have skip : ∃ v nm, p_X12_hedge_40 gvn gd n gne (nI o) (nI a) (nI b) x4 F x6 (nI (s + 1)) = some (Sum.inl v, gne) ∧ p_X13_hedge_100 gvm m 0 gla gnm (nI o) (nI a) (nI b) x4 F x6 (nI (s + 1)) = some (v, 0, gla, nm) := ih (s + 1) n m x6 gnm (by omega) (by omega) (by omega) hx
    obtain ⟨g1, a1, a2⟩ := m_netsOf hm hl ho hO hq gnm
    obtain ⟨g2, b1⟩ := m_hedge_148 (gvm := gvm) (gth := 0) (x4 := x4) (x5 := F) (x6 := x6) (k100 := p_X13_hedge_100 gvm m) (o := o) hl ho hs2 hab hb 10 0 fu g1 (by omega) (fu_lt (by decide)) (fun k ha hk => by
      rw [a2 k (by omega)]
      unfold hF
      rw [show sZ (wT D s (k : Int)) 0 = 0 from rfl, show (if x4 = 0 then (0 : Int) else -0) = 0 from by split <;> rfl, Int.add_zero])
    have b1 : p_X13_hedge_148 (p_X13_hedge_100 gvm m) gvm fu 0 gla g1 (nI o) (nI a) (nI b) x4 F x6 (nI s) 0 = _ := b1
    have test : ∃ v nm, ((p_X6_standsAlike gne (nI o) (nI s) x4 (nI a) (nI b)).bind fun v3 => (if v3 = 0 then p_X12_hedge_40 gvn gd n gne (nI o) (nI a) (nI b) x4 F x6 (nI (s + 1)) else p_X12_hedge_40 gvn gd n gne (nI o) (nI a) (nI b) x4 F (nI s) (nI (s + 1)))) = some (Sum.inl v, gne) ∧ ((p_X13_netsOf gvm gla gnm (nI o)).bind fun v1 => p_X13_hedge_148 (p_X13_hedge_100 gvm m) gvm fu 0 gla v1 (nI o) (nI a) (nI b) x4 F x6 (nI s) 0) = some (v, 0, gla, nm) := by
      rw [a1, some_bind', b1, c_alike h ho hq hs2 hab hb, some_bind']
      by_cases ha : al (hF D o s x4 10) a (b - a) = true
      · rw [if_pos ha, if_pos ha, if_neg n10]
        exact ih (s + 1) n m (nI s) g2 (by omega) (by omega) (by omega) (Or.inr ⟨s, hs2, rfl⟩)
      · rw [if_neg ha, if_neg ha, if_pos rfl]
        exact ih (s + 1) n m x6 g2 (by omega) (by omega) (by omega) hx
    unfold p_X12_hedge_40 p_X13_hedge_100 p_X12_hedge_67 p_X12_hedge_72 p_X12_hedge_110 p_X13_hedge_140 p_X13_hedge_245
    rw [if_neg (le_f (c := 1024) hs2 (by decide)), if_neg (le_f (c := 1024) hs2 (by decide)), nI_1]
    by_cases hf : (nI s &&& (F ^^^ -1)) = 0
    · simp only [if_pos hf]
      rcases hx with hx | ⟨s', hs', hx⟩
      · rw [if_pos hx, if_pos hx, if_neg n10]
        exact test
      · have hne : ¬ x6 = -1 := by
          rw [hx]; intro e
          have e2 := congrArg Int32.toInt e
          rw [nI_toInt (by omega)] at e2
          have h1 : (-1 : Int32).toInt = -1 := by decide
          omega
        have p1 := pc10_le s
        have p2 := pc10_le s'
        have c1 : p_J6_bitCount_0f7a4 x6 = some (nI (pc10 s')) := by rw [hx]; exact bc10 s' hs'
        have c2 : p_X13_bits x6 = some (nI (pc10 s')) := by rw [hx]; exact m_bits hs'
        rw [if_neg hne, if_neg hne, bc10 s hs2, some_bind', c1, some_bind', m_bits hs2, some_bind', c2, some_bind']
        by_cases hp : pc10 s < pc10 s'
        · rw [if_neg (nI_ge hp (by omega)), if_pos (nI_lt hp (by omega)), if_neg n10]
          exact test
        · rw [if_pos (nI_le (by omega) (by omega)), if_neg (nI_nlt (by omega) (by omega)), if_pos trivial]
          exact skip
    · simp only [if_neg hf]
      rcases hx with hx | ⟨s', hs', hx⟩
      · rw [if_pos hx]
        exact skip
      · have hne : ¬ x6 = -1 := by
          rw [hx]; intro e
          have e2 := congrArg Int32.toInt e
          rw [nI_toInt (by omega)] at e2
          have h1 : (-1 : Int32).toInt = -1 := by decide
          omega
        have c1 : p_J6_bitCount_0f7a4 x6 = some (nI (pc10 s')) := by rw [hx]; exact bc10 s' hs'
        rw [if_neg hne, bc10 s hs2, some_bind', c1, some_bind', ite_self]
        exact skip
theorem c_without_loop {O : Nat} {gd : TD} {D : MD} (h : DC gd D) (ho : OD O D) (hO : O ≤ 5) {o : Nat} (hq : o < 5) : ∀ k j n : Nat, j + k = 10 → k < n → p_X4_bitsWithout_4 gd n (nI o) (wb (fun d => decide (dH D d = true ∧ dP D d ≠ o ∧ dQ D d ≠ o)) j) (nI j) = some (wb (fun d => decide (dH D d = true ∧ dP D d ≠ o ∧ dQ D d ≠ o)) 10) := by
  intro k
  induction k with
  | zero =>
    intro j n hj hn
    obtain ⟨n, rfl⟩ : ∃ m, n = m + 1 := ⟨n - 1, by omega⟩
    have hj : j = 10 := by omega
    subst hj
    unfold p_X4_bitsWithout_4
    rw [if_pos (le_t (c := 10) (Nat.le_refl _) (by decide))]
  | succ k ih =>
    intro j n hj hn
    obtain ⟨n, rfl⟩ : ∃ m, n = m + 1 := ⟨n - 1, by omega⟩
    have hj10 : j < 10 := by omega
    have hi := ih (j + 1) n (by omega) (by omega)
    rw [wb_s] at hi
    have hc := own_cmp ho hO hj10 hq
    unfold p_X4_bitsWithout_4 p_X4_bitsWithout_42
    rw [if_neg (le_f (c := 10) hj10 (by decide)), c_has h ho.2.1 hj10, some_bind', nI_1]
    by_cases hh : dH D j = true
    · rw [if_pos hh, if_neg n10, c_deb h ho.2.1 hj10, some_bind', c_lend h ho.2.1 hj10, some_bind']
      by_cases h1 : dP D j = o
      · rw [if_pos (hc.2.2 ⟨hh, h1⟩)]
        rw [if_neg (by simp [h1])] at hi; exact hi
      · rw [if_neg (fun e => h1 (hc.2.1 e).2)]
        by_cases h2 : dQ D j = o
        · rw [if_pos (hc.1.2 ⟨hh, h2⟩)]
          rw [if_neg (by simp [h2])] at hi; exact hi
        · rw [if_neg (fun e => h2 (hc.1.1 e).2)]
          rw [if_pos (decide_eq_true ⟨hh, h1, h2⟩)] at hi; exact hi
    · rw [if_neg hh, if_pos rfl]
      rw [if_neg (by simp [hh])] at hi; exact hi
theorem m_without_loop {O : Nat} {gvm : TM} {gla gne : TA} {D : MD} {gth x2 x3 x4 : Int32} (h : DM gvm D) (ho : OD O D) (hO : O ≤ 5) {o : Nat} (hq : o < 5) : ∀ k j n : Nat, j + k = 10 → k < n → p_X13_hedge_35 gvm n gth gla gne (nI o) x2 x3 x4 (wb (fun d => decide (dH D d = true ∧ dP D d ≠ o ∧ dQ D d ≠ o)) j) (nI j) = p_X13_hedge_100 gvm fu gth gla gne (nI o) x2 x3 x4 (wb (fun d => decide (dH D d = true ∧ dP D d ≠ o ∧ dQ D d ≠ o)) 10) (-1) 0 := by
  intro k
  induction k with
  | zero =>
    intro j n hj hn
    obtain ⟨n, rfl⟩ : ∃ m, n = m + 1 := ⟨n - 1, by omega⟩
    have hj : j = 10 := by omega
    subst hj
    unfold p_X13_hedge_35
    rw [if_pos (le_t (c := 10) (Nat.le_refl _) (by decide))]
  | succ k ih =>
    intro j n hj hn
    obtain ⟨n, rfl⟩ : ∃ m, n = m + 1 := ⟨n - 1, by omega⟩
    have hj10 : j < 10 := by omega
    have hi := ih (j + 1) n (by omega) (by omega)
    rw [wb_s] at hi
    unfold p_X13_hedge_35 p_X13_hedge_84 p_X13_hedge_85
    rw [if_neg (le_f (c := 10) hj10 (by decide)), if_pos (ix_nI hj10 (by decide)), if_pos (ix_nI hj10 (by decide)), if_pos (ix_nI hj10 (by decide)), cl_nI (by omega), (h.2 j hj10).1, nI_1, Int32.or_zero]
    by_cases hh : dH D j = true
    · have ho5 := ho.2.2 j hj10 hh
      have hm := (h.2 j hj10).2 hh
      rw [if_pos ((has1 _).2 hh), hm.1, hm.2.1]
      by_cases h1 : dP D j = o
      · rw [if_pos (by rw [h1])]
        rw [if_neg (by simp [h1])] at hi; exact hi
      · rw [if_neg (ne_f h1 (by omega) (by omega))]
        by_cases h2 : dQ D j = o
        · rw [if_pos (by rw [h2])]
          rw [if_neg (by simp [h2])] at hi; exact hi
        · rw [if_neg (ne_f h2 (by omega) (by omega))]
          rw [if_pos (decide_eq_true ⟨hh, h1, h2⟩)] at hi; exact hi
    · rw [if_neg (fun e => hh ((has1 _).1 e))]
      rw [if_neg (by simp [hh])] at hi; exact hi
theorem q_hedge {gvn : TV} {gdn : TD} {gcn : TR} {gvm : TM} {grc : TRm} {S : MS} (hc : CS gvn gdn gcn S) (hr : RS gvm grc S) (ho : OS S) (gth x1 x2 x3 x4 : Int32) (gne : TN) (gla gnm : TA) : ∃ v gne' r t la nm, p_X12_hedge gvn gdn gne x1 x2 x3 x4 = some (v, gne') ∧ p_X13_hedge gth gvm gla gnm x1 x2 x3 x4 = some (r, t, la, nm) ∧ Ag2 v r t := by
  have h5 := ho.1.1
  unfold p_X12_hedge p_X13_hedge
  rcases g_owner hc.1 hr.1 ho.1 x1 with ⟨o, hoo, rfl, e1, e2⟩ | ⟨e1, e2⟩
  · rw [e1, some_bind', xb_l, e2, some_bind', if_neg n10]
    rcases g_span x2 x3 0 rfl with ⟨a, b, hab, hb, rfl, rfl, e3, e4⟩ | ⟨e3, e4⟩
    · have ho5 : o < 5 := by omega
      obtain ⟨g', f1, f2⟩ := c_fill hc.2.1 ho.2.1 h5 gne
      obtain ⟨la, l1, l2⟩ := m_lay hr.2.1 ho.2.1 gla
      have w1 := c_without_loop hc.2.1 ho.2.1 h5 ho5 10 0 fu (by omega) (fu_lt (by decide))
      have w1 : p_X4_bitsWithout gdn (nI o) = _ := w1
      have w2 := m_without_loop (gla := la) (gne := gnm) (gth := 0) (x2 := nI a) (x3 := nI b) (x4 := x4) hr.2.1 ho.2.1 h5 ho5 10 0 fu (by omega) (fu_lt (by decide))
      have w2 : p_X13_hedge_35 gvm fu 0 la gnm (nI o) (nI a) (nI b) x4 0 0 = _ := w2
      obtain ⟨v, nm, a1, a2⟩ := q_hedge_loop (gvn := gvn) (gd := gdn) (x4 := x4) (F := wb (fun d => decide (dH S.2.1 d = true ∧ dP S.2.1 d ≠ o ∧ dQ S.2.1 d ≠ o)) 10) f2 hr.2.1 l2 ho.2.1 h5 ho5 hab hb 1024 0 fu fu (-1) gnm (by omega) (fu_lt (by decide)) (fu_lt (by decide)) (Or.inl rfl)
      rw [e3, some_bind', xb_l, e4, some_bind', if_neg n10, f1, some_bind', w1, some_bind', l1, some_bind', w2]
      exact ⟨_, _, _, _, _, _, a1, a2, Or.inl ⟨rfl, rfl⟩⟩
    · rw [e3, e4]; exact ⟨_, _, _, _, _, _, rfl, rfl, Or.inr (Or.inr ⟨rfl, rfl⟩)⟩
  · rw [e1, e2]; exact ⟨_, _, _, _, _, _, rfl, rfl, Or.inr (Or.inl ⟨rfl, rfl⟩)⟩
