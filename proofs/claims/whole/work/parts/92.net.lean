theorem own_cmp {O : Nat} {D : MD} (ho : OD O D) (hO : O ≤ 5) {d o : Nat} (hd : d < 10) (hq : o < 5) : ((if dH D d then nI (dQ D d) else -1) = nI o ↔ (dH D d = true ∧ dQ D d = o)) ∧ ((if dH D d then nI (dP D d) else -1) = nI o ↔ (dH D d = true ∧ dP D d = o)) := by
  by_cases hh : dH D d = true
  · have h := ho.2.2 d hd hh
    rw [if_pos hh, if_pos hh, nI_eq (by omega) (by omega), nI_eq (by omega) (by omega)]
    exact ⟨⟨fun e => ⟨hh, e⟩, fun e => e.2⟩, ⟨fun e => ⟨hh, e⟩, fun e => e.2⟩⟩
  · rw [if_neg hh, if_neg hh]
    have hn : ¬ ((-1 : Int32) = nI o) := by
      intro e
      have e2 := congrArg Int32.toInt e
      rw [nI_toInt (by omega)] at e2
      have h1 : (-1 : Int32).toInt = -1 := by decide
      omega
    exact ⟨⟨fun e => absurd e hn, fun e => absurd e.1 hh⟩, ⟨fun e => absurd e hn, fun e => absurd e.1 hh⟩⟩
def tF (D : MD) (o b d : Nat) : Int := if dH D d = true ∧ dQ D d = o then (dW D d b : Int) else 0
def bF (D : MD) (o b d : Nat) : Int := if dH D d = true ∧ dP D d = o then (dW D d b : Int) else 0
def tO (D : MD) (o b : Nat) : Int := sZ (tF D o b) 10
def bO (D : MD) (o b : Nat) : Int := sZ (bF D o b) 10
def nO (D : MD) (o b : Nat) : Int := tO D o b - bO D o b
theorem sZ_b10 {f : Nat → Int} {c : Int} (h : ∀ d, d < 10 → 0 ≤ f d ∧ f d ≤ c) : 0 ≤ sZ f 10 ∧ sZ f 10 ≤ 10 * c := by
  have h0 := h 0 (by omega); have h1 := h 1 (by omega); have h2 := h 2 (by omega); have h3 := h 3 (by omega); have h4 := h 4 (by omega)
  have h5 := h 5 (by omega); have h6 := h 6 (by omega); have h7 := h 7 (by omega); have h8 := h 8 (by omega); have h9 := h 9 (by omega)
  simp only [sZ]; omega
theorem tF_b {O : Nat} {D : MD} (ho : OD O D) {o b d : Nat} (hd : d < 10) (c : Nat) (hb : b ≤ c) (hc : 5 ≤ c) : (0 ≤ tF D o b d ∧ tF D o b d ≤ ((c ^ 5 : Nat) : Int)) ∧ (0 ≤ bF D o b d ∧ bF D o b d ≤ ((c ^ 5 : Nat) : Int)) := by
  have h := dW_le ho hd hb hc
  unfold tF bF
  constructor <;> split <;> omega
theorem tO_b {O : Nat} {D : MD} (ho : OD O D) (o : Nat) {b : Nat} (hb : b ≤ 41) : 0 ≤ tO D o b ∧ tO D o b ≤ 1158562010 ∧ 0 ≤ bO D o b ∧ bO D o b ≤ 1158562010 := by
  have h1 := sZ_b10 (f := tF D o b) (fun d hd => (tF_b ho (o := o) hd 41 hb (by decide)).1)
  have h2 := sZ_b10 (f := bF D o b) (fun d hd => (tF_b ho (o := o) hd 41 hb (by decide)).2)
  unfold tO bO
  rw [show ((41 ^ 5 : Nat) : Int) = 115856201 from by decide] at h1 h2
  omega
theorem nO_b {O : Nat} {D : MD} (ho : OD O D) (o : Nat) {b : Nat} (hb : b ≤ 40) : -1024000000 ≤ nO D o b ∧ nO D o b ≤ 1024000000 := by
  have h1 := sZ_b10 (f := tF D o b) (fun d hd => (tF_b ho (o := o) hd 40 hb (by decide)).1)
  have h2 := sZ_b10 (f := bF D o b) (fun d hd => (tF_b ho (o := o) hd 40 hb (by decide)).2)
  unfold nO tO bO
  rw [show ((40 ^ 5 : Nat) : Int) = 102400000 from by decide] at h1 h2
  omega
theorem dW_i {O : Nat} {D : MD} (ho : OD O D) {d b : Nat} (hd : d < 10) (hb : b ≤ 61) : dW D d b < 2147483648 := by
  have h := dW_le ho hd hb (by decide)
  rw [show 61 ^ 5 = 844596301 from by decide] at h
  omega

theorem c_owedTo_loop {O : Nat} {gd : TD} {D : MD} (h : DC gd D) (ho : OD O D) (hO : O ≤ 5) {o b : Nat} (hq : o < 5) (hb : b ≤ 61) : ∀ k j n : Nat, j + k = 10 → k < n → p_X4_owedTo_5 gd n (nI o) (nI b) (iL (sZ (tF D o b) j)) (nI j) = some (iL (sZ (tF D o b) 10)) := by
  intro k
  induction k with
  | zero =>
    intro j n hj hn
    obtain ⟨n, rfl⟩ : ∃ m, n = m + 1 := ⟨n - 1, by omega⟩
    have hj : j = 10 := by omega
    subst hj
    unfold p_X4_owedTo_5
    rw [if_pos (le_t (c := 10) (Nat.le_refl _) (by decide))]
  | succ k ih =>
    intro j n hj hn
    obtain ⟨n, rfl⟩ : ∃ m, n = m + 1 := ⟨n - 1, by omega⟩
    have hj10 : j < 10 := by omega
    have hi := ih (j + 1) n (by omega) (by omega)
    unfold p_X4_owedTo_5 p_X4_owedTo_33
    rw [if_neg (le_f (c := 10) hj10 (by decide)), c_lend h ho.2.1 hj10, some_bind']
    have hc := (own_cmp ho hO hj10 hq).1
    rw [show sZ (tF D o b) (j + 1) = sZ (tF D o b) j + tF D o b j from rfl] at hi
    by_cases hh : dH D j = true ∧ dQ D j = o
    · rw [if_pos (hc.2 hh), c_worth h ho hj10 hb, some_bind', nI_lz (dW_i ho hj10 hb), iL_add, nI_1]
      rw [show tF D o b j = (dW D j b : Int) from if_pos hh] at hi
      exact hi
    · rw [if_neg (fun e => hh (hc.1 e)), nI_1]
      rw [show tF D o b j = 0 from if_neg hh, Int.add_zero] at hi
      exact hi

theorem c_owedBy_loop {O : Nat} {gd : TD} {D : MD} (h : DC gd D) (ho : OD O D) (hO : O ≤ 5) {o b : Nat} (hq : o < 5) (hb : b ≤ 61) : ∀ k j n : Nat, j + k = 10 → k < n → p_X4_owedBy_5 gd n (nI o) (nI b) (iL (sZ (bF D o b) j)) (nI j) = some (iL (sZ (bF D o b) 10)) := by
  intro k
  induction k with
  | zero =>
    intro j n hj hn
    obtain ⟨n, rfl⟩ : ∃ m, n = m + 1 := ⟨n - 1, by omega⟩
    have hj : j = 10 := by omega
    subst hj
    unfold p_X4_owedBy_5
    rw [if_pos (le_t (c := 10) (Nat.le_refl _) (by decide))]
  | succ k ih =>
    intro j n hj hn
    obtain ⟨n, rfl⟩ : ∃ m, n = m + 1 := ⟨n - 1, by omega⟩
    have hj10 : j < 10 := by omega
    have hi := ih (j + 1) n (by omega) (by omega)
    unfold p_X4_owedBy_5 p_X4_owedBy_33
    rw [if_neg (le_f (c := 10) hj10 (by decide)), c_deb h ho.2.1 hj10, some_bind']
    have hc := (own_cmp ho hO hj10 hq).2
    rw [show sZ (bF D o b) (j + 1) = sZ (bF D o b) j + bF D o b j from rfl] at hi
    by_cases hh : dH D j = true ∧ dP D j = o
    · rw [if_pos (hc.2 hh), c_worth h ho hj10 hb, some_bind', nI_lz (dW_i ho hj10 hb), iL_add, nI_1]
      rw [show bF D o b j = (dW D j b : Int) from if_pos hh] at hi
      exact hi
    · rw [if_neg (fun e => hh (hc.1 e)), nI_1]
      rw [show bF D o b j = 0 from if_neg hh, Int.add_zero] at hi
      exact hi

theorem c_owedTo {O : Nat} {gd : TD} {D : MD} (h : DC gd D) (ho : OD O D) (hO : O ≤ 5) {o b : Nat} (hq : o < 5) (hb : b ≤ 61) : p_X4_owedTo gd (nI o) (nI b) = some (iL (tO D o b)) := c_owedTo_loop h ho hO hq hb 10 0 fu (by omega) (fu_lt (by decide))
theorem c_owedBy {O : Nat} {gd : TD} {D : MD} (h : DC gd D) (ho : OD O D) (hO : O ≤ 5) {o b : Nat} (hq : o < 5) (hb : b ≤ 61) : p_X4_owedBy gd (nI o) (nI b) = some (iL (bO D o b)) := c_owedBy_loop h ho hO hq hb 10 0 fu (by omega) (fu_lt (by decide))
theorem c_netOf {O : Nat} {gd : TD} {D : MD} (h : DC gd D) (ho : OD O D) (hO : O ≤ 5) {o b : Nat} (hq : o < 5) (hb : b ≤ 61) : p_X4_netOf gd (nI o) (nI b) = some (iL (nO D o b)) := by
  unfold p_X4_netOf
  rw [c_owedTo h ho hO hq hb, some_bind', c_owedBy h ho hO hq hb, some_bind', iL_sub]; rfl
/-- the reference's table of worths -/
def LA (gla : TA) (D : MD) : Prop := ∀ d, d < 10 → ∀ b, b < 62 → gla (62 * d + b) = nI (dW D d b)
theorem has1 (c : Bool) : ((if c = true then (1 : Int32) else 0) = 1) ↔ c = true := by cases c <;> decide
theorem has0 (c : Bool) : ((if c = true then (1 : Int32) else 0) = 0) ↔ c = false := by cases c <;> decide
theorem m_lay_in {O : Nat} {gvm : TM} {D : MD} (h : DM gvm D) (ho : OD O D) {i : Nat} (hi : i < 10) (k2 : TA → Int32 → Option TA) : ∀ (k j n : Nat) (gla : TA), j + k = 62 → k < n → ∃ g' : TA, p_X13_lay_10 k2 gvm n gla (nI i) (nI j) = k2 g' (nI (i + 1)) ∧ (∀ q, q < 62 * i + j → g' q = gla q) ∧ ∀ b, j ≤ b → b < 62 → g' (62 * i + b) = nI (dW D i b) := by
  intro k
  induction k with
  | zero =>
    intro j n gla hj hn
    obtain ⟨n, rfl⟩ : ∃ m, n = m + 1 := ⟨n - 1, by omega⟩
    have hj : j = 62 := by omega
    subst hj
    refine ⟨gla, ?_, fun _ _ => rfl, fun b h1 h2 => absurd h1 (by omega)⟩
    unfold p_X13_lay_10
    rw [if_pos (le_t (c := 62) (Nat.le_refl _) (by decide)), nI_1]
  | succ k ih =>
    intro j n gla hj hn
    obtain ⟨n, rfl⟩ : ∃ m, n = m + 1 := ⟨n - 1, by omega⟩
    obtain ⟨g', h1, h2, h3⟩ := ih (j + 1) n (upd gla (62 * i + j) (nI (dW D i j))) (by omega) (by omega)
    refine ⟨g', ?_, fun q hq => by rw [h2 q (by omega), pk_un (by omega)], fun b hb hb2 => ?_⟩
    · unfold p_X13_lay_10 p_X13_lay_46
      rw [if_neg (le_f (c := 62) (by omega) (by decide)), if_pos (ix_nI hi (by decide)), cl_nI (by omega), (h.2 i hi).1, lay_at, if_pos (ix_nI (by omega) (by decide)), cl_nI (by omega), nI_1]
      by_cases hh : dH D i = true
      · rw [if_pos ((has1 _).2 hh), m_worth h ho hi hh (by omega), some_bind', if_pos (ix_nI (by omega) (by decide))]
        exact h1
      · rw [if_neg (fun e => hh ((has1 _).1 e))]
        rw [show dW D i j = 0 from if_neg hh] at h1
        exact h1
    · by_cases e : b = j
      · subst e; rw [h2 _ (by omega), pk_us]
      · exact h3 b (by omega) hb2
theorem m_lay_out {O : Nat} {gvm : TM} {D : MD} (h : DM gvm D) (ho : OD O D) : ∀ (k i n : Nat) (gla : TA), i + k = 10 → k < n → (∀ d, d < i → ∀ b, b < 62 → gla (62 * d + b) = nI (dW D d b)) → ∃ g' : TA, p_X13_lay_2 gvm n gla (nI i) = some g' ∧ LA g' D := by
  intro k
  induction k with
  | zero =>
    intro i n gla hi hn hl
    obtain ⟨n, rfl⟩ : ∃ m, n = m + 1 := ⟨n - 1, by omega⟩
    have hi : i = 10 := by omega
    subst hi
    refine ⟨gla, ?_, hl⟩
    unfold p_X13_lay_2
    rw [if_pos (le_t (c := 10) (Nat.le_refl _) (by decide))]
  | succ k ih =>
    intro i n gla hi hn hl
    obtain ⟨n, rfl⟩ : ∃ m, n = m + 1 := ⟨n - 1, by omega⟩
    obtain ⟨g1, h1, h2, h3⟩ := m_lay_in h ho (show i < 10 by omega) (p_X13_lay_2 gvm n) 62 0 fu gla (by omega) (fu_lt (by decide))
    obtain ⟨g', h4, h5⟩ := ih (i + 1) n g1 (by omega) (by omega) (fun d hd b hb => by
      by_cases e : d = i
      · subst e; exact h3 b (by omega) hb
      · rw [h2 _ (by omega)]; exact hl d (by omega) b hb)
    refine ⟨g', ?_, h5⟩
    unfold p_X13_lay_2
    rw [if_neg (le_f (c := 10) (by omega) (by decide))]
    exact h1.trans h4
theorem m_lay {O : Nat} {gvm : TM} {D : MD} (h : DM gvm D) (ho : OD O D) (gla : TA) : ∃ g' : TA, p_X13_lay gvm gla = some g' ∧ LA g' D := m_lay_out h ho 10 0 fu gla (by omega) (fu_lt (by decide)) (fun d hd => absurd hd (by omega))

theorem m_owedTo_loop {O : Nat} {gvm : TM} {gla : TA} {D : MD} (h : DM gvm D) (hl : LA gla D) (ho : OD O D) (hO : O ≤ 5) {o b : Nat} (hq : o < 5) (hb : b ≤ 61) : ∀ k j n : Nat, j + k = 10 → k < n → p_X13_owedTo_5 gvm gla n (nI o) (nI b) (iI (sZ (tF D o b) j)) (nI j) = some (iI (sZ (tF D o b) 10)) := by
  intro k
  induction k with
  | zero =>
    intro j n hj hn
    obtain ⟨n, rfl⟩ : ∃ m, n = m + 1 := ⟨n - 1, by omega⟩
    have hj : j = 10 := by omega
    subst hj
    unfold p_X13_owedTo_5
    rw [if_pos (le_t (c := 10) (Nat.le_refl _) (by decide))]
  | succ k ih =>
    intro j n hj hn
    obtain ⟨n, rfl⟩ : ∃ m, n = m + 1 := ⟨n - 1, by omega⟩
    have hj10 : j < 10 := by omega
    have hi := ih (j + 1) n (by omega) (by omega)
    unfold p_X13_owedTo_5 p_X13_owedTo_50 p_X13_owedTo_51
    simp only [if_neg (le_f (c := 10) hj10 (by decide)), if_pos (ix_nI hj10 (by decide)), cl_nI (show j < 2147483648 by omega), (h.2 j hj10).1, lay_at, if_pos (ix_nI (show 62 * j + b < 620 by omega) (by decide)), cl_nI (show 62 * j + b < 2147483648 by omega), hl j hj10 b (by omega), nI_1]
    rw [show sZ (tF D o b) (j + 1) = sZ (tF D o b) j + tF D o b j from rfl] at hi
    by_cases hh : dH D j = true
    · have hm := ((h.2 j hj10).2 hh).2.1
      have ho5 := ho.2.2 j hj10 hh
      rw [if_pos ((has1 _).2 hh), hm]
      by_cases he : dQ D j = o
      · rw [if_pos (by rw [he]), nI_iI (dW D j b), iI_add]
        rw [show tF D o b j = (dW D j b : Int) from if_pos ⟨hh, he⟩] at hi
        exact hi
      · rw [if_neg (ne_f he (by omega) (by omega))]
        rw [show tF D o b j = 0 from if_neg (fun e => he e.2)] at hi
        rw [show (0 : Int32) = iI 0 from rfl, iI_add]
        exact hi
    · rw [if_neg (fun e => hh ((has1 _).1 e))]
      rw [show tF D o b j = 0 from if_neg (fun e => hh e.1)] at hi
      rw [show (0 : Int32) = iI 0 from rfl, iI_add]
      exact hi

theorem m_oweBy_loop {O : Nat} {gvm : TM} {gla : TA} {D : MD} (h : DM gvm D) (hl : LA gla D) (ho : OD O D) (hO : O ≤ 5) {o b : Nat} (hq : o < 5) (hb : b ≤ 61) : ∀ k j n : Nat, j + k = 10 → k < n → p_X13_oweBy_5 gvm gla n (nI o) (nI b) (iI (sZ (bF D o b) j)) (nI j) = some (iI (sZ (bF D o b) 10)) := by
  intro k
  induction k with
  | zero =>
    intro j n hj hn
    obtain ⟨n, rfl⟩ : ∃ m, n = m + 1 := ⟨n - 1, by omega⟩
    have hj : j = 10 := by omega
    subst hj
    unfold p_X13_oweBy_5
    rw [if_pos (le_t (c := 10) (Nat.le_refl _) (by decide))]
  | succ k ih =>
    intro j n hj hn
    obtain ⟨n, rfl⟩ : ∃ m, n = m + 1 := ⟨n - 1, by omega⟩
    have hj10 : j < 10 := by omega
    have hi := ih (j + 1) n (by omega) (by omega)
    unfold p_X13_oweBy_5 p_X13_oweBy_50 p_X13_oweBy_51
    simp only [if_neg (le_f (c := 10) hj10 (by decide)), if_pos (ix_nI hj10 (by decide)), cl_nI (show j < 2147483648 by omega), (h.2 j hj10).1, lay_at, if_pos (ix_nI (show 62 * j + b < 620 by omega) (by decide)), cl_nI (show 62 * j + b < 2147483648 by omega), hl j hj10 b (by omega), nI_1]
    rw [show sZ (bF D o b) (j + 1) = sZ (bF D o b) j + bF D o b j from rfl] at hi
    by_cases hh : dH D j = true
    · have hm := ((h.2 j hj10).2 hh).1
      have ho5 := ho.2.2 j hj10 hh
      rw [if_pos ((has1 _).2 hh), hm]
      by_cases he : dP D j = o
      · rw [if_pos (by rw [he]), nI_iI (dW D j b), iI_add]
        rw [show bF D o b j = (dW D j b : Int) from if_pos ⟨hh, he⟩] at hi
        exact hi
      · rw [if_neg (ne_f he (by omega) (by omega))]
        rw [show bF D o b j = 0 from if_neg (fun e => he e.2)] at hi
        rw [show (0 : Int32) = iI 0 from rfl, iI_add]
        exact hi
    · rw [if_neg (fun e => hh ((has1 _).1 e))]
      rw [show bF D o b j = 0 from if_neg (fun e => hh e.1)] at hi
      rw [show (0 : Int32) = iI 0 from rfl, iI_add]
      exact hi

theorem m_owedTo {O : Nat} {gvm : TM} {gla : TA} {D : MD} (h : DM gvm D) (hl : LA gla D) (ho : OD O D) (hO : O ≤ 5) {o b : Nat} (hq : o < 5) (hb : b ≤ 61) : p_X13_owedTo gvm gla (nI o) (nI b) = some (iI (tO D o b)) := m_owedTo_loop h hl ho hO hq hb 10 0 fu (by omega) (fu_lt (by decide))
theorem m_oweBy {O : Nat} {gvm : TM} {gla : TA} {D : MD} (h : DM gvm D) (hl : LA gla D) (ho : OD O D) (hO : O ≤ 5) {o b : Nat} (hq : o < 5) (hb : b ≤ 61) : p_X13_oweBy gvm gla (nI o) (nI b) = some (iI (bO D o b)) := m_oweBy_loop h hl ho hO hq hb 10 0 fu (by omega) (fu_lt (by decide))
theorem m_net {O : Nat} {gvm : TM} {gla : TA} {D : MD} (h : DM gvm D) (hl : LA gla D) (ho : OD O D) (hO : O ≤ 5) {o b : Nat} (hq : o < 5) (hb : b ≤ 61) : p_X13_net gvm gla (nI o) (nI b) = some (iI (nO D o b)) := by
  unfold p_X13_net
  rw [m_owedTo h hl ho hO hq hb, some_bind', m_oweBy h hl ho hO hq hb, some_bind', iI_sub]; rfl
