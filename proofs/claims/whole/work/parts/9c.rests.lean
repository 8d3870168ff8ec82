-- rests
abbrev TGm := Int32 × Int32 × Int32 × TA × TA × TA × (Nat → Nat → Int64)
abbrev TGr := TA × TA × TA
def lim (V : MV) (i : Nat) : Nat := if i < vO V then (if vG V i < vC V i then vG V i else vC V i) else 0
theorem lim_b {V : MV} (ho : OV V) (i : Nat) : lim V i ≤ 5 ∧ (i < vO V → lim V i ≤ vG V i) := by
  unfold lim
  by_cases h : i < vO V
  · have := (ho.2.2.2 i h).1
    rw [if_pos h]
    constructor
    · split <;> omega
    · intro _; split <;> omega
  · rw [if_neg h]; exact ⟨by omega, fun e => absurd e h⟩
theorem m_most {gvm : TM} {V : MV} (h : VM gvm V) (ho : OV V) {o : Nat} (hq : o < vO V) : p_X13_most gvm (nI o) = some (nI (lim V o)) := by
  have h5 := ho.1
  have hg := OV_g ho hq
  have hc := (ho.2.2.2 o hq).1
  unfold p_X13_most lim
  rw [if_pos (ix_nI (by omega) (by decide)), if_pos (ix_nI (by omega) (by decide)), if_pos (ix_nI (by omega) (by decide)), if_pos (ix_nI (by omega) (by decide)), cl_nI (by omega), (h.2.2.1 o hq).1, (h.2.2.1 o hq).2.1, if_pos hq]
  by_cases e : vG V o < vC V o
  · rw [if_pos (nI_le (by omega) (by omega)), if_pos e]
  · rw [if_neg e]
    by_cases e2 : vG V o = vC V o
    · rw [if_pos (nI_le (by omega) (by omega)), e2]
    · rw [if_neg (nI_ge (by omega) (by omega))]
def nZ (D : MD) (o : Nat) (z : Int) : Int := if 0 ≤ z ∧ z ≤ 40 then nO D o z.toNat else 0
theorem nZ_b {O : Nat} {D : MD} (ho : OD O D) (o : Nat) (z : Int) : -1024000000 ≤ nZ D o z ∧ nZ D o z ≤ 1024000000 := by
  unfold nZ
  split
  · exact nO_b ho o (by omega)
  · omega
theorem c_netInZ {gne : TN} {D : MD} (h : NE gne D) {o : Nat} (hq : o < 5) {z : Int} (h1 : -1000 ≤ z) (h2 : z ≤ 1000) : p_X6_netIn gne (nI o) (iI z) = some (iL (nZ D o z)) := by
  unfold nZ
  by_cases hz : 0 ≤ z ∧ z ≤ 40
  · rw [if_pos hz]
    have e : z = (z.toNat : Int) := by omega
    rw [show iI z = nI z.toNat from by rw [nI_iI, ← e]]
    exact c_netIn h hq (by omega)
  · rw [if_neg hz]
    unfold p_X6_netIn
    rw [if_neg (nI_pos (by omega)), if_neg (le_f (c := 5) hq (by decide))]
    by_cases h0 : z < 0
    · rw [if_pos (by rw [Int32.lt_iff_toInt_lt, iI_toInt (by omega) (by omega)]; exact h0)]; rfl
    · rw [if_neg (fun e => by rw [Int32.lt_iff_toInt_lt, iI_toInt (by omega) (by omega)] at e; have : (0 : Int32).toInt = 0 := by decide
                              omega), if_pos (by rw [Int32.le_iff_toInt_le, iI_toInt (by omega) (by omega)]; have : (41 : Int32).toInt = 41 := by decide
                                                 omega)]; rfl
/-- the greatest of g 0 .. g l -/
def mxH (g : Nat → Int) : Nat → Int
  | 0 => g 0
  | l + 1 => if g (l + 1) < mxH g l then mxH g l else g (l + 1)
theorem mxH_ge (g : Nat → Int) : ∀ l h, h ≤ l → g h ≤ mxH g l := by
  intro l
  induction l with
  | zero => intro h hh; rw [show h = 0 by omega]; exact Int.le_refl _
  | succ l ih =>
    intro h hh
    unfold mxH
    by_cases e : h = l + 1
    · subst e; split <;> omega
    · have := ih h (by omega); split <;> omega
theorem mxH_le {g : Nat → Int} {c : Int} : ∀ l, (∀ h, h ≤ l → g h ≤ c) → mxH g l ≤ c := by
  intro l
  induction l with
  | zero => intro h; exact h 0 (by omega)
  | succ l ih =>
    intro h
    have h1 := ih (fun i hi => h i (by omega))
    have h2 := h (l + 1) (by omega)
    unfold mxH; split <;> omega
def bR (D : MD) (o : Nat) (z : Int) : Nat → Int := mxH (fun h => nZ D o (z - h))
theorem bR_b {O : Nat} {D : MD} (ho : OD O D) (o : Nat) (z : Int) (l : Nat) : -1024000000 ≤ bR D o z l ∧ bR D o z l ≤ 1024000000 := by
  refine ⟨?_, mxH_le l (fun h _ => (nZ_b ho o _).2)⟩
  have := mxH_ge (fun h : Nat => nZ D o (z - h)) l 0 (by omega)
  have h2 := (nZ_b ho o (z - (0 : Nat))).1
  have this : nZ D o (z - ((0 : Nat) : Int)) ≤ bR D o z l := this
  omega
theorem c_reply_loop {O : Nat} {gne : TN} {D : MD} (h : NE gne D) (ho : OD O D) {o l : Nat} (hq : o < 5) (hl : l ≤ 5) {z : Int} (h1 : -100 ≤ z) (h2 : z ≤ 100) : ∀ k j n : Nat, j + k = l → k < n → p_X5_bestReply_11 gne n (nI o) (nI l) (iI z) (iL (bR D o z j)) (nI (j + 1)) = some (iL (bR D o z l)) := by
  intro k
  induction k with
  | zero =>
    intro j n hj hn
    obtain ⟨n, rfl⟩ : ∃ m, n = m + 1 := ⟨n - 1, by omega⟩
    have hj : j = l := by omega
    subst hj
    unfold p_X5_bestReply_11
    rw [if_pos (nI_lt (by omega) (by omega))]
  | succ k ih =>
    intro j n hj hn
    obtain ⟨n, rfl⟩ : ∃ m, n = m + 1 := ⟨n - 1, by omega⟩
    have hi := ih (j + 1) n (by omega) (by omega)
    have b1 := bR_b ho o z j
    have b2 := nZ_b ho o (z - ((j + 1 : Nat) : Int))
    unfold p_X5_bestReply_11
    rw [if_neg (nI_nlt (by omega) (by omega)), nI_iI (j + 1), iI_sub, c_netInZ h hq (by omega) (by omega), some_bind', ← nI_iI, nI_1]
    rw [show bR D o z (j + 1) = (if nZ D o (z - ((j + 1 : Nat) : Int)) < bR D o z j then bR D o z j else nZ D o (z - ((j + 1 : Nat) : Int))) from rfl] at hi
    by_cases hc : nZ D o (z - ((j + 1 : Nat) : Int)) < bR D o z j
    · rw [if_pos ((iL_lt (by omega) (by omega) (by omega) (by omega)).2 hc)]
      rw [if_pos hc] at hi; exact hi
    · rw [if_neg (fun e => hc ((iL_lt (by omega) (by omega) (by omega) (by omega)).1 e))]
      rw [if_neg hc] at hi; exact hi
theorem c_reply {O : Nat} {gne : TN} {D : MD} (h : NE gne D) (ho : OD O D) {o l : Nat} (hq : o < 5) (hl : l ≤ 5) {z : Int} (h1 : -100 ≤ z) (h2 : z ≤ 100) : p_X5_bestReply gne (nI o) (nI l) (iI z) = some (iL (bR D o z l)) := by
  unfold p_X5_bestReply
  rw [c_netInZ h hq (by omega) (by omega), some_bind']
  have := c_reply_loop h ho hq hl h1 h2 l 0 fu (by omega) (fu_lt (by omega))
  rw [show bR D o z 0 = nZ D o z from by show nZ D o (z - ((0 : Nat) : Int)) = _; rw [show z - ((0 : Nat) : Int) = z by omega]] at this
  exact this
/-- the game's state after setting up -/
def GM (g : TGm) (V : MV) (D : MD) (G : Nat) (r : Nat → Nat) : Prop := g.2.1 = nI (vO V) ∧ g.2.2.1 = nI G ∧ (∀ i, i < 5 → g.2.2.2.1 i = nI (lim V i) ∧ g.2.2.2.2.1 i = nI (r i)) ∧ ∀ i, i < 5 → ∀ t, t ≤ 25 → g.2.2.2.2.2.2 i t = iL (bR D i ((G : Int) - t) (lim V i))
theorem c_setUp_52 {O : Nat} {gv : TV} {gne : TN} {V : MV} {D : MD} {k18 : TGm → Int32 → Option TGm} (h : NE gne D) (ho : OD O D) (hov : OV V) {G o : Nat} (hG : G ≤ 40) (hq : o < 5) : ∀ (k j n : Nat) (g : TGm), j + k = 26 → k < n → g.2.2.1 = nI G → g.2.2.2.1 o = nI (lim V o) → (∀ t, t < j → g.2.2.2.2.2.2 o t = iL (bR D o ((G : Int) - t) (lim V o))) → ∃ b, p_X5_setUp_52 k18 gv gne n g (nI o) (nI j) = k18 (g.1, g.2.1, g.2.2.1, g.2.2.2.1, g.2.2.2.2.1, g.2.2.2.2.2.1, b) (nI (o + 1)) ∧ (∀ i, i ≠ o → b i = g.2.2.2.2.2.2 i) ∧ ∀ t, t ≤ 25 → b o t = iL (bR D o ((G : Int) - t) (lim V o)) := by
  have hl5 := (lim_b hov o).1
  intro k
  induction k with
  | zero =>
    intro j n g hj hn e1 e2 hb
    obtain ⟨n, rfl⟩ : ∃ m, n = m + 1 := ⟨n - 1, by omega⟩
    have hj : j = 26 := by omega
    subst hj
    refine ⟨g.2.2.2.2.2.2, ?_, fun _ _ => rfl, fun t ht => hb t (by omega)⟩
    unfold p_X5_setUp_52
    rw [if_pos (lt_t (c := 25) (by decide) (by decide)), nI_1]
  | succ k ih =>
    intro j n g hj hn e1 e2 hb
    obtain ⟨n, rfl⟩ : ∃ m, n = m + 1 := ⟨n - 1, by omega⟩
    obtain ⟨b, a1, a2, a3⟩ := ih (j + 1) n (g.1, g.2.1, g.2.2.1, g.2.2.2.1, g.2.2.2.2.1, g.2.2.2.2.2.1, va_up g.2.2.2.2.2.2 o (vp_updL (g.2.2.2.2.2.2 o) j (iL (bR D o ((G : Int) - j) (lim V o))))) (by omega) (by omega) e1 e2 (fun t ht => by
      refine (congrFun (up_s _ _ _) t).trans ?_
      by_cases e : t = j
      · subst e; rw [pk_uLs]
      · rw [pk_uLn e]; exact hb t (by omega))
    refine ⟨b, ?_, fun i hi => ?_, a3⟩
    · unfold p_X5_setUp_52
      rw [if_neg (lt_f (c := 25) (by omega) (by decide)), if_pos (ix_nI hq (by decide)), if_pos (ix_nI hq (by decide)), cl_nI (by omega), cl_nI (by omega), e1, e2, show nI G - nI j = iI ((G : Int) - j) from by rw [nI_iI, nI_iI, iI_sub], c_reply h ho hq hl5 (by omega) (by omega), some_bind', if_pos (ix_nI (by omega) (by decide)), nI_1]
      rw [e1] at a1
      exact a1
    · rw [a2 i hi]; exact up_n _ _ hi
theorem c_setUp_18 {O : Nat} {gv : TV} {gne : TN} {V : MV} {D : MD} (hv : VC gv V) (h : NE gne D) (ho : OD O D) (hov : OV V) {G : Nat} (hG : G ≤ 40) : ∀ (k o n : Nat) (g : TGm), o + k = 5 → k < n → g.2.1 = nI (vO V) → g.2.2.1 = nI G → (∀ i, i < o → g.2.2.2.1 i = nI (lim V i) ∧ g.2.2.2.2.1 i = nI 0) → (∀ i, i < o → ∀ t, t ≤ 25 → g.2.2.2.2.2.2 i t = iL (bR D i ((G : Int) - t) (lim V i))) → ∃ g', p_X5_setUp_18 gv gne n g (nI o) = some g' ∧ GM g' V D G (fun _ => 0) := by
  intro k
  induction k with
  | zero =>
    intro o n g hj hn e1 e2 e3 e4
    obtain ⟨n, rfl⟩ : ∃ m, n = m + 1 := ⟨n - 1, by omega⟩
    have hj : o = 5 := by omega
    subst hj
    refine ⟨g, ?_, e1, e2, e3, e4⟩
    unfold p_X5_setUp_18
    rw [if_pos (le_t (c := 5) (Nat.le_refl _) (by decide))]
  | succ k ih =>
    intro o n g hj hn e1 e2 e3 e4
    obtain ⟨n, rfl⟩ : ∃ m, n = m + 1 := ⟨n - 1, by omega⟩
    have hq : o < 5 := by omega
    have hlim : (if nI (if o < vO V then vG V o else 0) < nI (if o < vO V then vC V o else 0) then nI (if o < vO V then vG V o else 0) else nI (if o < vO V then vC V o else 0)) = nI (lim V o) := by
      unfold lim
      by_cases hoo : o < vO V
      · have hg := OV_g hov hoo
        have hc := (hov.2.2.2 o hoo).1
        rw [if_pos hoo, if_pos hoo, if_pos hoo]
        by_cases e : vG V o < vC V o
        · rw [if_pos (nI_lt e (by omega)), if_pos e]
        · rw [if_neg (nI_nlt (by omega) (by omega)), if_neg e]
      · rw [if_neg hoo, if_neg hoo, if_neg hoo, ite_self]
    obtain ⟨b, a1, a2, a3⟩ := c_setUp_52 (gv := gv) (k18 := p_X5_setUp_18 gv gne n) h ho hov hG hq 26 0 fu (g.1, g.2.1, g.2.2.1, upd g.2.2.2.1 o (nI (lim V o)), upd g.2.2.2.2.1 o 0, g.2.2.2.2.2) (by omega) (fu_lt (by decide)) e2 pk_us (fun t ht => absurd ht (by omega))
    obtain ⟨g', b1, b2⟩ := ih (o + 1) n (g.1, g.2.1, g.2.2.1, upd g.2.2.2.1 o (nI (lim V o)), upd g.2.2.2.2.1 o 0, g.2.2.2.2.2.1, b) (by omega) (by omega) e1 e2 (fun i hi => by
      by_cases e : i = o
      · subst e; exact ⟨pk_us, pk_us⟩
      · exact ⟨(pk_un e).trans (e3 i (by omega)).1, (pk_un e).trans (e3 i (by omega)).2⟩) (fun i hi t ht => by
      by_cases e : i = o
      · subst e; exact a3 t ht
      · show b i t = _; rw [a2 i e]; exact e4 i (by omega) t ht)
    refine ⟨g', ?_, b2⟩
    unfold p_X5_setUp_18
    rw [if_neg (le_f (c := 5) hq (by decide)), if_pos (ix_nI hq (by decide)), c_hidesOf hv hov hq, some_bind', c_goatsOf hv hov hq, some_bind', if_pos (ix_nI hq (by decide)), cl_nI (by omega), hlim]
    exact a1.trans b1
theorem c_setUp {O : Nat} {gv : TV} {gne : TN} {V : MV} {D : MD} (hv : VC gv V) (h : NE gne D) (ho : OD O D) (hov : OV V) (g : TGm) : ∃ g', p_X5_setUp g gv gne = some g' ∧ GM g' V D (sN (vG V) (vO V)) (fun _ => 0) := by
  unfold p_X5_setUp
  rw [c_allGoats hv hov, some_bind']
  exact c_setUp_18 hv h ho hov hov.2.2.1 5 0 fu _ (by omega) (fu_lt (by decide)) hv.1 rfl (fun i hi => absurd hi (by omega)) (fun i hi => absurd hi (by omega))
-- does a row rest
def okO (V : MV) (D : MD) (G H : Nat) (r : Nat → Nat) (o : Nat) : Bool := decide (bR D o ((G : Int) - (H - r o : Nat)) (lim V o) ≤ nO D o (G - H))
def ra (p : Nat → Bool) : Nat → Bool
  | 0 => true
  | k + 1 => ra p k && p k
theorem ra_no {p : Nat → Bool} {j : Nat} (h : ra p j = false) : ∀ k, ra p (j + k) = false := by
  intro k
  induction k with
  | zero => exact h
  | succ k ih => show (ra p (j + k) && _) = false; rw [ih]; rfl
theorem sum5 (r : Nat → Nat) : sN r 5 = r 0 + r 1 + r 2 + r 3 + r 4 := by simp [sN]
/-- the rows' bounds -/
def RW (V : MV) (r : Nat → Nat) : Prop := ∀ i, r i ≤ lim V i
theorem RW_b {V : MV} (ho : OV V) {r : Nat → Nat} (h : RW V r) : sN r 5 ≤ sN (vG V) (vO V) ∧ sN r 5 ≤ 25 ∧ ∀ o, o < vO V → r o ≤ sN r 5 ∧ sN r 5 - r o + lim V o ≤ sN (vG V) (vO V) := by
  have h5 := ho.1
  have hcut := sN_cut (vG V) (vO V) h5
  have hl : ∀ i, r i ≤ (if i < vO V then vG V i else 0) ∧ r i ≤ 5 := by
    intro i
    have h1 := h i
    have h2 := lim_b ho i
    by_cases e : i < vO V
    · rw [if_pos e]; have := h2.2 e; omega
    · rw [if_neg e]
      have : lim V i = 0 := by unfold lim; rw [if_neg e]
      omega
  have c := hl 0
  have c1 := hl 1
  have c2 := hl 2
  have c3 := hl 3
  have c4 := hl 4
  rw [← hcut, sum5, sum5]
  refine ⟨by omega, by omega, fun o hoo => ?_⟩
  have hg := (lim_b ho o).2 hoo
  have hs : ∃ q, q = (if o < vO V then vG V o else 0) := ⟨_, rfl⟩
  have he : (if o < vO V then vG V o else 0) = vG V o := if_pos hoo
  have h6 : o = 0 ∨ o = 1 ∨ o = 2 ∨ o = 3 ∨ o = 4 := by omega
  rcases h6 with e | e | e | e | e <;> subst e <;> omega
theorem c_rests_26 {O : Nat} {g : TGm} {gne : TN} {V : MV} {D : MD} (h : NE gne D) (ho : OD O D) (hov : OV V) {r : Nat → Nat} (hg : GM g V D (sN (vG V) (vO V)) r) (hr : RW V r) : ∀ k j n : Nat, j + k = vO V → k < n → ra (okO V D (sN (vG V) (vO V)) (sN r 5) r) j = true → p_X5_rowRests_26 g gne n (nI (sN r 5)) (nI j) = some (if ra (okO V D (sN (vG V) (vO V)) (sN r 5) r) (vO V) = true then 1 else 0) := by
  have h5 := hov.1
  have h40 := hov.2.2.1
  have hb := RW_b hov hr
  intro k
  induction k with
  | zero =>
    intro j n hj hn hra
    obtain ⟨n, rfl⟩ : ∃ m, n = m + 1 := ⟨n - 1, by omega⟩
    have hj : j = vO V := by omega
    subst hj
    unfold p_X5_rowRests_26
    rw [hg.1, if_pos (nI_le (Nat.le_refl _) (by omega)), ite_self, if_pos hra]
  | succ k ih =>
    intro j n hj hn hra
    obtain ⟨n, rfl⟩ : ∃ m, n = m + 1 := ⟨n - 1, by omega⟩
    have hq : j < 5 := by omega
    have hbj := hb.2.2 j (by omega)
    have b1 := nO_b ho j (b := sN (vG V) (vO V) - sN r 5) (by omega)
    have b2 := bR_b ho j ((sN (vG V) (vO V) : Int) - (sN r 5 - r j : Nat)) (lim V j)
    unfold p_X5_rowRests_26 p_X5_rowRests_87
    rw [if_neg (le_f (c := 5) hq (by decide)), hg.1, if_neg (nI_ge (by omega) (by omega)), if_pos (ix_nI hq (by decide)), cl_nI (by omega), (hg.2.2.1 j hq).2, pk_sub hbj.1, if_neg (nI_pos (by omega)), if_neg (lt_f (c := 25) (by omega) (by decide)), hg.2.1, pk_sub hb.1, c_netIn h hq (by omega), some_bind', if_pos (ix_nI hq (by decide)), if_pos (ix_nI (by omega) (by decide)), cl_nI (by omega), hg.2.2.2 j hq _ (by omega), nI_1]
    by_cases hc : bR D j ((sN (vG V) (vO V) : Int) - (sN r 5 - r j : Nat)) (lim V j) ≤ nO D j (sN (vG V) (vO V) - sN r 5)
    · rw [if_pos ((lg_cmp_ge _ _).2 ((iL_le (by omega) (by omega) (by omega) (by omega)).2 hc))]
      exact ih (j + 1) n (by omega) (by omega) (by
        show (ra _ j && okO _ _ _ _ _ j) = true
        rw [hra, show okO V D (sN (vG V) (vO V)) (sN r 5) r j = true from decide_eq_true hc]; rfl)
    · rw [if_neg (fun e => hc ((iL_le (by omega) (by omega) (by omega) (by omega)).1 ((lg_cmp_ge _ _).1 e)))]
      have hno : ra (okO V D (sN (vG V) (vO V)) (sN r 5) r) (j + 1) = false := by
        show (ra _ j && okO _ _ _ _ _ j) = false
        rw [show okO V D (sN (vG V) (vO V)) (sN r 5) r j = false from decide_eq_false hc, Bool.and_false]
      have := ra_no hno k
      rw [show j + 1 + k = vO V by omega] at this
      rw [this, if_neg (by decide)]
theorem c_rests_4 {g : TGm} {gne : TN} {r : Nat → Nat} (hg : ∀ i, i < 5 → g.2.2.2.2.1 i = nI (r i)) : ∀ k j n : Nat, j + k = 5 → k < n → p_X5_rowRests_4 g gne n (nI (sN r j)) (nI j) = p_X5_rowRests_26 g gne fu (nI (sN r 5)) 0 := by
  intro k
  induction k with
  | zero =>
    intro j n hj hn
    obtain ⟨n, rfl⟩ : ∃ m, n = m + 1 := ⟨n - 1, by omega⟩
    have hj : j = 5 := by omega
    subst hj
    unfold p_X5_rowRests_4
    rw [if_pos (le_t (c := 5) (Nat.le_refl _) (by decide))]
  | succ k ih =>
    intro j n hj hn
    obtain ⟨n, rfl⟩ : ∃ m, n = m + 1 := ⟨n - 1, by omega⟩
    have hi := ih (j + 1) n (by omega) (by omega)
    unfold p_X5_rowRests_4
    rw [if_neg (le_f (c := 5) (by omega) (by decide)), if_pos (ix_nI (by omega) (by decide)), cl_nI (by omega), hg j (by omega), nI_add, nI_1]
    exact hi
theorem c_rowRests {O : Nat} {g : TGm} {gne : TN} {V : MV} {D : MD} (h : NE gne D) (ho : OD O D) (hov : OV V) {r : Nat → Nat} (hg : GM g V D (sN (vG V) (vO V)) r) (hr : RW V r) : p_X5_rowRests g gne = some (if ra (okO V D (sN (vG V) (vO V)) (sN r 5) r) (vO V) = true then 1 else 0) :=
  (c_rests_4 (fun i hi => (hg.2.2.1 i hi).2) 5 0 fu (by omega) (fu_lt (by decide))).trans (c_rests_26 h ho hov hg hr (vO V) 0 fu (by omega) (fu_lt (by have := hov.1; omega)) rfl)
-- the reference
def NB (f : TA) (V : MV) (D : MD) : Prop := ∀ o, o < vO V → ∀ b, b ≤ 40 → f (42 * o + b) = iI (nO D o b)
theorem m_rest_42 {O : Nat} {gvm : TM} {g : TGr} {V : MV} {D : MD} {k32 : Int32 → Int32 → Option Int32} (hv : VM gvm V) (ho : OD O D) (hov : OV V) {r : Nat → Nat} (hg : ∀ i, i < vO V → g.1 i = nI (r i)) (hb : NB g.2.2 V D) (hr : RW V r) {o : Nat} (hq : o < vO V) : ∀ k j n : Nat, j + k = lim V o + 1 → k < n → (∀ h, h < j → nZ D o ((sN (vG V) (vO V) : Int) - (sN r 5 - r o : Nat) - h) ≤ nO D o (sN (vG V) (vO V) - sN r 5)) → p_X13_isAtRest_42 k32 gvm g n (nI (sN (vG V) (vO V) - sN r 5)) (nI o) (nI j) = if okO V D (sN (vG V) (vO V)) (sN r 5) r o = true then k32 (nI (sN (vG V) (vO V) - sN r 5)) (nI (o + 1)) else some 0 := by
  have h5 := hov.1
  have h40 := hov.2.2.1
  have hrb := RW_b hov hr
  have hbo := hrb.2.2 o hq
  have hl5 := (lim_b hov o).1
  intro k
  induction k with
  | zero =>
    intro j n hj hn hall
    obtain ⟨n, rfl⟩ : ∃ m, n = m + 1 := ⟨n - 1, by omega⟩
    unfold p_X13_isAtRest_42
    rw [m_most hv hov hq, some_bind', if_pos (nI_lt (by omega) (by omega)), nI_1, if_pos]
    exact decide_eq_true (mxH_le _ (fun h hh => hall h (by omega)))
  | succ k ih =>
    intro j n hj hn hall
    obtain ⟨n, rfl⟩ : ∃ m, n = m + 1 := ⟨n - 1, by omega⟩
    have hidx : 42 * o + (sN (vG V) (vO V) - sN r 5) + r o - j = 42 * o + (sN (vG V) (vO V) - (sN r 5 - r o) - j) := by omega
    have hnz : nZ D o ((sN (vG V) (vO V) : Int) - (sN r 5 - r o : Nat) - j) = nO D o (sN (vG V) (vO V) - (sN r 5 - r o) - j) := by
      unfold nZ
      rw [if_pos (by omega)]
      congr 1
      omega
    have b1 := nO_b ho o (b := sN (vG V) (vO V) - sN r 5) (by omega)
    have b2 := nO_b ho o (b := sN (vG V) (vO V) - (sN r 5 - r o) - j) (by omega)
    unfold p_X13_isAtRest_42
    rw [m_most hv hov hq, some_bind', if_neg (nI_nlt (by omega) (by omega)), if_pos (ix_nI (by omega) (by decide)), cl_nI (show o < 2147483648 by omega), hg o hq, show (42 : Int32) = nI 42 from rfl, pk_mul, nI_add, nI_add, pk_sub (by omega), if_pos (ix_nI (by omega) (by decide)), if_pos (ix_nI (by omega) (by decide)), cl_nI (by omega), cl_nI (by omega), hidx, hb o hq _ (by omega), hb o hq _ (by omega), nI_1]
    by_cases hc : nO D o (sN (vG V) (vO V) - (sN r 5 - r o) - j) ≤ nO D o (sN (vG V) (vO V) - sN r 5)
    · rw [if_pos ((iI_le (by omega) (by omega) (by omega) (by omega)).2 hc)]
      exact ih (j + 1) n (by omega) (by omega) (fun h hh => by
        by_cases e : h = j
        · subst e; rw [hnz]; exact hc
        · exact hall h (by omega))
    · rw [if_neg (fun e => hc ((iI_le (by omega) (by omega) (by omega) (by omega)).1 e)), if_neg]
      intro e
      have e2 := of_decide_eq_true e
      have e3 := mxH_ge (fun h : Nat => nZ D o ((sN (vG V) (vO V) : Int) - (sN r 5 - r o : Nat) - h)) (lim V o) j (by omega)
      have e3 : nZ D o ((sN (vG V) (vO V) : Int) - (sN r 5 - r o : Nat) - j) ≤ bR D o ((sN (vG V) (vO V) : Int) - (sN r 5 - r o : Nat)) (lim V o) := e3
      rw [hnz] at e3
      omega
theorem m_rest_32 {O : Nat} {gvm : TM} {g : TGr} {V : MV} {D : MD} (hv : VM gvm V) (ho : OD O D) (hov : OV V) {r : Nat → Nat} (hg : ∀ i, i < vO V → g.1 i = nI (r i)) (hb : NB g.2.2 V D) (hr : RW V r) : ∀ k j n : Nat, j + k = vO V → k < n → ra (okO V D (sN (vG V) (vO V)) (sN r 5) r) j = true → p_X13_isAtRest_32 gvm g n (nI (sN (vG V) (vO V) - sN r 5)) (nI j) = some (if ra (okO V D (sN (vG V) (vO V)) (sN r 5) r) (vO V) = true then 1 else 0) := by
  have h5 := hov.1
  intro k
  induction k with
  | zero =>
    intro j n hj hn hra
    obtain ⟨n, rfl⟩ : ∃ m, n = m + 1 := ⟨n - 1, by omega⟩
    have hj : j = vO V := by omega
    subst hj
    unfold p_X13_isAtRest_32
    rw [hv.1, if_pos (nI_le (Nat.le_refl _) (by omega)), if_pos hra]
  | succ k ih =>
    intro j n hj hn hra
    obtain ⟨n, rfl⟩ : ∃ m, n = m + 1 := ⟨n - 1, by omega⟩
    have hl5 := (lim_b hov j).1
    have h42 := m_rest_42 (k32 := p_X13_isAtRest_32 gvm g n) hv ho hov hg hb hr (show j < vO V by omega) (lim V j + 1) 0 fu (by omega) (fu_lt (by omega)) (fun h hh => absurd hh (by omega))
    have h42 : p_X13_isAtRest_42 (p_X13_isAtRest_32 gvm g n) gvm g fu (nI (sN (vG V) (vO V) - sN r 5)) (nI j) 0 = _ := h42
    unfold p_X13_isAtRest_32
    rw [hv.1, if_neg (nI_ge (by omega) (by omega)), h42]
    by_cases hc : okO V D (sN (vG V) (vO V)) (sN r 5) r j = true
    · rw [if_pos hc]
      exact ih (j + 1) n (by omega) (by omega) (by
        show (ra _ j && okO _ _ _ _ _ j) = true
        rw [hra, hc]; rfl)
    · rw [if_neg hc]
      have hno : ra (okO V D (sN (vG V) (vO V)) (sN r 5) r) (j + 1) = false := by
        show (ra _ j && okO _ _ _ _ _ j) = false
        rw [show okO V D (sN (vG V) (vO V)) (sN r 5) r j = false from by simpa using hc, Bool.and_false]
      have := ra_no hno k
      rw [show j + 1 + k = vO V by omega] at this
      rw [this, if_neg (by decide)]
theorem m_rest_7 {gvm : TM} {g : TGr} {V : MV} (hv : VM gvm V) (hov : OV V) {r : Nat → Nat} (hg : ∀ i, i < vO V → g.1 i = nI (r i)) (hr : RW V r) : ∀ k j n : Nat, j + k = vO V → k < n → sN r (vO V) ≤ sN (vG V) (vO V) → p_X13_isAtRest_7 gvm g n (nI (sN (vG V) (vO V) - sN r j)) (nI j) = p_X13_isAtRest_32 gvm g fu (nI (sN (vG V) (vO V) - sN r (vO V))) 0 := by
  have h5 := hov.1
  intro k
  induction k with
  | zero =>
    intro j n hj hn hs
    obtain ⟨n, rfl⟩ : ∃ m, n = m + 1 := ⟨n - 1, by omega⟩
    have hj : j = vO V := by omega
    subst hj
    unfold p_X13_isAtRest_7
    rw [hv.1, if_pos (nI_le (Nat.le_refl _) (by omega))]
  | succ k ih =>
    intro j n hj hn hs
    obtain ⟨n, rfl⟩ : ∃ m, n = m + 1 := ⟨n - 1, by omega⟩
    have hi := ih (j + 1) n (by omega) (by omega) hs
    have hmono : ∀ a, sN r (j + 1) ≤ sN r (j + 1 + a) := by
      intro a
      induction a with
      | zero => exact Nat.le_refl _
      | succ a ih2 => exact Nat.le_trans ih2 (Nat.le_add_right _ _)
    have hm := hmono k
    rw [show j + 1 + k = vO V by omega, show sN r (j + 1) = sN r j + r j from rfl] at hm
    unfold p_X13_isAtRest_7
    rw [hv.1, if_neg (nI_ge (by omega) (by omega)), if_pos (ix_nI (by omega) (by decide)), cl_nI (by omega), hg j (by omega), pk_sub (by omega), nI_1, Nat.sub_sub]
    exact hi
theorem m_isAtRest {O : Nat} {gvm : TM} {g : TGr} {V : MV} {D : MD} (hv : VM gvm V) (ho : OD O D) (hov : OV V) {r : Nat → Nat} (hg : ∀ i, i < vO V → g.1 i = nI (r i)) (hb : NB g.2.2 V D) (hr : RW V r) : p_X13_isAtRest gvm g = some (if ra (okO V D (sN (vG V) (vO V)) (sN r 5) r) (vO V) = true then 1 else 0) := by
  have h5 := hov.1
  have hrb := RW_b hov hr
  have hcut : sN r (vO V) = sN r 5 := by
    have h0 : ∀ i, vO V ≤ i → r i = 0 := fun i hi => by
      have := hr i
      have e : lim V i = 0 := by unfold lim; rw [if_neg (by omega)]
      omega
    have := sN_tail h0 (5 - vO V)
    rw [show vO V + (5 - vO V) = 5 by omega] at this
    exact this.symm
  unfold p_X13_isAtRest
  rw [m_all hv hov, some_bind']
  have h7 := m_rest_7 hv hov hg hr (vO V) 0 fu (by omega) (fu_lt (by omega)) (by rw [hcut]; exact hrb.1)
  rw [hcut] at h7
  exact h7.trans (m_rest_32 hv ho hov hg hb hr (vO V) 0 fu (by omega) (fu_lt (by omega)) rfl)
-- the next row
def nx (l r : Nat → Nat) : Nat → Option (Nat → Nat)
  | 0 => none
  | j + 1 => if r j < l j then some (fun i => if i < j then r i else if i = j then r j + 1 else 0) else nx l r j
theorem nx_some {l r r' : Nat → Nat} : ∀ j, nx l r j = some r' → ∃ p, p < j ∧ r p < l p ∧ r' = fun i => if i < p then r i else if i = p then r p + 1 else 0 := by
  intro j
  induction j with
  | zero => intro h; cases h
  | succ j ih =>
    intro h
    unfold nx at h
    by_cases hc : r j < l j
    · rw [if_pos hc] at h; exact ⟨j, by omega, hc, (Option.some.inj h).symm⟩
    · rw [if_neg hc] at h
      obtain ⟨p, h1, h2, h3⟩ := ih h
      exact ⟨p, by omega, h2, h3⟩
theorem nx_cut {l r : Nat → Nat} {O : Nat} (hl : ∀ i, O ≤ i → l i = 0) : ∀ k, nx l r (O + k) = nx l r O := by
  intro k
  induction k with
  | zero => rfl
  | succ k ih =>
    show (if r (O + k) < l (O + k) then _ else nx l r (O + k)) = _
    rw [if_neg (by rw [hl _ (by omega)]; omega), ih]
def rk (r : Nat → Nat) : Nat := r 0 * 1296 + r 1 * 216 + r 2 * 36 + r 3 * 6 + r 4
theorem nx_rk {l r r' : Nat → Nat} (hl : ∀ i, l i ≤ 5) (hr : ∀ i, r i ≤ l i) (h : nx l r 5 = some r') : rk r < rk r' ∧ ∀ i, r' i ≤ l i := by
  obtain ⟨p, h1, h2, h3⟩ := nx_some 5 h
  have a0 := hr 0
  have a1 := hr 1
  have a2 := hr 2
  have a3 := hr 3
  have a4 := hr 4
  have b0 := hl 0
  have b1 := hl 1
  have b2 := hl 2
  have b3 := hl 3
  have b4 := hl 4
  constructor
  · unfold rk
    rw [h3]
    have h6 : p = 0 ∨ p = 1 ∨ p = 2 ∨ p = 3 ∨ p = 4 := by omega
    rcases h6 with e | e | e | e | e <;> subst e <;> simp <;> omega
  · intro i
    rw [h3]
    by_cases c1 : i < p
    · simp only [if_pos c1]; exact hr i
    · by_cases c2 : i = p
      · subst c2; simp only [if_neg c1, if_pos]; omega
      · simp only [if_neg c1, if_neg c2]; omega
theorem rk_le {l r : Nat → Nat} (hl : ∀ i, l i ≤ 5) (hr : ∀ i, r i ≤ l i) : rk r ≤ 7775 := by
  have a0 := hr 0
  have a1 := hr 1
  have a2 := hr 2
  have a3 := hr 3
  have a4 := hr 4
  have b0 := hl 0
  have b1 := hl 1
  have b2 := hl 2
  have b3 := hl 3
  have b4 := hl 4
  unfold rk; omega
theorem nI_neg {j : Nat} (h : j = 0) : nI j - 1 < 0 := by subst h; decide
theorem c_next_loop {g : TGm} {l r : Nat → Nat} (hl5 : ∀ i, l i ≤ 5) (hr : ∀ i, r i ≤ l i) (hl : ∀ i, i < 5 → g.2.2.2.1 i = nI (l i)) : ∀ (j n : Nat) (f : TA), j ≤ 5 → j < n → (∀ i, i < j → f i = nI (r i)) → (∀ i, j ≤ i → i < 5 → f i = nI 0) → ∃ f', p_X5_toNextRow_2 n (g.1, g.2.1, g.2.2.1, g.2.2.2.1, f, g.2.2.2.2.2) (nI j - 1) = some ((if (nx l r j).isSome then 1 else 0), (g.1, g.2.1, g.2.2.1, g.2.2.2.1, f', g.2.2.2.2.2)) ∧ ∀ r', nx l r j = some r' → ∀ i, i < 5 → f' i = nI (r' i) := by
  intro j
  induction j with
  | zero =>
    intro n f hj hn h1 h2
    obtain ⟨n, rfl⟩ : ∃ m, n = m + 1 := ⟨n - 1, by omega⟩
    refine ⟨f, ?_, fun r' h => by cases h⟩
    unfold p_X5_toNextRow_2
    rw [if_pos (nI_neg rfl)]; rfl
  | succ j ih =>
    intro n f hj hn h1 h2
    obtain ⟨n, rfl⟩ : ∃ m, n = m + 1 := ⟨n - 1, by omega⟩
    have a := hr j
    have b := hl5 j
    unfold p_X5_toNextRow_2
    rw [pred_nI (by omega), Nat.add_sub_cancel, if_neg (nI_pos (by omega)), if_pos (ix_nI (by omega) (by decide)), if_pos (ix_nI (by omega) (by decide)), if_pos (ix_nI (by omega) (by decide)), if_pos (ix_nI (by omega) (by decide)), if_pos (ix_nI (by omega) (by decide)), cl_nI (by omega)]
    simp only []
    rw [hl j (by omega), h1 j (by omega)]
    by_cases hc : r j < l j
    · rw [if_neg (nI_ge hc (by omega)), nI_1]
      have hx : nx l r (j + 1) = some (fun i => if i < j then r i else if i = j then r j + 1 else 0) := if_pos hc
      rw [hx]
      refine ⟨_, rfl, fun r' hr' i hi => ?_⟩
      rw [← Option.some.inj hr']
      by_cases c1 : i = j
      · subst c1; rw [pk_us]; simp
      · rw [pk_un c1]
        by_cases c2 : i < j
        · simp only [if_pos c2]; exact h1 i (by omega)
        · simp only [if_neg c2, if_neg c1]; exact h2 i (by omega) hi
    · rw [if_pos (nI_le (by omega) (by omega))]
      have hx : nx l r (j + 1) = nx l r j := if_neg hc
      rw [hx]
      have := ih n (upd f j 0) (by omega) (by omega) (fun i hi => by rw [pk_un (by omega)]; exact h1 i (by omega)) (fun i hi hi5 => by
        by_cases e : i = j
        · subst e; rw [pk_us]; rfl
        · rw [pk_un e]; exact h2 i (by omega) hi5)
      rw [show nI j - 1 = nI j + -1 from by rw [Int32.sub_eq_add_neg]] at this
      exact this
theorem m_next_loop {gvm : TM} {g : TGr} {V : MV} {r : Nat → Nat} (hv : VM gvm V) (ho : OV V) (hr : RW V r) : ∀ (j n : Nat) (f : TA), j ≤ vO V → j < n → (∀ i, i < j → f i = nI (r i)) → (∀ i, j ≤ i → i < vO V → f i = nI 0) → ∃ f', p_X13_countsUp_7 gvm n (f, g.2) (nI j - 1) = some ((if (nx (lim V) r j).isSome then 1 else 0), (f', g.2)) ∧ ∀ r', nx (lim V) r j = some r' → ∀ i, i < vO V → f' i = nI (r' i) := by
  have h5 := ho.1
  intro j
  induction j with
  | zero =>
    intro n f hj hn h1 h2
    obtain ⟨n, rfl⟩ : ∃ m, n = m + 1 := ⟨n - 1, by omega⟩
    refine ⟨f, ?_, fun r' h => by cases h⟩
    unfold p_X13_countsUp_7 p_X13_countsUp_38 p_X13_countsUp_52
    rw [if_pos (nI_neg rfl), if_pos (nI_neg rfl), if_pos (nI_neg rfl)]; rfl
  | succ j ih =>
    intro n f hj hn h1 h2
    obtain ⟨n, rfl⟩ : ∃ m, n = m + 1 := ⟨n - 1, by omega⟩
    have a := hr j
    have b := (lim_b ho j).1
    unfold p_X13_countsUp_7 p_X13_countsUp_38 p_X13_countsUp_52
    rw [pred_nI (by omega), Nat.add_sub_cancel, if_neg (nI_pos (by omega)), if_neg (nI_pos (by omega)), if_neg (nI_pos (by omega)), if_pos (ix_nI (by omega) (by decide)), if_pos (ix_nI (by omega) (by decide)), if_pos (ix_nI (by omega) (by decide)), if_pos (ix_nI (by omega) (by decide)), m_most hv ho (by omega), some_bind', cl_nI (by omega)]
    simp only []
    rw [h1 j (by omega)]
    by_cases hc : r j < lim V j
    · rw [if_neg (ne_f (by omega) (by omega) (by omega)), nI_1]
      have hx : nx (lim V) r (j + 1) = some (fun i => if i < j then r i else if i = j then r j + 1 else 0) := if_pos hc
      rw [hx]
      refine ⟨_, rfl, fun r' hr' i hi => ?_⟩
      rw [← Option.some.inj hr']
      by_cases c1 : i = j
      · subst c1; rw [pk_us]; simp
      · rw [pk_un c1]
        by_cases c2 : i < j
        · simp only [if_pos c2]; exact h1 i (by omega)
        · simp only [if_neg c2, if_neg c1]; exact h2 i (by omega) hi
    · rw [if_pos (by rw [show r j = lim V j by omega])]
      have hx : nx (lim V) r (j + 1) = nx (lim V) r j := if_neg hc
      rw [hx]
      have := ih n (upd f j 0) (by omega) (by omega) (fun i hi => by rw [pk_un (by omega)]; exact h1 i (by omega)) (fun i hi hi5 => by
        by_cases e : i = j
        · subst e; rw [pk_us]; rfl
        · rw [pk_un e]; exact h2 i (by omega) hi5)
      rw [show nI j - 1 = nI j + -1 from by rw [Int32.sub_eq_add_neg]] at this
      exact this
theorem q_play {O : Nat} {gv : TV} {gne : TN} {gvm : TM} {gla : TA} {V : MV} {D : MD} {x1 : Int32} (h : NE gne D) (ho : OD O D) (hov : OV V) (hv : VM gvm V) : ∀ (k i n m : Nat) (c : Nat) (r : Nat → Nat) (g : TGm) (gr : TGr), rk r + k = 7775 → k < n → k < m → i ≤ rk r → c ≤ i → GM g V D (sN (vG V) (vO V)) r → RW V r → (∀ i, i < vO V → gr.1 i = nI (r i)) → NB gr.2.2 V D → g.1 = nI c → (c ≠ 0 → ∀ i, i < vO V → g.2.2.2.2.2.1 i = gr.2.1 i) → ∃ (c' : Nat) (g' : TGm) (gr' : TGr), p_X5_play_13 gv gne n g (nI i) = some g' ∧ p_X13_rests_98 gvm (m + 1) 0 gla gr x1 (nI c) 1 = p_X13_rests_98 gvm 1 0 gla gr' x1 (nI c') 0 ∧ c' ≤ 7776 ∧ g'.1 = nI c' ∧ (c' ≠ 0 → ∀ i, i < vO V → g'.2.2.2.2.2.1 i = gr'.2.1 i) := by
  have h5 := hov.1
  have hlim : ∀ i, lim V i ≤ 5 := fun i => (lim_b hov i).1
  have hl0 : ∀ i, vO V ≤ i → lim V i = 0 := fun i hi => by unfold lim; rw [if_neg (by omega)]
  intro k
  induction k using Nat.strongRecOn with
  | ind k ih =>
    intro i n m c r g gr hk hn hm hi hc hg hr hgr hb hgc hff
    obtain ⟨n, rfl⟩ : ∃ a, n = a + 1 := ⟨n - 1, by omega⟩
    have hrk := rk_le hlim hr
    -- behind the count
    have next : ∀ (c2 : Nat) (g2 : TGm) (gr2 : TGr), c2 ≤ i + 1 → GM g2 V D (sN (vG V) (vO V)) r → (∀ i, i < vO V → gr2.1 i = nI (r i)) → NB gr2.2.2 V D → g2.1 = nI c2 → (c2 ≠ 0 → ∀ i, i < vO V → g2.2.2.2.2.2.1 i = gr2.2.1 i) → ∃ (c' : Nat) (g' : TGm) (gr' : TGr), p_X5_play_59 (p_X5_play_13 gv gne n) gv gne g2 (nI i) = some g' ∧ p_X13_rests_128 (p_X13_rests_98 gvm m) gvm 0 gla gr2 x1 (nI c2) = p_X13_rests_98 gvm 1 0 gla gr' x1 (nI c') 0 ∧ c' ≤ 7776 ∧ g'.1 = nI c' ∧ (c' ≠ 0 → ∀ i, i < vO V → g'.2.2.2.2.2.1 i = gr'.2.1 i) := by
      intro c2 g2 gr2 hc2 hg2 hgr2 hb2 hgc2 hff2
      obtain ⟨f, a1, a2⟩ := c_next_loop (g := g2) hlim hr (fun i hi => (hg2.2.2.1 i hi).1) 5 fu g2.2.2.2.2.1 (by omega) (fu_lt (by decide)) (fun i hi => (hg2.2.2.1 i hi).2) (fun i hi hi2 => absurd hi (by omega))
      have a1 : p_X5_toNextRow g2 = _ := a1
      obtain ⟨f', b1, b2⟩ := m_next_loop (g := gr2) hv hov hr (vO V) fu gr2.1 (by omega) (fu_lt (by omega)) hgr2 (fun i hi hi2 => absurd hi (by omega))
      have hcut := nx_cut (r := r) hl0 (5 - vO V)
      rw [show vO V + (5 - vO V) = 5 by omega] at hcut
      unfold p_X5_play_59 p_X13_rests_128 p_X13_countsUp
      rw [a1, some_bind', hv.1, show (gr2.1, gr2.2) = gr2 from rfl] at *
      rw [b1, some_bind', hcut]
      cases hx : nx (lim V) r (vO V) with
      | none =>
        rw [show (if (Option.isSome (none : Option (Nat → Nat))) = true then (1 : Int32) else 0) = 0 from rfl, if_pos rfl]
        refine ⟨c2, _, (f', gr2.2), rfl, ?_, by omega, hgc2, fun h0 => hff2 h0⟩
        obtain ⟨m, rfl⟩ : ∃ a, m = a + 1 := ⟨m - 1, by omega⟩
        unfold p_X13_rests_98
        rw [if_pos rfl, if_pos rfl]
      | some r' =>
        rw [show (if (Option.isSome (some r')) = true then (1 : Int32) else 0) = 1 from rfl, if_neg n10, nI_1]
        have hx5 : nx (lim V) r 5 = some r' := hcut.trans hx
        have hrk2 := nx_rk hlim hr hx5
        have hrk3 := rk_le hlim hrk2.2
        obtain ⟨m, rfl⟩ : ∃ a, m = a + 1 := ⟨m - 1, by omega⟩
        exact ih (7775 - rk r') (by omega) (i + 1) n m c2 r' _ _ (by omega) (by omega) (by omega) (by omega) (by omega) ⟨hg2.1, hg2.2.1, fun i hi => ⟨(hg2.2.2.1 i hi).1, a2 r' hx5 i hi⟩, hg2.2.2.2⟩ hrk2.2 (b2 r' hx) hb2 hgc2 hff2
    unfold p_X5_play_13
    rw [if_neg (le_f (c := 7776) (by omega) (by decide)), c_rowRests h ho hov hg hr, some_bind']
    conv => rhs; intro c'; rhs; intro g'; rhs; intro gr'; rhs; lhs; lhs; unfold p_X13_rests_98
    rw [if_neg n10, m_isAtRest hv ho hov hgr hb hr, some_bind', hgc]
    by_cases hra : ra (okO V D (sN (vG V) (vO V)) (sN r 5) r) (vO V) = true
    · rw [if_pos hra, if_neg n10, if_neg n10]
      unfold p_X5_play_49 p_X13_rests_125
      by_cases h0 : c = 0
      · obtain ⟨f, f1, f2⟩ := m_copies (n := 5) (by decide) gr.1 gr.2.1
        rw [if_pos (eq_t (c := 0) h0), if_pos (eq_t (c := 0) h0), f1, some_bind', nI_1]
        refine next (c + 1) _ _ (by omega) ⟨hg.1, hg.2.1, hg.2.2.1, hg.2.2.2⟩ hgr hb rfl (fun _ i hi => ?_)
        show va_cpy _ _ 0 0 5 i = f i
        rw [cpy0 _ _ _ _ (by omega), f2 i (by omega), hgr i hi, (hg.2.2.1 i (by omega)).2]
      · rw [if_neg (eq_f (c := 0) h0 (by omega) (by decide)), if_neg (eq_f (c := 0) h0 (by omega) (by decide)), nI_1, hgc, nI_1]
        exact next (c + 1) _ _ (by omega) ⟨hg.1, hg.2.1, hg.2.2.1, hg.2.2.2⟩ hgr hb rfl (fun _ => hff h0)
    · rw [if_neg hra, if_pos rfl, if_pos rfl]
      exact next c g gr (by omega) hg hgr hb hgc hff
theorem m_rests_36 {O : Nat} {gvm : TM} {gla : TA} {D : MD} {x1 : Int32} {k26 : Int32 → TA → TGr → Int32 → Int32 → Option (Int32 × Int32 × TA × TGr)} (h : DM gvm D) (hl : LA gla D) (ho : OD O D) (hO : O ≤ 5) {o : Nat} (hq : o < 5) : ∀ (k j n : Nat) (g : TGr), j + k = 41 → k < n → (∀ b, b < j → g.2.2 (42 * o + b) = iI (nO D o b)) → ∃ f, p_X13_rests_36 k26 gvm n 0 gla g x1 (nI o) (nI j) = k26 0 gla (g.1, g.2.1, f) x1 (nI (o + 1)) ∧ (∀ q, q < 42 * o → f q = g.2.2 q) ∧ ∀ b, b ≤ 40 → f (42 * o + b) = iI (nO D o b) := by
  intro k
  induction k with
  | zero =>
    intro j n g hj hn hg
    obtain ⟨n, rfl⟩ : ∃ m, n = m + 1 := ⟨n - 1, by omega⟩
    have hj : j = 41 := by omega
    subst hj
    refine ⟨g.2.2, ?_, fun _ _ => rfl, fun b hb => hg b (by omega)⟩
    unfold p_X13_rests_36
    rw [if_pos (lt_t (c := 40) (by decide) (by decide)), nI_1]
  | succ k ih =>
    intro j n g hj hn hg
    obtain ⟨n, rfl⟩ : ∃ m, n = m + 1 := ⟨n - 1, by omega⟩
    obtain ⟨f, a1, a2, a3⟩ := ih (j + 1) n (g.1, g.2.1, upd g.2.2 (42 * o + j) (iI (nO D o j))) (by omega) (by omega) (fun b hb => by
      by_cases e : b = j
      · subst e; exact pk_us
      · exact (pk_un (by omega)).trans (hg b (by omega)))
    refine ⟨f, ?_, fun q hq2 => (a2 q hq2).trans (pk_un (by omega)), a3⟩
    unfold p_X13_rests_36
    rw [if_neg (lt_f (c := 40) (by omega) (by decide)), m_net h hl ho hO hq (by omega), some_bind', show (42 : Int32) = nI 42 from rfl, pk_mul, nI_add, if_pos (ix_nI (by omega) (by decide)), cl_nI (by omega), nI_1]
    exact a1
theorem m_rests_26 {gvm : TM} {gla : TA} {V : MV} {D : MD} {x1 : Int32} (hv : VM gvm V) (hov : OV V) (h : DM gvm D) (hl : LA gla D) (ho : OD (vO V) D) : ∀ (k o n : Nat) (g : TGr), o + k = vO V → k < n → (∀ i, i < o → ∀ b, b ≤ 40 → g.2.2 (42 * i + b) = iI (nO D i b)) → ∃ f, p_X13_rests_26 gvm n 0 gla g x1 (nI o) = p_X13_rests_73 gvm fu 0 gla (g.1, g.2.1, f) x1 0 ∧ NB f V D := by
  have h5 := hov.1
  intro k
  induction k with
  | zero =>
    intro o n g hj hn hg
    obtain ⟨n, rfl⟩ : ∃ m, n = m + 1 := ⟨n - 1, by omega⟩
    have hj : o = vO V := by omega
    subst hj
    refine ⟨g.2.2, ?_, hg⟩
    unfold p_X13_rests_26
    rw [hv.1, if_pos (nI_le (Nat.le_refl _) (by omega))]
  | succ k ih =>
    intro o n g hj hn hg
    obtain ⟨n, rfl⟩ : ∃ m, n = m + 1 := ⟨n - 1, by omega⟩
    obtain ⟨f1, a1, a2, a3⟩ := m_rests_36 (x1 := x1) (k26 := p_X13_rests_26 gvm n) h hl ho h5 (show o < 5 by omega) 41 0 fu g (by omega) (fu_lt (by decide)) (fun b hb => absurd hb (by omega))
    obtain ⟨f, b1, b2⟩ := ih (o + 1) n (g.1, g.2.1, f1) (by omega) (by omega) (fun i hi b hb => by
      by_cases e : i = o
      · subst e; exact a3 b hb
      · exact (a2 _ (by omega)).trans (hg i (by omega) b hb))
    refine ⟨f, ?_, b2⟩
    unfold p_X13_rests_26
    rw [hv.1, if_neg (nI_ge (by omega) (by omega))]
    exact a1.trans b1
theorem m_rests_73 {gvm : TM} {gla : TA} {V : MV} {x1 : Int32} (hv : VM gvm V) (hov : OV V) : ∀ (k o n : Nat) (g : TGr), o + k = vO V → k < n → (∀ i, i < o → g.1 i = nI 0) → ∃ f, p_X13_rests_73 gvm n 0 gla g x1 (nI o) = p_X13_rests_98 gvm fu 0 gla (f, g.2) x1 0 1 ∧ ∀ i, i < vO V → f i = nI 0 := by
  have h5 := hov.1
  intro k
  induction k with
  | zero =>
    intro o n g hj hn hg
    obtain ⟨n, rfl⟩ : ∃ m, n = m + 1 := ⟨n - 1, by omega⟩
    have hj : o = vO V := by omega
    subst hj
    refine ⟨g.1, ?_, hg⟩
    unfold p_X13_rests_73
    rw [hv.1, if_pos (nI_le (Nat.le_refl _) (by omega))]
  | succ k ih =>
    intro o n g hj hn hg
    obtain ⟨n, rfl⟩ : ∃ m, n = m + 1 := ⟨n - 1, by omega⟩
    obtain ⟨f, b1, b2⟩ := ih (o + 1) n (upd g.1 o 0, g.2) (by omega) (by omega) (fun i hi => by
      by_cases e : i = o
      · subst e; exact pk_us
      · exact (pk_un e).trans (hg i (by omega)))
    refine ⟨f, ?_, b2⟩
    unfold p_X13_rests_73
    rw [hv.1, if_neg (nI_ge (by omega) (by omega)), if_pos (ix_nI (by omega) (by decide)), cl_nI (by omega), nI_1]
    exact b1
theorem q_rests {gvn : TV} {gdn : TD} {gcn : TR} {gvm : TM} {grc : TRm} {S : MS} (hc : CS gvn gdn gcn S) (hr : RS gvm grc S) (ho : OS S) (gth x1 : Int32) (gne : TN) (ggm : TGm) (gla : TA) (ggr : TGr) : ∃ v gne' ggm' r t la ggr', p_X12_rests gvn gdn gne ggm x1 = some (v, gne', ggm') ∧ p_X13_rests gth gvm gla ggr x1 = some (r, t, la, ggr') ∧ Ag1 1 v r t := by
  have h5 := ho.1.1
  unfold p_X12_rests p_X13_rests
  have main : (x1 = -1 ∨ ∃ o, o < vO S.1 ∧ x1 = nI o) → ∃ v gne' ggm' r t la ggr', p_X12_rests_10 gvn gdn gne ggm x1 = some (v, gne', ggm') ∧ p_X13_rests_20 gvm 0 gla ggr x1 = some (r, t, la, ggr') ∧ Ag1 1 v r t := by
    intro hx
    obtain ⟨g', f1, f2⟩ := c_fill hc.2.1 ho.2.1 h5 gne
    obtain ⟨la, l1, l2⟩ := m_lay hr.2.1 ho.2.1 gla
    obtain ⟨g1, s1, s2⟩ := c_setUp hc.1 f2 ho.2.1 ho.1 ggm
    obtain ⟨f, m1, m2⟩ := m_rests_26 (x1 := x1) hr.1 ho.1 hr.2.1 l2 ho.2.1 (vO S.1) 0 fu ggr (by omega) (fu_lt (by omega)) (fun i hi => absurd hi (by omega))
    obtain ⟨z, m3, m4⟩ := m_rests_73 (gla := la) (x1 := x1) hr.1 ho.1 (vO S.1) 0 fu (ggr.1, ggr.2.1, f) (by omega) (fu_lt (by omega)) (fun i hi => absurd hi (by omega))
    have m1 : p_X13_rests_26 gvm fu 0 la ggr x1 0 = _ := m1
    have m3 : p_X13_rests_73 gvm fu 0 la (ggr.1, ggr.2.1, f) x1 0 = _ := m3
    obtain ⟨c, gF, gR, a1, a2, a3, a4, a5⟩ := q_play (gv := gvn) (gla := la) (x1 := x1) f2 ho.2.1 ho.1 hr.1 7775 0 fu 999999 0 (fun _ => 0) (0, g1.2) (z, ggr.2.1, f) (by decide) (fu_lt (by decide)) (by decide) (by omega) (by omega) ⟨s2.1, s2.2.1, s2.2.2.1, s2.2.2.2⟩ (fun i => Nat.zero_le _) m4 m2 rfl (fun h => absurd rfl h)
    have a1 : p_X5_play_13 gvn g' fu (0, g1.2) 0 = some gF := a1
    have a2 : p_X13_rests_98 gvm fu 0 la (z, ggr.2.1, f) x1 0 1 = _ := a2
    unfold p_X12_rests_10 p_X13_rests_20 p_X5_play
    rw [f1, some_bind', s1, some_bind', a1, some_bind', l1, some_bind', m1, m3, a2]
    unfold p_X13_rests_98 p_X13_rests_153
    rw [if_pos rfl, a4]
    rcases hx with hx | ⟨o, hoo, hx⟩
    · rw [if_pos hx, if_pos hx]
      exact ⟨_, _, _, _, _, _, _, rfl, rfl, Or.inl ⟨rfl, rfl⟩⟩
    · have hne : ¬ x1 = -1 := by
        rw [hx]; intro e
        have e2 := congrArg Int32.toInt e
        rw [nI_toInt (by omega)] at e2
        have h1 : (-1 : Int32).toInt = -1 := by decide
        omega
      rw [if_neg hne, if_neg hne]
      by_cases h0 : c = 0
      · rw [if_pos (eq_t (c := 0) h0), if_pos (ler_t (c := 0) (by omega) (by decide))]
        exact ⟨_, _, _, _, _, _, _, rfl, rfl, Or.inr ⟨rfl, rfl⟩⟩
      · rw [if_neg (eq_f (c := 0) h0 (by omega) (by decide)), if_neg (ler_f (c := 0) (by omega) (by omega)), show p_X13_right 0 1 1 = some (1, 0) from rfl, some_bind', if_neg n10]
        unfold p_X5_firstOf
        rw [hx, if_neg (nI_pos (by omega)), if_neg (le_f (c := 5) (by omega) (by decide)), if_pos (ix_nI (by omega) (by decide)), if_pos (ix_nI (by omega) (by decide)), cl_nI (by omega), some_bind']
        exact ⟨_, _, _, _, _, _, _, rfl, rfl, Or.inl ⟨congrArg Sum.inl (a5 h0 o hoo), rfl⟩⟩
  by_cases h1 : x1 = -1
  · rw [if_pos h1, if_pos h1]; exact main (Or.inl h1)
  · rw [if_neg h1, if_neg h1]
    rcases g_owner hc.1 hr.1 ho.1 x1 with ⟨o, hoo, rfl, e1, e2⟩ | ⟨e1, e2⟩
    · rw [e1, some_bind', xb_l, e2, some_bind', if_neg n10]
      exact main (Or.inr ⟨o, hoo, rfl⟩)
    · rw [e1, e2]; exact ⟨_, _, _, _, _, _, _, rfl, rfl, Or.inr ⟨rfl, rfl⟩⟩
