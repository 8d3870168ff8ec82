-- safer
def withQ (D : MD) (Q : Nat → Nat) : MD := (D.1, D.2.1, D.2.2.1, D.2.2.2.1, D.2.2.2.2.1, Q)
theorem sZ_1 {f g : Nat → Int} {d : Nat} (h : ∀ i, i ≠ d → g i = f i) : ∀ n, sZ g n = sZ f n + (if d < n then g d - f d else 0) := by
  intro n
  induction n with
  | zero => rw [if_neg (by omega)]; rfl
  | succ n ih =>
    simp only [sZ]
    rw [ih]
    by_cases e : n = d
    · subst e; rw [if_neg (by omega), if_pos (by omega)]; omega
    · rw [h n e]
      by_cases e2 : d < n
      · rw [if_pos e2, if_pos (by omega)]; omega
      · rw [if_neg e2, if_neg (by omega)]; omega
theorem sZ_2 {f g : Nat → Int} {d e : Nat} (hd : d < 10) (he : e < 10) (hde : d ≠ e) (h : ∀ i, i ≠ d → i ≠ e → g i = f i) : sZ g 10 = sZ f 10 + (g d - f d) + (g e - f e) := by
  have h1 := sZ_1 (f := f) (g := fun i => if i = d then g d else f i) (d := d) (fun i hi => if_neg hi) 10
  have h2 := sZ_1 (f := fun i => if i = d then g d else f i) (g := g) (d := e) (fun i hi => by
    by_cases c : i = d
    · rw [c]; simp
    · simp only [if_neg c]; exact h i c hi) 10
  rw [if_pos hd] at h1
  rw [if_pos he] at h2
  simp only [if_pos] at h1
  simp only [if_neg (Ne.symm hde)] at h2
  rw [h2, h1]
theorem sZ_3 {f g : Nat → Int} {d e c : Nat} (hd : d < 10) (he : e < 10) (hc : c < 10) (hde : d ≠ e) (hdc : d ≠ c) (hec : e ≠ c) (h : ∀ i, i ≠ d → i ≠ e → i ≠ c → g i = f i) : sZ g 10 = sZ f 10 + (g d - f d) + (g e - f e) + (g c - f c) := by
  have h1 := sZ_2 (f := f) (g := fun i => if i = c then f c else g i) hd he hde (fun i hi hi2 => by
    by_cases q : i = c
    · rw [q]; simp
    · simp only [if_neg q]; exact h i hi hi2 q)
  have h2 := sZ_1 (f := fun i => if i = c then f c else g i) (g := g) (d := c) (fun i hi => by simp only [if_neg hi]) 10
  rw [if_pos hc] at h2
  simp only [if_neg hdc, if_neg hec] at h1
  simp only [if_pos] at h2
  rw [h2, h1]
/-- the nets, were one door gone and another come -/
def nW (D : MD) (o gone come b : Nat) : Int := nO D o b - dW D gone b + dW D come b
theorem nW_b {O : Nat} {D : MD} (ho : OD O D) (o : Nat) {gone come b : Nat} (hg : gone < 10) (hc : come < 10) (hb : b ≤ 40) : -2000000000 ≤ nW D o gone come b ∧ nW D o gone come b ≤ 2000000000 := by
  have h1 := nO_b ho o hb
  have h2 := dW_40 ho hg hb
  have h3 := dW_40 ho hc hb
  unfold nW; omega
theorem withQ_2 {D : MD} {Q : Nat → Nat} {d e : Nat} (hd : d < 10) (he : e < 10) (hhd : dH D d = true) (hhe : dH D e = true) (hde : d ≠ e) (hq : dQ D d ≠ dQ D e) (h : ∀ i, i ≠ d → i ≠ e → Q i = dQ D i) (hQd : Q d = dQ D e) (hQe : Q e = dQ D d) (b : Nat) : nO (withQ D Q) (dQ D d) b = nW D (dQ D d) d e b := by
  have hs := sZ_2 (f := tF D (dQ D d) b) (g := tF (withQ D Q) (dQ D d) b) hd he hde (fun i hi hi2 => by
    show (if dH D i = true ∧ Q i = dQ D d then (dW D i b : Int) else 0) = _
    rw [h i hi hi2]; rfl)
  have g1 : tF (withQ D Q) (dQ D d) b d = 0 := if_neg (fun c => hq ((show Q d = dQ D d from c.2).symm.trans hQd))
  have g2 : tF (withQ D Q) (dQ D d) b e = (dW D e b : Int) := if_pos ⟨hhe, hQe⟩
  have f1 : tF D (dQ D d) b d = (dW D d b : Int) := if_pos ⟨hhd, rfl⟩
  have f2 : tF D (dQ D d) b e = 0 := if_neg (fun c => hq c.2.symm)
  unfold nO nW tO bO
  have hb : sZ (bF (withQ D Q) (dQ D d) b) 10 = sZ (bF D (dQ D d) b) 10 := rfl
  rw [hs, g1, g2, f1, f2, hb]
  unfold nO tO bO
  omega
theorem withQ_3 {D : MD} {Q : Nat → Nat} {d e c : Nat} (hd : d < 10) (he : e < 10) (hc : c < 10) (hhd : dH D d = true) (hhc : dH D c = true) (hde : d ≠ e) (hdc : d ≠ c) (hec : e ≠ c) (hq1 : dQ D d ≠ dQ D e) (hq2 : dQ D e ≠ dQ D c) (hq3 : dQ D c ≠ dQ D d) (h : ∀ i, i ≠ d → i ≠ e → i ≠ c → Q i = dQ D i) (hQd : Q d = dQ D e) (hQe : Q e = dQ D c) (hQc : Q c = dQ D d) (b : Nat) : nO (withQ D Q) (dQ D d) b = nW D (dQ D d) d c b := by
  have hs := sZ_3 (f := tF D (dQ D d) b) (g := tF (withQ D Q) (dQ D d) b) hd he hc hde hdc hec (fun i hi hi2 hi3 => by
    show (if dH D i = true ∧ Q i = dQ D d then (dW D i b : Int) else 0) = _
    rw [h i hi hi2 hi3]; rfl)
  have g1 : tF (withQ D Q) (dQ D d) b d = 0 := if_neg (fun q => hq1 ((show Q d = dQ D d from q.2).symm.trans hQd))
  have g2 : tF (withQ D Q) (dQ D d) b e = 0 := if_neg (fun q => hq3 (hQe.symm.trans (show Q e = dQ D d from q.2)))
  have g3 : tF (withQ D Q) (dQ D d) b c = (dW D c b : Int) := if_pos ⟨hhc, hQc⟩
  have f1 : tF D (dQ D d) b d = (dW D d b : Int) := if_pos ⟨hhd, rfl⟩
  have f2 : tF D (dQ D d) b e = 0 := if_neg (fun q => hq1 q.2.symm)
  have f3 : tF D (dQ D d) b c = 0 := if_neg (fun q => hq3 q.2)
  unfold nO nW tO bO
  have hb : sZ (bF (withQ D Q) (dQ D d) b) 10 = sZ (bF D (dQ D d) b) 10 := rfl
  rw [hs, g1, g2, g3, f1, f2, f3, hb]
  unfold nO tO bO
  omega
theorem spZ_cong {f g : Nat → Int} (a b : Nat) (h : ∀ k, f k = g k) : spZ f a b = spZ g a b := by
  have : f = g := funext h
  rw [this]
theorem spZ_b {f : Nat → Int} {a b : Nat} {c : Int} (hab : a ≤ b) (h : ∀ k, k ≤ b → -c ≤ f k ∧ f k ≤ c) : 0 ≤ spZ f a b ∧ spZ f a b ≤ 2 * c := by
  have h1 := mxZ_b (a := a) h (b - a) (by omega)
  have h2 := mn_le_mx (f := f) (a := a) (b - a)
  unfold spZ; omega
-- the class
def e1 (D : MD) (a b come gone : Nat) : Bool := decide (dP D come ≠ dQ D gone ∧ spZ (nW D (dQ D gone) gone come) a b < spZ (nO D (dQ D gone)) a b)
theorem c_eases {O : Nat} {gd : TD} {gne : TN} {D : MD} (h : DC gd D) (hn : NE gne D) (ho : OD O D) (hO : O ≤ 5) {a b come gone : Nat} (hab : a ≤ b) (hb : b ≤ 40) (hc : come < 10) (hg : gone < 10) (hhc : dH D come = true) (hhg : dH D gone = true) : p_X12_eases gd gne (nI come) (nI gone) (nI a) (nI b) = some (if e1 D a b come gone = true then 1 else 0) := by
  have o1 := ho.2.2 come hc hhc
  have o2 := ho.2.2 gone hg hhg
  have b1 := spZ_b (f := nW D (dQ D gone) gone come) (c := 2000000000) hab (fun k hk => nW_b ho _ hg hc (by omega))
  have b2 := spZ_b (f := nO D (dQ D gone)) (c := 1024000000) hab (fun k hk => nO_b ho _ (by omega))
  unfold p_X12_eases e1
  rw [c_lend h ho.2.1 hg, some_bind', c_deb h ho.2.1 hc, some_bind', if_pos hhg, if_pos hhc]
  by_cases hp : dP D come = dQ D gone
  · rw [if_pos (by rw [hp]), decide_eq_false (fun c => c.1 hp), if_neg (by decide)]
  · rw [if_neg (ne_f hp (by omega) (by omega)), c_spanWith (f := nW D (dQ D gone) gone come) hab hb (fun k _ hk => by
      unfold p_X6_netWith nW
      rw [c_netIn hn (by omega) (by omega), some_bind', c_worthOf hn hg (by omega), some_bind', c_worthOf hn hc (by omega), some_bind', nI_lz (dW_i ho hg (by omega)), nI_lz (dW_i ho hc (by omega)), iL_sub, iL_add]) (fun k hk => by have := nW_b ho (dQ D gone) hg hc (b := k) (by omega); omega), some_bind', c_spanOf hn ho (by omega) hab hb, some_bind']
    by_cases hs : spZ (nW D (dQ D gone) gone come) a b < spZ (nO D (dQ D gone)) a b
    · rw [if_neg (fun e => by rw [lg_cmp_ge, iL_le (by omega) (by omega) (by omega) (by omega)] at e; omega), decide_eq_true ⟨hp, hs⟩, if_pos rfl]
    · rw [if_pos ((lg_cmp_ge _ _).2 ((iL_le (by omega) (by omega) (by omega) (by omega)).2 (by omega))), decide_eq_false (fun c => hs c.2), if_neg (by decide)]
def ap (D : MD) (d e : Nat) : Bool := dH D d && (dH D e && decide (dQ D d ≠ dQ D e))
theorem c_apart {O : Nat} {gd : TD} {D : MD} (h : DC gd D) (ho : OD O D) (hO : O ≤ 5) {d e : Nat} (hd : d < 10) (he : e < 10) : p_X12_areOwedApart gd (nI d) (nI e) = some (if ap D d e = true then 1 else 0) := by
  unfold p_X12_areOwedApart ap
  rw [c_has h ho.2.1 hd, some_bind', c_has h ho.2.1 he, some_bind', c_lend h ho.2.1 hd, some_bind', c_lend h ho.2.1 he, some_bind']
  by_cases hhd : dH D d = true
  · have o1 := ho.2.2 d hd hhd
    rw [if_pos hhd, if_neg n10, hhd]
    by_cases hhe : dH D e = true
    · have o2 := ho.2.2 e he hhe
      rw [if_pos hhe, if_neg n10, hhe, if_pos rfl, if_pos rfl]
      by_cases hq : dQ D d = dQ D e
      · rw [if_pos (by rw [hq]), decide_eq_false (fun c => c hq)]; rfl
      · rw [if_neg (ne_f hq (by omega) (by omega)), decide_eq_true hq]; rfl
    · rw [if_neg hhe, if_pos rfl, show dH D e = false from by simpa using hhe]; rfl
  · rw [if_neg hhd, if_pos rfl, show dH D d = false from by simpa using hhd]; rfl
theorem ap_1 {D : MD} {d e : Nat} (h : ap D d e = true) : dH D d = true ∧ dH D e = true ∧ dQ D d ≠ dQ D e := by
  unfold ap at h
  rw [Bool.and_eq_true, Bool.and_eq_true] at h
  exact ⟨h.1, h.2.1, of_decide_eq_true h.2.2⟩
def cp (D : MD) (a b d e : Nat) : Bool := ap D d e && (e1 D a b e d && e1 D a b d e)
def rg (D : MD) (a b d e f : Nat) : Bool := ap D d e && (ap D e f && (ap D f d && (e1 D a b d e && (e1 D a b e f && e1 D a b f d))))
theorem c_couple {O : Nat} {gd : TD} {gne : TN} {D : MD} (h : DC gd D) (hn : NE gne D) (ho : OD O D) (hO : O ≤ 5) {a b d e : Nat} (hab : a ≤ b) (hb : b ≤ 40) (hd : d < 10) (he : e < 10) : p_X12_isSaferCouple gd gne (nI d) (nI e) (nI a) (nI b) = some (if cp D a b d e = true then 1 else 0) := by
  unfold p_X12_isSaferCouple cp
  rw [c_apart h ho hO hd he, some_bind']
  by_cases h1 : ap D d e = true
  · have q := ap_1 h1
    rw [if_pos h1, if_neg n10, h1, c_eases h hn ho hO hab hb he hd q.2.1 q.1, some_bind', c_eases h hn ho hO hab hb hd he q.1 q.2.1, some_bind']
    cases e1 D a b e d <;> cases e1 D a b d e <;> rfl
  · rw [if_neg h1, if_pos rfl, show ap D d e = false from by simpa using h1]; rfl
theorem c_ring {O : Nat} {gd : TD} {gne : TN} {D : MD} (h : DC gd D) (hn : NE gne D) (ho : OD O D) (hO : O ≤ 5) {a b d e f : Nat} (hab : a ≤ b) (hb : b ≤ 40) (hd : d < 10) (he : e < 10) (hf : f < 10) : p_X12_isSaferRing gd gne (nI d) (nI e) (nI f) (nI a) (nI b) = some (if rg D a b d e f = true then 1 else 0) := by
  unfold p_X12_isSaferRing rg
  rw [c_apart h ho hO hd he, some_bind']
  by_cases h1 : ap D d e = true
  · have q := ap_1 h1
    rw [if_pos h1, if_neg n10, h1, c_apart h ho hO he hf, some_bind']
    by_cases h2 : ap D e f = true
    · have q2 := ap_1 h2
      rw [if_pos h2, if_neg n10, h2, c_apart h ho hO hf hd, some_bind']
      by_cases h3 : ap D f d = true
      · rw [if_pos h3, if_neg n10, h3, c_eases h hn ho hO hab hb hd he q.1 q.2.1, some_bind', c_eases h hn ho hO hab hb he hf q.2.1 q2.2.1, some_bind', c_eases h hn ho hO hab hb hf hd q2.2.1 q.1, some_bind']
        cases e1 D a b d e <;> cases e1 D a b e f <;> cases e1 D a b f d <;> rfl
      · rw [if_neg h3, if_pos rfl, show ap D f d = false from by simpa using h3]; rfl
    · rw [if_neg h2, if_pos rfl, show ap D e f = false from by simpa using h2]; rfl
  · rw [if_neg h1, if_pos rfl, show ap D d e = false from by simpa using h1]; rfl
-- the reference
abbrev mTo (g : TM) (t : TA) : TM := (g.1, g.2.1, g.2.2.1, g.2.2.2.1, g.2.2.2.2.1, g.2.2.2.2.2.1, g.2.2.2.2.2.2.1, g.2.2.2.2.2.2.2.1, g.2.2.2.2.2.2.2.2.1, t, g.2.2.2.2.2.2.2.2.2.2)
theorem DM_to {g : TM} {D : MD} (h : DM g D) {t : TA} {Q : Nat → Nat} (ht : ∀ d, d < 10 → dH D d = true → t d = nI (Q d)) : DM (mTo g t) (withQ D Q) :=
  ⟨h.1, fun d hd => ⟨(h.2 d hd).1, fun hh => ⟨((h.2 d hd).2 hh).1, ht d hd hh, ((h.2 d hd).2 hh).2.2⟩⟩⟩
theorem OD_to {O : Nat} {D : MD} (h : OD O D) {Q : Nat → Nat} (hq : ∀ d, d < 10 → dH D d = true → Q d < O ∧ dP D d ≠ Q d) : OD O (withQ D Q) :=
  ⟨h.1, h.2.1, fun d hd hh => ⟨(h.2.2 d hd hh).1, (h.2.2 d hd hh).2.1, (h.2.2 d hd hh).2.2.1, (h.2.2 d hd hh).2.2.2.1, (hq d hd hh).1, (hq d hd hh).2⟩⟩
theorem m_isLess {O : Nat} {gvm : TM} {gla : TA} {gsp : TA × TA} {D D' : MD} (h : DM gvm D') (hl : LA gla D') (ho : OD O D') (ho2 : OD O D) (hO : O ≤ 5) {o a b : Nat} (hq : o < 5) (hab : a ≤ b) (hb : b ≤ 40) (hs : gsp.1 o = iI (spZ (nO D o) a b)) (gne : TA) : ∃ ne, p_X13_isLess gvm gla gne gsp (nI o) (nI a) (nI b) = some ((if spZ (nO D' o) a b < spZ (nO D o) a b then 1 else 0), ne) := by
  obtain ⟨ne, s1⟩ := m_spanOf h hl ho hO hq hab hb gne
  have b1 := spZ_b (f := nO D' o) (c := 1024000000) hab (fun k hk => nO_b ho _ (by omega))
  have b2 := spZ_b (f := nO D o) (c := 1024000000) hab (fun k hk => nO_b ho2 _ (by omega))
  refine ⟨ne, ?_⟩
  unfold p_X13_isLess p_X13_ahead
  rw [s1, some_bind', if_pos (ix_nI hq (by decide)), cl_nI (by omega), hs, some_bind']
  by_cases hc : spZ (nO D' o) a b < spZ (nO D o) a b
  · rw [if_neg (fun e => by rw [iI_le (by omega) (by omega) (by omega) (by omega)] at e; omega), if_pos hc]
  · rw [if_pos ((iI_le (by omega) (by omega) (by omega) (by omega)).2 (by omega)), if_neg hc]
theorem upd_back2 {f w : TA} {d e : Nat} (hd : w d = f d) (he : w e = f e) (x y : Int32) : upd (upd (upd (upd f d x) e y) d (w d)) e (w e) = f := by
  funext i
  unfold upd
  by_cases c1 : i = e
  · rw [if_pos c1, c1, he]
  · rw [if_neg c1]
    by_cases c2 : i = d
    · rw [if_pos c2, c2, hd]
    · rw [if_neg c2, if_neg c1, if_neg c2]
theorem upd_back3 {f w : TA} {d e c : Nat} (hd : w d = f d) (he : w e = f e) (hc : w c = f c) (x y z : Int32) : upd (upd (upd (upd (upd (upd f d x) e y) c z) d (w d)) e (w e)) c (w c) = f := by
  funext i
  unfold upd
  by_cases c1 : i = c
  · rw [if_pos c1, c1, hc]
  · rw [if_neg c1]
    by_cases c2 : i = e
    · rw [if_pos c2, c2, he]
    · rw [if_neg c2]
      by_cases c3 : i = d
      · rw [if_pos c3, c3, hd]
      · rw [if_neg c3, if_neg c1, if_neg c2, if_neg c3]
/-- the reference's own rows in safer: the spans ahead, and to whom doors are owed -/
def SPm (gsp : TA × TA) (gvm : TM) (O : Nat) (D : MD) (a b : Nat) : Prop := (∀ o, o < O → gsp.1 o = iI (spZ (nO D o) a b)) ∧ ∀ d, d < 10 → gsp.2 d = gvm.2.2.2.2.2.2.2.2.2.1 d
theorem m_two {O : Nat} {gvm : TM} {gla : TA} {gsp : TA × TA} {D : MD} (h : DM gvm D) (hl : LA gla D) (ho : OD O D) (hO : O ≤ 5) {a b d e : Nat} (hs : SPm gsp gvm O D a b) (hab : a ≤ b) (hb : b ≤ 40) (hd : d < 10) (he : e < 10) (hde : d ≠ e) (gne : TA) : ∃ ne, p_X13_saferTwo gvm gla gne gsp (nI d) (nI e) (nI a) (nI b) = some ((if cp D a b d e = true then 1 else 0), gvm, ne) := by
  have hsw : p_X13_isSwap gvm (nI d) (nI e) = some (if dH D d = true ∧ dH D e = true ∧ dP D d ≠ dQ D e ∧ dP D e ≠ dQ D d then 1 else 0) := by
    unfold p_X13_isSwap
    simp only [if_pos (ix_nI hd (show 10 < 2147483648 by decide)), if_pos (ix_nI he (show 10 < 2147483648 by decide)), cl_nI (show d < 2147483648 by omega), cl_nI (show e < 2147483648 by omega), (h.2 d hd).1, (h.2 e he).1]
    by_cases hhd : dH D d = true
    · rw [if_pos ((has1 _).2 hhd)]
      by_cases hhe : dH D e = true
      · have o1 := ho.2.2 d hd hhd
        have o2 := ho.2.2 e he hhe
        have m1 := (h.2 d hd).2 hhd
        have m2 := (h.2 e he).2 hhe
        rw [if_pos ((has1 _).2 hhe), m1.1, m1.2.1, m2.1, m2.2.1]
        by_cases c1 : dP D d = dQ D e
        · rw [if_pos (by rw [c1]), if_neg (fun c => c.2.2.1 c1)]
        · rw [if_neg (ne_f c1 (by omega) (by omega))]
          by_cases c2 : dP D e = dQ D d
          · rw [if_pos (by rw [c2]), if_neg (fun c => c.2.2.2 c2)]
          · rw [if_neg (ne_f c2 (by omega) (by omega)), if_pos ⟨hhd, hhe, c1, c2⟩]
      · rw [if_neg (fun c => hhe ((has1 _).1 c)), if_neg (fun c => hhe c.2.1)]
    · rw [if_neg (fun c => hhd ((has1 _).1 c)), if_neg (fun c => hhd c.1)]
  unfold p_X13_saferTwo
  rw [hsw, some_bind']
  by_cases hc : dH D d = true ∧ dH D e = true ∧ dP D d ≠ dQ D e ∧ dP D e ≠ dQ D d
  · rw [if_pos hc, if_neg n10]
    obtain ⟨hhd, hhe, c1, c2⟩ := hc
    have o1 := ho.2.2 d hd hhd
    have o2 := ho.2.2 e he hhe
    have w1 : gsp.2 d = nI (dQ D d) := (hs.2 d hd).trans ((h.2 d hd).2 hhd).2.1
    have w2 : gsp.2 e = nI (dQ D e) := (hs.2 e he).trans ((h.2 e he).2 hhe).2.1
    have hQ : ∃ Q : Nat → Nat, Q = fun i => if i = e then dQ D d else if i = d then dQ D e else dQ D i := ⟨_, rfl⟩
    obtain ⟨Q, hQ⟩ := hQ
    have Qd : Q d = dQ D e := by rw [hQ]; simp only [if_neg hde, if_pos]
    have Qe : Q e = dQ D d := by rw [hQ]; simp only [if_pos]
    have Qi : ∀ i, i ≠ d → i ≠ e → Q i = dQ D i := fun i hi hi2 => by rw [hQ]; simp only [if_neg hi, if_neg hi2]
    have hD' : DM (mTo gvm (upd (upd gvm.2.2.2.2.2.2.2.2.2.1 d (gsp.2 e)) e (gsp.2 d))) (withQ D Q) := DM_to h (fun i hi hh => by
      by_cases q1 : i = e
      · rw [q1, pk_us, w1, Qe]
      · rw [pk_un q1]
        by_cases q2 : i = d
        · rw [q2, pk_us, w2, Qd]
        · rw [pk_un q2, Qi i q2 q1]; exact ((h.2 i hi).2 hh).2.1)
    have hO' : OD O (withQ D Q) := OD_to ho (fun i hi hh => by
      by_cases q1 : i = e
      · rw [q1, Qe]; exact ⟨o1.2.2.2.2.1, c2⟩
      · by_cases q2 : i = d
        · rw [q2, Qd]; exact ⟨o2.2.2.2.2.1, c1⟩
        · rw [Qi i q2 q1]; exact (ho.2.2 i hi hh).2.2.2.2)
    obtain ⟨n1, l1⟩ := m_isLess (gsp := gsp) hD' hl hO' ho hO (o := dQ D d) (by omega) hab hb (hs.1 _ (by omega)) gne
    obtain ⟨n2, l2⟩ := m_isLess (gsp := gsp) hD' hl hO' ho hO (o := dQ D e) (by omega) hab hb (hs.1 _ (by omega)) n1
    have back : ∀ (v : Int32) (n : TA), isZ v → p_X13_saferTwo_72 gla gsp (mTo gvm (upd (upd gvm.2.2.2.2.2.2.2.2.2.1 d (gsp.2 e)) e (gsp.2 d))) n (nI d) (nI e) v = some (v, gvm, n) := by
      intro v n hv
      unfold p_X13_saferTwo_72
      rw [if_pos (ix_nI hd (by decide)), if_pos (ix_nI hd (by decide)), if_pos (ix_nI he (by decide)), if_pos (ix_nI he (by decide)), if_pos hv, cl_nI (by omega), cl_nI (by omega)]
      simp only [upd_back2 (hs.2 d hd) (hs.2 e he)]
    have hcp : cp D a b d e = (decide (spZ (nO (withQ D Q) (dQ D d)) a b < spZ (nO D (dQ D d)) a b) && decide (spZ (nO (withQ D Q) (dQ D e)) a b < spZ (nO D (dQ D e)) a b)) := by
      by_cases hq : dQ D d = dQ D e
      · have e0 : ap D d e = false := by unfold ap; rw [hhd, hhe, decide_eq_false (fun c => c hq)]; rfl
        have hsame : withQ D Q = D := by
          unfold withQ
          rw [show Q = dQ D from funext fun i => by
            by_cases q1 : i = e
            · rw [q1, Qe, hq]
            · by_cases q2 : i = d
              · rw [q2, Qd, hq]
              · exact Qi i q2 q1]
        unfold cp
        rw [e0, hsame, decide_eq_false (by omega)]; rfl
      · have e0 : ap D d e = true := by unfold ap; rw [hhd, hhe, decide_eq_true hq]; rfl
        unfold cp e1
        rw [e0, Bool.true_and, spZ_cong a b (withQ_2 hd he hhd hhe hde hq Qi Qd Qe), spZ_cong a b (withQ_2 (Q := Q) he hd hhe hhd (Ne.symm hde) (Ne.symm hq) (fun i h1 h2 => Qi i h2 h1) Qe Qd)]
        rw [decide_eq_decide.2 (show (dP D e ≠ dQ D d ∧ spZ (nW D (dQ D d) d e) a b < spZ (nO D (dQ D d)) a b) ↔ spZ (nW D (dQ D d) d e) a b < spZ (nO D (dQ D d)) a b from ⟨fun q => q.2, fun q => ⟨c2, q⟩⟩), decide_eq_decide.2 (show (dP D d ≠ dQ D e ∧ spZ (nW D (dQ D e) e d) a b < spZ (nO D (dQ D e)) a b) ↔ spZ (nW D (dQ D e) e d) a b < spZ (nO D (dQ D e)) a b from ⟨fun q => q.2, fun q => ⟨c1, q⟩⟩)]
    simp only [if_pos (ix_nI hd (show 10 < 2147483648 by decide)), if_pos (ix_nI he (show 10 < 2147483648 by decide)), cl_nI (show d < 2147483648 by omega), cl_nI (show e < 2147483648 by omega)]
    rw [← w1] at l1
    rw [← w2] at l2
    rw [l1, some_bind', hcp]
    unfold p_X13_saferTwo_71
    by_cases s1 : spZ (nO (withQ D Q) (dQ D d)) a b < spZ (nO D (dQ D d)) a b
    · simp only [if_pos s1, if_neg n10]
      rw [l2, some_bind', decide_eq_true s1]
      by_cases s2 : spZ (nO (withQ D Q) (dQ D e)) a b < spZ (nO D (dQ D e)) a b
      · simp only [if_pos s2, if_neg n10]
        rw [decide_eq_true s2]
        exact ⟨n2, back 1 n2 isZ1⟩
      · simp only [if_neg s2]
        rw [decide_eq_false s2]
        exact ⟨n2, back 0 n2 isZ0⟩
    · simp only [if_neg s1]
      rw [decide_eq_false s1]
      exact ⟨n1, back 0 n1 isZ0⟩
  · rw [if_neg hc, if_pos rfl]
    refine ⟨gne, ?_⟩
    rw [if_neg]
    intro hcp
    unfold cp e1 at hcp
    rw [Bool.and_eq_true, Bool.and_eq_true] at hcp
    have q := ap_1 hcp.1
    exact hc ⟨q.1, q.2.1, (of_decide_eq_true hcp.2.2).1, (of_decide_eq_true hcp.2.1).1⟩
