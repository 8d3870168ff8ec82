theorem m_three {O : Nat} {gvm : TM} {gla : TA} {gsp : TA × TA} {D : MD} (h : DM gvm D) (hl : LA gla D) (ho : OD O D) (hO : O ≤ 5) {a b d e f : Nat} (hs : SPm gsp gvm O D a b) (hab : a ≤ b) (hb : b ≤ 40) (hd : d < 10) (he : e < 10) (hf : f < 10) (hde : d ≠ e) (hdf : d ≠ f) (hef : e ≠ f) (gne : TA) : ∃ ne, p_X13_saferThree gvm gla gne gsp (nI d) (nI e) (nI f) (nI a) (nI b) = some ((if rg D a b d e f = true then 1 else 0), gvm, ne) := by
  unfold p_X13_saferThree
  simp only [if_pos (ix_nI hd (show 10 < 2147483648 by decide)), if_pos (ix_nI he (show 10 < 2147483648 by decide)), if_pos (ix_nI hf (show 10 < 2147483648 by decide)), cl_nI (show d < 2147483648 by omega), cl_nI (show e < 2147483648 by omega), cl_nI (show f < 2147483648 by omega), (h.2 d hd).1, (h.2 e he).1, (h.2 f hf).1]
  have no : rg D a b d e f = false → ∃ ne, some ((0 : Int32), gvm, gne) = some ((if rg D a b d e f = true then (1 : Int32) else 0), gvm, ne) := fun q => ⟨gne, by rw [q]; rfl⟩
  by_cases hhd : dH D d = true
  · rw [if_neg (fun c => by rw [(has0 _).1 c] at hhd; exact absurd hhd (by decide))]
    by_cases hhe : dH D e = true
    · rw [if_neg (fun c => by rw [(has0 _).1 c] at hhe; exact absurd hhe (by decide))]
      by_cases hhf : dH D f = true
      · rw [if_neg (fun c => by rw [(has0 _).1 c] at hhf; exact absurd hhf (by decide))]
        have o1 := ho.2.2 d hd hhd
        have o2 := ho.2.2 e he hhe
        have o3 := ho.2.2 f hf hhf
        have m1 := (h.2 d hd).2 hhd
        have m2 := (h.2 e he).2 hhe
        have m3 := (h.2 f hf).2 hhf
        simp only [m1.1, m1.2.1, m2.1, m2.2.1, m3.1, m3.2.1]
        by_cases q1 : dQ D d = dQ D e
        · rw [if_pos (by rw [q1])]; exact no (by unfold rg ap; rw [hhd, hhe, decide_eq_false (fun c => c q1)]; rfl)
        · rw [if_neg (ne_f q1 (by omega) (by omega))]
          have a1 : ap D d e = true := by unfold ap; rw [hhd, hhe, decide_eq_true q1]; rfl
          by_cases q2 : dQ D e = dQ D f
          · rw [if_pos (by rw [q2])]; exact no (by unfold rg; rw [a1]; unfold ap; rw [hhe, hhf, decide_eq_false (fun c => c q2)]; rfl)
          · rw [if_neg (ne_f q2 (by omega) (by omega))]
            have a2 : ap D e f = true := by unfold ap; rw [hhe, hhf, decide_eq_true q2]; rfl
            by_cases q3 : dQ D d = dQ D f
            · rw [if_pos (by rw [q3])]; exact no (by unfold rg; rw [a1, a2]; unfold ap; rw [hhd, hhf, decide_eq_false (fun c => c q3.symm)]; rfl)
            · rw [if_neg (ne_f q3 (by omega) (by omega))]
              have a3 : ap D f d = true := by unfold ap; rw [hhf, hhd, decide_eq_true (show dQ D f ≠ dQ D d from Ne.symm q3)]; rfl
              by_cases c1 : dP D d = dQ D e
              · rw [if_pos (by rw [c1])]; exact no (by unfold rg; rw [a1, a2, a3]; unfold e1; rw [decide_eq_false (fun c => c.1 c1)]; rfl)
              · rw [if_neg (ne_f c1 (by omega) (by omega))]
                by_cases c2 : dP D e = dQ D f
                · rw [if_pos (by rw [c2])]; exact no (by unfold rg; rw [a1, a2, a3]; unfold e1; rw [decide_eq_false (show ¬ (dP D e ≠ dQ D f ∧ _) from fun c => c.1 c2)]; simp)
                · rw [if_neg (ne_f c2 (by omega) (by omega))]
                  by_cases c3 : dP D f = dQ D d
                  · rw [if_pos (by rw [c3])]; exact no (by unfold rg; rw [a1, a2, a3]; unfold e1; rw [decide_eq_false (show ¬ (dP D f ≠ dQ D d ∧ _) from fun c => c.1 c3)]; simp)
                  · rw [if_neg (ne_f c3 (by omega) (by omega))]
                    have w1 : gsp.2 d = nI (dQ D d) := (hs.2 d hd).trans m1.2.1
                    have w2 : gsp.2 e = nI (dQ D e) := (hs.2 e he).trans m2.2.1
                    have w3 : gsp.2 f = nI (dQ D f) := (hs.2 f hf).trans m3.2.1
                    obtain ⟨Q, hQ⟩ : ∃ Q : Nat → Nat, Q = fun i => if i = f then dQ D d else if i = e then dQ D f else if i = d then dQ D e else dQ D i := ⟨_, rfl⟩
                    have Qd : Q d = dQ D e := by rw [hQ]; simp only [if_neg hdf, if_neg hde, if_pos]
                    have Qe : Q e = dQ D f := by rw [hQ]; simp only [if_neg hef, if_pos]
                    have Qf : Q f = dQ D d := by rw [hQ]; simp only [if_pos]
                    have Qi : ∀ i, i ≠ d → i ≠ e → i ≠ f → Q i = dQ D i := fun i hi hi2 hi3 => by rw [hQ]; simp only [if_neg hi, if_neg hi2, if_neg hi3]
                    have hD' : DM (mTo gvm (upd (upd (upd gvm.2.2.2.2.2.2.2.2.2.1 d (gsp.2 e)) e (gsp.2 f)) f (gsp.2 d))) (withQ D Q) := DM_to h (fun i hi hh => by
                      by_cases z1 : i = f
                      · rw [z1, pk_us, w1, Qf]
                      · rw [pk_un z1]
                        by_cases z2 : i = e
                        · rw [z2, pk_us, w3, Qe]
                        · rw [pk_un z2]
                          by_cases z3 : i = d
                          · rw [z3, pk_us, w2, Qd]
                          · rw [pk_un z3, Qi i z3 z2 z1]; exact ((h.2 i hi).2 hh).2.1)
                    have hO' : OD O (withQ D Q) := OD_to ho (fun i hi hh => by
                      by_cases z1 : i = f
                      · rw [z1, Qf]; exact ⟨o1.2.2.2.2.1, c3⟩
                      · by_cases z2 : i = e
                        · rw [z2, Qe]; exact ⟨o3.2.2.2.2.1, c2⟩
                        · by_cases z3 : i = d
                          · rw [z3, Qd]; exact ⟨o2.2.2.2.2.1, c1⟩
                          · rw [Qi i z3 z2 z1]; exact (ho.2.2 i hi hh).2.2.2.2)
                    obtain ⟨n1, l1⟩ := m_isLess (gsp := gsp) hD' hl hO' ho hO (o := dQ D d) (by omega) hab hb (hs.1 _ (by omega)) gne
                    obtain ⟨n2, l2⟩ := m_isLess (gsp := gsp) hD' hl hO' ho hO (o := dQ D e) (by omega) hab hb (hs.1 _ (by omega)) n1
                    obtain ⟨n3, l3⟩ := m_isLess (gsp := gsp) hD' hl hO' ho hO (o := dQ D f) (by omega) hab hb (hs.1 _ (by omega)) n2
                    have back : ∀ (v : Int32) (n : TA), isZ v → p_X13_saferThree_213 gla gsp (mTo gvm (upd (upd (upd gvm.2.2.2.2.2.2.2.2.2.1 d (gsp.2 e)) e (gsp.2 f)) f (gsp.2 d))) n (nI d) (nI e) (nI f) v = some (v, gvm, n) := by
                      intro v n hv
                      unfold p_X13_saferThree_213
                      rw [if_pos (ix_nI hd (by decide)), if_pos (ix_nI hd (by decide)), if_pos (ix_nI he (by decide)), if_pos (ix_nI he (by decide)), if_pos (ix_nI hf (by decide)), if_pos (ix_nI hf (by decide)), if_pos hv, cl_nI (by omega), cl_nI (by omega), cl_nI (by omega)]
                      simp only [upd_back3 (hs.2 d hd) (hs.2 e he) (hs.2 f hf)]
                    have x1 := spZ_cong a b (withQ_3 (Q := Q) hd he hf hhd hhf hde hdf hef q1 q2 (Ne.symm q3) Qi Qd Qe Qf)
                    have x2 := spZ_cong a b (withQ_3 (Q := Q) he hf hd hhe hhd hef (Ne.symm hde) (Ne.symm hdf) q2 (Ne.symm q3) q1 (fun i u1 u2 u3 => Qi i u3 u1 u2) Qe Qf Qd)
                    have x3 := spZ_cong a b (withQ_3 (Q := Q) hf hd he hhf hhe (Ne.symm hdf) (Ne.symm hef) hde (Ne.symm q3) q1 q2 (fun i u1 u2 u3 => Qi i u2 u3 u1) Qf Qd Qe)
                    have hrg : rg D a b d e f = (decide (spZ (nO (withQ D Q) (dQ D d)) a b < spZ (nO D (dQ D d)) a b) && (decide (spZ (nO (withQ D Q) (dQ D e)) a b < spZ (nO D (dQ D e)) a b) && decide (spZ (nO (withQ D Q) (dQ D f)) a b < spZ (nO D (dQ D f)) a b))) := by
                      unfold rg e1
                      rw [a1, a2, a3, x1, x2, x3, Bool.true_and, Bool.true_and, Bool.true_and]
                      rw [decide_eq_decide.2 (show (dP D d ≠ dQ D e ∧ spZ (nW D (dQ D e) e d) a b < spZ (nO D (dQ D e)) a b) ↔ spZ (nW D (dQ D e) e d) a b < spZ (nO D (dQ D e)) a b from ⟨fun q => q.2, fun q => ⟨c1, q⟩⟩), decide_eq_decide.2 (show (dP D e ≠ dQ D f ∧ spZ (nW D (dQ D f) f e) a b < spZ (nO D (dQ D f)) a b) ↔ spZ (nW D (dQ D f) f e) a b < spZ (nO D (dQ D f)) a b from ⟨fun q => q.2, fun q => ⟨c2, q⟩⟩), decide_eq_decide.2 (show (dP D f ≠ dQ D d ∧ spZ (nW D (dQ D d) d f) a b < spZ (nO D (dQ D d)) a b) ↔ spZ (nW D (dQ D d) d f) a b < spZ (nO D (dQ D d)) a b from ⟨fun q => q.2, fun q => ⟨c3, q⟩⟩)]
                      cases decide (spZ (nW D (dQ D e) e d) a b < spZ (nO D (dQ D e)) a b) <;> cases decide (spZ (nW D (dQ D f) f e) a b < spZ (nO D (dQ D f)) a b) <;> cases decide (spZ (nW D (dQ D d) d f) a b < spZ (nO D (dQ D d)) a b) <;> rfl
                    rw [← w1] at l1
                    rw [← w2] at l2
                    rw [← w3] at l3
                    rw [l1, some_bind', hrg]
                    unfold p_X13_saferThree_212
                    by_cases s1 : spZ (nO (withQ D Q) (dQ D d)) a b < spZ (nO D (dQ D d)) a b
                    · simp only [if_pos s1, if_neg n10]
                      rw [l2, some_bind', decide_eq_true s1]
                      by_cases s2 : spZ (nO (withQ D Q) (dQ D e)) a b < spZ (nO D (dQ D e)) a b
                      · simp only [if_pos s2, if_neg n10]
                        rw [l3, some_bind', decide_eq_true s2]
                        by_cases s3 : spZ (nO (withQ D Q) (dQ D f)) a b < spZ (nO D (dQ D f)) a b
                        · simp only [if_pos s3, if_neg n10]
                          rw [decide_eq_true s3]
                          exact ⟨n3, back 1 n3 isZ1⟩
                        · simp only [if_neg s3]
                          rw [decide_eq_false s3]
                          exact ⟨n3, back 0 n3 isZ0⟩
                      · simp only [if_neg s2]
                        rw [decide_eq_false s2]
                        exact ⟨n2, back 0 n2 isZ0⟩
                    · simp only [if_neg s1]
                      rw [decide_eq_false s1]
                      exact ⟨n1, back 0 n1 isZ0⟩
      · rw [if_pos ((has0 _).2 (by simpa using hhf))]; exact no (by unfold rg ap; rw [show dH D f = false from by simpa using hhf]; simp)
    · rw [if_pos ((has0 _).2 (by simpa using hhe))]; exact no (by unfold rg ap; rw [show dH D e = false from by simpa using hhe]; simp)
  · rw [if_pos ((has0 _).2 (by simpa using hhd))]; exact no (by unfold rg ap; rw [show dH D d = false from by simpa using hhd]; simp)
-- the scan: how many, and the first
abbrev SC := Nat × Int32
def stp (s : SC) (p : Bool) (c : Int32) : SC := if p then (s.1 + 1, if s.2 = -1 then c else s.2) else s
def fF (P : Nat → Nat → Nat → Bool) (c : Nat → Nat → Nat → Int32) (d e : Nat) : Nat → Nat → SC → SC
  | 0, _, s => s
  | k + 1, f, s => fF P c d e k (f + 1) (stp s (P d e f) (c d e f))
def fE (P : Nat → Nat → Nat → Bool) (c : Nat → Nat → Nat → Int32) (N d : Nat) : Nat → Nat → SC → SC
  | 0, _, s => s
  | k + 1, e, s => fE P c N d k (e + 1) (fF P c d e N 0 s)
def fD (P : Nat → Nat → Nat → Bool) (c : Nat → Nat → Nat → Int32) (N : Nat) : Nat → Nat → SC → SC
  | 0, _, s => s
  | k + 1, d, s => fD P c N k (d + 1) (fE P c N d 10 0 s)
theorem stp_keep {s : SC} (h : s.2 ≠ -1) (p : Bool) (c : Int32) : (stp s p c).2 = s.2 := by
  unfold stp
  cases p
  · rfl
  · show (if s.2 = -1 then c else s.2) = s.2; rw [if_neg h]
theorem fF_keep {P : Nat → Nat → Nat → Bool} {c : Nat → Nat → Nat → Int32} {d e : Nat} : ∀ (k f : Nat) (s : SC), s.2 ≠ -1 → (fF P c d e k f s).2 = s.2 := by
  intro k
  induction k with
  | zero => intro f s _; rfl
  | succ k ih =>
    intro f s h
    have h1 := stp_keep h (P d e f) (c d e f)
    show (fF P c d e k (f + 1) (stp s (P d e f) (c d e f))).2 = s.2
    rw [ih _ _ (by rw [h1]; exact h), h1]
theorem fE_keep {P : Nat → Nat → Nat → Bool} {c : Nat → Nat → Nat → Int32} {N d : Nat} : ∀ (k e : Nat) (s : SC), s.2 ≠ -1 → (fE P c N d k e s).2 = s.2 := by
  intro k
  induction k with
  | zero => intro e s _; rfl
  | succ k ih =>
    intro e s h
    have h1 := fF_keep (P := P) (c := c) (d := d) (e := e) N 0 s h
    show (fE P c N d k (e + 1) (fF P c d e N 0 s)).2 = s.2
    rw [ih _ _ (by rw [h1]; exact h), h1]
theorem fD_keep {P : Nat → Nat → Nat → Bool} {c : Nat → Nat → Nat → Int32} {N : Nat} : ∀ (k d : Nat) (s : SC), s.2 ≠ -1 → (fD P c N k d s).2 = s.2 := by
  intro k
  induction k with
  | zero => intro d s _; rfl
  | succ k ih =>
    intro d s h
    have h1 := fE_keep (P := P) (c := c) (N := N) (d := d) 10 0 s h
    show (fD P c N k (d + 1) (fE P c N d 10 0 s)).2 = s.2
    rw [ih _ _ (by rw [h1]; exact h), h1]
theorem fF_skip {P : Nat → Nat → Nat → Bool} {c : Nat → Nat → Nat → Int32} {d e : Nat} : ∀ (j k f : Nat) (s : SC), (∀ i, f ≤ i → i < f + j → P d e i = false) → fF P c d e (j + k) f s = fF P c d e k (f + j) s := by
  intro j
  induction j with
  | zero => intro k f s _; rw [Nat.zero_add]; rfl
  | succ j ih =>
    intro k f s h
    rw [show j + 1 + k = (j + k) + 1 by omega]
    show fF P c d e (j + k) (f + 1) (stp s (P d e f) (c d e f)) = _
    rw [h f (by omega) (by omega), show stp s false (c d e f) = s from rfl, ih k (f + 1) s (fun i h1 h2 => h i (by omega) (by omega)), show f + 1 + j = f + (j + 1) by omega]
theorem fE_skip {P : Nat → Nat → Nat → Bool} {c : Nat → Nat → Nat → Int32} {N d : Nat} : ∀ (j k e : Nat) (s : SC), (∀ i, e ≤ i → i < e + j → ∀ f, P d i f = false) → fE P c N d (j + k) e s = fE P c N d k (e + j) s := by
  intro j
  induction j with
  | zero => intro k e s _; rw [Nat.zero_add]; rfl
  | succ j ih =>
    intro k e s h
    rw [show j + 1 + k = (j + k) + 1 by omega]
    show fE P c N d (j + k) (e + 1) (fF P c d e N 0 s) = _
    have := fF_skip (P := P) (c := c) (d := d) (e := e) N 0 0 s (fun i _ _ => h e (by omega) (by omega) i)
    rw [Nat.add_zero] at this
    rw [this, show fF P c d e 0 (0 + N) s = s from rfl, ih k (e + 1) s (fun i h1 h2 => h i (by omega) (by omega)), show e + 1 + j = e + (j + 1) by omega]
def P2 (D : MD) (a b d e _f : Nat) : Bool := decide (d < e) && cp D a b d e
def P3 (D : MD) (a b d e f : Nat) : Bool := decide (d < e ∧ d < f ∧ e ≠ f) && rg D a b d e f
def cd2 (d e _f : Nat) : Int32 := 16 * nI d + nI e
def cd3 (d e f : Nat) : Int32 := 256 * nI d + 16 * nI e + nI f
theorem nI_ne {n : Nat} (h : n < 2147483648) : nI n ≠ -1 := by
  intro e
  have e2 := congrArg Int32.toInt e
  rw [nI_toInt (by omega)] at e2
  have h1 : (-1 : Int32).toInt = -1 := by decide
  omega
theorem cd2_ne {d e f : Nat} (hd : d < 10) (he : e < 10) : cd2 d e f ≠ -1 := by
  unfold cd2
  rw [show (16 : Int32) = nI 16 from rfl, pk_mul, nI_add]; exact nI_ne (by omega)
theorem cd3_ne {d e f : Nat} (hd : d < 10) (he : e < 10) (hf : f < 10) : cd3 d e f ≠ -1 := by
  unfold cd3
  rw [show (16 : Int32) = nI 16 from rfl, show (256 : Int32) = nI 256 from rfl, pk_mul, pk_mul, nI_add, nI_add]; exact nI_ne (by omega)
-- the class's scans
theorem c_cp_19 {O : Nat} {gd : TD} {gne : TN} {D : MD} {x3 : Int32} {k6 : Int32 → Int32 → Int32 → Int32 → Int32 → Option Int32} (h : DC gd D) (hn : NE gne D) (ho : OD O D) (hO : O ≤ 5) {a b d : Nat} (hab : a ≤ b) (hb : b ≤ 40) (hd : d < 10) : ∀ (k e n : Nat) (s : SC), e + k = 10 → k < n → d < e → (x3 = 0 → s.2 = -1) → p_X12_saferCouples_19 k6 gd gne n (nI a) (nI b) x3 (nI s.1) (nI d) (nI e) = (if x3 = 0 ∧ (fE (P2 D a b) cd2 1 d k e s).2 ≠ -1 then some (fE (P2 D a b) cd2 1 d k e s).2 else k6 (nI a) (nI b) x3 (nI (fE (P2 D a b) cd2 1 d k e s).1) (nI (d + 1))) := by
  intro k
  induction k with
  | zero =>
    intro e n s hk hn2 hde hx
    obtain ⟨n, rfl⟩ : ∃ m, n = m + 1 := ⟨n - 1, by omega⟩
    unfold p_X12_saferCouples_19
    rw [if_pos (le_t (c := 10) (by omega) (by omega)), nI_1, if_neg (fun c => c.2 (hx c.1))]; rfl
  | succ k ih =>
    intro e n s hk hn2 hde hx
    obtain ⟨n, rfl⟩ : ∃ m, n = m + 1 := ⟨n - 1, by omega⟩
    have hP : P2 D a b d e 0 = cp D a b d e := by unfold P2; rw [decide_eq_true hde]; rfl
    have hf : fE (P2 D a b) cd2 1 d (k + 1) e s = fE (P2 D a b) cd2 1 d k (e + 1) (stp s (cp D a b d e) (cd2 d e 0)) := by rw [← hP]; rfl
    rw [hf]
    unfold p_X12_saferCouples_19 p_X12_saferCouples_55
    rw [if_neg (le_f (c := 10) (by omega) (by decide)), c_couple h hn ho hO hab hb hd (by omega), some_bind', nI_1, nI_1]
    by_cases hc : cp D a b d e = true
    · rw [if_pos hc, if_neg n10, hc]
      by_cases hx0 : x3 = 0
      · have hs : (stp s true (cd2 d e 0)).2 = cd2 d e 0 := by show (if s.2 = -1 then _ else _) = _; rw [if_pos (hx hx0)]
        have hk2 := fE_keep (P := P2 D a b) (c := cd2) (N := 1) (d := d) k (e + 1) (stp s true (cd2 d e 0)) (by rw [hs]; exact cd2_ne hd (by omega))
        rw [if_pos hx0, hk2, hs, if_pos ⟨hx0, cd2_ne hd (by omega)⟩]; rfl
      · rw [if_neg hx0]
        exact ih (e + 1) n (stp s true (cd2 d e 0)) (by omega) (by omega) (by omega) (fun c => absurd c hx0)
    · rw [if_neg hc, if_pos rfl, show cp D a b d e = false from by simpa using hc]
      exact ih (e + 1) n s (by omega) (by omega) (by omega) hx
theorem c_cp_6 {O : Nat} {gd : TD} {gne : TN} {D : MD} {x3 : Int32} (h : DC gd D) (hn : NE gne D) (ho : OD O D) (hO : O ≤ 5) {a b : Nat} (hab : a ≤ b) (hb : b ≤ 40) : ∀ (k d n : Nat) (s : SC), d + k = 10 → k < n → (x3 = 0 → s.2 = -1) → p_X12_saferCouples_6 gd gne n (nI a) (nI b) x3 (nI s.1) (nI d) = some (if x3 = 0 then (fD (P2 D a b) cd2 1 k d s).2 else nI (fD (P2 D a b) cd2 1 k d s).1) := by
  intro k
  induction k with
  | zero =>
    intro d n s hk hn2 hx
    obtain ⟨n, rfl⟩ : ∃ m, n = m + 1 := ⟨n - 1, by omega⟩
    unfold p_X12_saferCouples_6
    rw [if_pos (le_t (c := 10) (by omega) (by omega))]
    by_cases hx0 : x3 = 0
    · rw [if_pos hx0, if_pos hx0]; show some (-1) = some s.2; rw [hx hx0]
    · rw [if_neg hx0, if_neg hx0]; rfl
  | succ k ih =>
    intro d n s hk hn2 hx
    obtain ⟨n, rfl⟩ : ∃ m, n = m + 1 := ⟨n - 1, by omega⟩
    have hsk : fE (P2 D a b) cd2 1 d 10 0 s = fE (P2 D a b) cd2 1 d (10 - (d + 1)) (d + 1) s := by
      have := fE_skip (P := P2 D a b) (c := cd2) (N := 1) (d := d) (d + 1) (10 - (d + 1)) 0 s (fun i _ hi f => by unfold P2; rw [decide_eq_false (by omega)]; rfl)
      rw [show d + 1 + (10 - (d + 1)) = 10 by omega, Nat.zero_add] at this
      exact this
    have hstep : fD (P2 D a b) cd2 1 (k + 1) d s = fD (P2 D a b) cd2 1 k (d + 1) (fE (P2 D a b) cd2 1 d (10 - (d + 1)) (d + 1) s) := by rw [← hsk]; rfl
    rw [hstep]
    have h19 := c_cp_19 (x3 := x3) (k6 := p_X12_saferCouples_6 gd gne n) h hn ho hO hab hb (show d < 10 by omega) (10 - (d + 1)) (d + 1) fu s (by omega) (fu_lt (by omega)) (by omega) hx
    unfold p_X12_saferCouples_6
    rw [if_neg (le_f (c := 10) (by omega) (by decide)), nI_1, h19]
    generalize fE (P2 D a b) cd2 1 d (10 - (d + 1)) (d + 1) s = t
    by_cases hc : x3 = 0 ∧ t.2 ≠ -1
    · rw [if_pos hc, if_pos hc.1, fD_keep k (d + 1) t hc.2]
    · rw [if_neg hc]
      exact ih (d + 1) n t (by omega) (by omega) (fun c => Classical.byContradiction fun q => hc ⟨c, q⟩)
theorem c_rg_32 {O : Nat} {gd : TD} {gne : TN} {D : MD} {x3 : Int32} {k6 : Int32 → Int32 → Int32 → Int32 → Int32 → Option Int32} {k19 : Int32 → Int32 → Int32 → Int32 → Int32 → Int32 → Option Int32} (h : DC gd D) (hn : NE gne D) (ho : OD O D) (hO : O ≤ 5) {a b d e : Nat} (hab : a ≤ b) (hb : b ≤ 40) (hd : d < 10) (he : e < 10) (hde : d < e) : ∀ (k f n : Nat) (s : SC), f + k = 10 → k < n → d < f → (x3 = 0 → s.2 = -1) → p_X12_saferRings_32 k6 k19 gd gne n (nI a) (nI b) x3 (nI s.1) (nI d) (nI e) (nI f) = (if x3 = 0 ∧ (fF (P3 D a b) cd3 d e k f s).2 ≠ -1 then some (fF (P3 D a b) cd3 d e k f s).2 else k19 (nI a) (nI b) x3 (nI (fF (P3 D a b) cd3 d e k f s).1) (nI d) (nI (e + 1))) := by
  intro k
  induction k with
  | zero =>
    intro f n s hk hn2 hdf hx
    obtain ⟨n, rfl⟩ : ∃ m, n = m + 1 := ⟨n - 1, by omega⟩
    unfold p_X12_saferRings_32
    rw [if_pos (le_t (c := 10) (by omega) (by omega)), nI_1, if_neg (fun c => c.2 (hx c.1))]; rfl
  | succ k ih =>
    intro f n s hk hn2 hdf hx
    obtain ⟨n, rfl⟩ : ∃ m, n = m + 1 := ⟨n - 1, by omega⟩
    have hP : P3 D a b d e f = rg D a b d e f := by
      unfold P3
      by_cases hef : e = f
      · subst hef
        rw [decide_eq_false (fun c => c.2.2 rfl)]
        have : ap D e e = false := by unfold ap; rw [decide_eq_false (fun c => c rfl)]; simp
        unfold rg; rw [this]; simp
      · rw [decide_eq_true ⟨hde, hdf, hef⟩]; rfl
    have hfs : fF (P3 D a b) cd3 d e (k + 1) f s = fF (P3 D a b) cd3 d e k (f + 1) (stp s (rg D a b d e f) (cd3 d e f)) := by rw [← hP]; rfl
    rw [hfs]
    unfold p_X12_saferRings_32 p_X12_saferRings_77
    rw [if_neg (le_f (c := 10) (by omega) (by decide)), c_ring h hn ho hO hab hb hd he (by omega), some_bind', nI_1, nI_1]
    by_cases hc : rg D a b d e f = true
    · rw [if_pos hc, if_neg n10, hc]
      by_cases hx0 : x3 = 0
      · have hs : (stp s true (cd3 d e f)).2 = cd3 d e f := by show (if s.2 = -1 then _ else _) = _; rw [if_pos (hx hx0)]
        have hk2 := fF_keep (P := P3 D a b) (c := cd3) (d := d) (e := e) k (f + 1) (stp s true (cd3 d e f)) (by rw [hs]; exact cd3_ne hd he (by omega))
        rw [if_pos hx0, hk2, hs, if_pos ⟨hx0, cd3_ne hd he (by omega)⟩]; rfl
      · rw [if_neg hx0]
        exact ih (f + 1) n (stp s true (cd3 d e f)) (by omega) (by omega) (by omega) (fun c => absurd c hx0)
    · rw [if_neg hc, if_pos rfl, show rg D a b d e f = false from by simpa using hc]
      exact ih (f + 1) n s (by omega) (by omega) (by omega) hx
theorem c_rg_19 {O : Nat} {gd : TD} {gne : TN} {D : MD} {x3 : Int32} {k6 : Int32 → Int32 → Int32 → Int32 → Int32 → Option Int32} (h : DC gd D) (hn : NE gne D) (ho : OD O D) (hO : O ≤ 5) {a b d : Nat} (hab : a ≤ b) (hb : b ≤ 40) (hd : d < 10) : ∀ (k e n : Nat) (s : SC), e + k = 10 → k < n → d < e → (x3 = 0 → s.2 = -1) → p_X12_saferRings_19 k6 gd gne n (nI a) (nI b) x3 (nI s.1) (nI d) (nI e) = (if x3 = 0 ∧ (fE (P3 D a b) cd3 10 d k e s).2 ≠ -1 then some (fE (P3 D a b) cd3 10 d k e s).2 else k6 (nI a) (nI b) x3 (nI (fE (P3 D a b) cd3 10 d k e s).1) (nI (d + 1))) := by
  intro k
  induction k with
  | zero =>
    intro e n s hk hn2 hde hx
    obtain ⟨n, rfl⟩ : ∃ m, n = m + 1 := ⟨n - 1, by omega⟩
    unfold p_X12_saferRings_19
    rw [if_pos (le_t (c := 10) (by omega) (by omega)), nI_1, if_neg (fun c => c.2 (hx c.1))]; rfl
  | succ k ih =>
    intro e n s hk hn2 hde hx
    obtain ⟨n, rfl⟩ : ∃ m, n = m + 1 := ⟨n - 1, by omega⟩
    have hsk : fF (P3 D a b) cd3 d e 10 0 s = fF (P3 D a b) cd3 d e (10 - (d + 1)) (d + 1) s := by
      have := fF_skip (P := P3 D a b) (c := cd3) (d := d) (e := e) (d + 1) (10 - (d + 1)) 0 s (fun i _ hi => by unfold P3; rw [decide_eq_false (by omega)]; rfl)
      rw [show d + 1 + (10 - (d + 1)) = 10 by omega, Nat.zero_add] at this
      exact this
    have hstep : fE (P3 D a b) cd3 10 d (k + 1) e s = fE (P3 D a b) cd3 10 d k (e + 1) (fF (P3 D a b) cd3 d e (10 - (d + 1)) (d + 1) s) := by rw [← hsk]; rfl
    rw [hstep]
    have h32 := c_rg_32 (x3 := x3) (k6 := k6) (k19 := p_X12_saferRings_19 k6 gd gne n) h hn ho hO hab hb hd (show e < 10 by omega) hde (10 - (d + 1)) (d + 1) fu s (by omega) (fu_lt (by omega)) (by omega) hx
    unfold p_X12_saferRings_19
    rw [if_neg (le_f (c := 10) (by omega) (by decide)), nI_1, h32]
    generalize fF (P3 D a b) cd3 d e (10 - (d + 1)) (d + 1) s = t
    by_cases hc : x3 = 0 ∧ t.2 ≠ -1
    · rw [if_pos hc, fE_keep k (e + 1) t hc.2, if_pos hc]
    · rw [if_neg hc]
      exact ih (e + 1) n t (by omega) (by omega) (by omega) (fun c => Classical.byContradiction fun q => hc ⟨c, q⟩)
theorem c_rg_6 {O : Nat} {gd : TD} {gne : TN} {D : MD} {x3 : Int32} (h : DC gd D) (hn : NE gne D) (ho : OD O D) (hO : O ≤ 5) {a b : Nat} (hab : a ≤ b) (hb : b ≤ 40) : ∀ (k d n : Nat) (s : SC), d + k = 10 → k < n → (x3 = 0 → s.2 = -1) → p_X12_saferRings_6 gd gne n (nI a) (nI b) x3 (nI s.1) (nI d) = some (if x3 = 0 then (fD (P3 D a b) cd3 10 k d s).2 else nI (fD (P3 D a b) cd3 10 k d s).1) := by
  intro k
  induction k with
  | zero =>
    intro d n s hk hn2 hx
    obtain ⟨n, rfl⟩ : ∃ m, n = m + 1 := ⟨n - 1, by omega⟩
    unfold p_X12_saferRings_6
    rw [if_pos (le_t (c := 10) (by omega) (by omega))]
    by_cases hx0 : x3 = 0
    · rw [if_pos hx0, if_pos hx0]; show some (-1) = some s.2; rw [hx hx0]
    · rw [if_neg hx0, if_neg hx0]; rfl
  | succ k ih =>
    intro d n s hk hn2 hx
    obtain ⟨n, rfl⟩ : ∃ m, n = m + 1 := ⟨n - 1, by omega⟩
    have hsk : fE (P3 D a b) cd3 10 d 10 0 s = fE (P3 D a b) cd3 10 d (10 - (d + 1)) (d + 1) s := by
      have := fE_skip (P := P3 D a b) (c := cd3) (N := 10) (d := d) (d + 1) (10 - (d + 1)) 0 s (fun i _ hi f => by unfold P3; rw [decide_eq_false (by omega)]; rfl)
      rw [show d + 1 + (10 - (d + 1)) = 10 by omega, Nat.zero_add] at this
      exact this
    have hstep : fD (P3 D a b) cd3 10 (k + 1) d s = fD (P3 D a b) cd3 10 k (d + 1) (fE (P3 D a b) cd3 10 d (10 - (d + 1)) (d + 1) s) := by rw [← hsk]; rfl
    rw [hstep]
    have h19 := c_rg_19 (x3 := x3) (k6 := p_X12_saferRings_6 gd gne n) h hn ho hO hab hb (show d < 10 by omega) (10 - (d + 1)) (d + 1) fu s (by omega) (fu_lt (by omega)) (by omega) hx
    unfold p_X12_saferRings_6
    rw [if_neg (le_f (c := 10) (by omega) (by decide)), nI_1, h19]
    generalize fE (P3 D a b) cd3 10 d (10 - (d + 1)) (d + 1) s = t
    by_cases hc : x3 = 0 ∧ t.2 ≠ -1
    · rw [if_pos hc, if_pos hc.1, fD_keep k (d + 1) t hc.2]
    · rw [if_neg hc]
      exact ih (d + 1) n t (by omega) (by omega) (fun c => Classical.byContradiction fun q => hc ⟨c, q⟩)
-- the reference's scan
abbrev TSr := Option (Int32 × Int32 × TM × TA × TA × (TA × TA))
abbrev TK6 := Int32 → TM → TA → TA → (TA × TA) → Int32 → Int32 → Int32 → Int32 → Int32 → Int32 → TSr
abbrev TK7 := Int32 → TM → TA → TA → (TA × TA) → Int32 → Int32 → Int32 → Int32 → Int32 → Int32 → Int32 → TSr
abbrev TK8 := Int32 → TM → TA → TA → (TA × TA) → Int32 → Int32 → Int32 → Int32 → Int32 → Int32 → Int32 → Int32 → TSr
theorem m_199 {k89 : TK6} {k99 : TK7} {k109 : TK8} {gvm : TM} {gla gne : TA} {gsp : TA × TA} {x1 x2 x3 x6 x7 x8 : Int32} (s : SC) (p : Bool) (c : Int32) (hc : c = if 2 ≤ x3 then 256 * x6 + 16 * x7 + x8 else 16 * x6 + x7) : p_X13_safer_199 k89 k99 k109 0 gvm gla gne gsp x1 x2 x3 (nI s.1) s.2 x6 x7 x8 (if p = true then 1 else 0) = k109 0 gvm gla gne gsp x1 x2 x3 (nI (stp s p c).1) (stp s p c).2 x6 x7 (x8 + 1) := by
  unfold p_X13_safer_199 p_X13_safer_249 p_X13_safer_251 stp
  cases p
  · rfl
  · rw [if_pos rfl, if_neg n10, if_pos rfl, nI_1, hc]
    by_cases h1 : s.2 = -1
    · simp only [if_pos h1]
      by_cases h2 : (2 : Int32) ≤ x3
      · rw [if_pos h2, if_pos h2]
      · rw [if_neg h2, if_neg h2]
    · simp only [if_neg h1]
theorem m_109a {O : Nat} {gvm : TM} {gla : TA} {gsp : TA × TA} {D : MD} {x3 : Int32} {k89 : TK6} {k99 : TK7} (h : DM gvm D) (hl : LA gla D) (ho : OD O D) (hO : O ≤ 5) {a b d e : Nat} (hs : SPm gsp gvm O D a b) (hab : a ≤ b) (hb : b ≤ 40) (hd : d < 10) (he : e < 10) (hx : ¬ (2 : Int32) ≤ x3) (n : Nat) (s : SC) (gne : TA) : ∃ ne, p_X13_safer_109 k89 k99 (n + 2) 0 gvm gla gne gsp (nI a) (nI b) x3 (nI s.1) s.2 (nI d) (nI e) 0 = k99 0 gvm gla ne gsp (nI a) (nI b) x3 (nI (fF (P2 D a b) cd2 d e 1 0 s).1) (fF (P2 D a b) cd2 d e 1 0 s).2 (nI d) (nI (e + 1)) := by
  have hend : ∀ (t : SC) (ne : TA), p_X13_safer_109 k89 k99 (n + 1) 0 gvm gla ne gsp (nI a) (nI b) x3 (nI t.1) t.2 (nI d) (nI e) (0 + 1) = k99 0 gvm gla ne gsp (nI a) (nI b) x3 (nI t.1) t.2 (nI d) (nI (e + 1)) := by
    intro t ne
    unfold p_X13_safer_109 p_X13_safer_122
    rw [if_neg hx, if_pos (by decide), nI_1]
  have hf : fF (P2 D a b) cd2 d e 1 0 s = stp s (P2 D a b d e 0) (cd2 d e 0) := rfl
  rw [hf]
  have hcode : cd2 d e 0 = if (2 : Int32) ≤ x3 then 256 * nI d + 16 * nI e + 0 else 16 * nI d + nI e := by rw [if_neg hx]; rfl
  unfold p_X13_safer_109 p_X13_safer_122 p_X13_safer_154
  rw [if_neg hx, if_neg (show ¬ (1 : Int32) ≤ 0 by decide), if_neg hx]
  by_cases hde : d < e
  · obtain ⟨ne, t1⟩ := m_two h hl ho hO hs hab hb hd he (Nat.ne_of_lt hde) gne
    refine ⟨ne, ?_⟩
    rw [if_neg (nI_ge hde (by omega)), t1, some_bind', show P2 D a b d e 0 = cp D a b d e from by unfold P2; rw [decide_eq_true hde]; rfl]
    have h199 := m_199 (k89 := k89) (k99 := k99) (k109 := p_X13_safer_109 k89 k99 (n + 1)) (gvm := gvm) (gla := gla) (gne := ne) (gsp := gsp) (x1 := nI a) (x2 := nI b) s (cp D a b d e) _ hcode
    rw [hend] at h199
    by_cases hc : cp D a b d e = true
    · rw [if_pos hc, if_neg n10]
      rw [if_pos hc] at h199; exact h199
    · rw [if_neg hc, if_pos rfl]
      rw [if_neg hc] at h199; exact h199
  · refine ⟨gne, ?_⟩
    have h199 := m_199 (k89 := k89) (k99 := k99) (k109 := p_X13_safer_109 k89 k99 (n + 1)) (gvm := gvm) (gla := gla) (gne := gne) (gsp := gsp) (x1 := nI a) (x2 := nI b) s (P2 D a b d e 0) _ hcode
    rw [hend] at h199
    rw [if_pos (nI_le (by omega) (by omega))]
    rw [if_neg (show ¬ P2 D a b d e 0 = true from by unfold P2; rw [decide_eq_false hde]; simp)] at h199
    exact h199
theorem m_109b {O : Nat} {gvm : TM} {gla : TA} {gsp : TA × TA} {D : MD} {x3 : Int32} {k89 : TK6} {k99 : TK7} (h : DM gvm D) (hl : LA gla D) (ho : OD O D) (hO : O ≤ 5) {a b d e : Nat} (hs : SPm gsp gvm O D a b) (hab : a ≤ b) (hb : b ≤ 40) (hd : d < 10) (he : e < 10) (hx : (2 : Int32) ≤ x3) : ∀ (k f n : Nat) (s : SC) (gne : TA), f + k = 10 → k < n → ∃ ne, p_X13_safer_109 k89 k99 n 0 gvm gla gne gsp (nI a) (nI b) x3 (nI s.1) s.2 (nI d) (nI e) (nI f) = k99 0 gvm gla ne gsp (nI a) (nI b) x3 (nI (fF (P3 D a b) cd3 d e k f s).1) (fF (P3 D a b) cd3 d e k f s).2 (nI d) (nI (e + 1)) := by
  intro k
  induction k with
  | zero =>
    intro f n s gne hk hn
    obtain ⟨n, rfl⟩ : ∃ m, n = m + 1 := ⟨n - 1, by omega⟩
    refine ⟨gne, ?_⟩
    unfold p_X13_safer_109 p_X13_safer_122
    rw [if_pos hx, if_pos (le_t (c := 10) (by omega) (by omega)), nI_1]; rfl
  | succ k ih =>
    intro f n s gne hk hn
    obtain ⟨n, rfl⟩ : ∃ m, n = m + 1 := ⟨n - 1, by omega⟩
    have hfs : fF (P3 D a b) cd3 d e (k + 1) f s = fF (P3 D a b) cd3 d e k (f + 1) (stp s (P3 D a b d e f) (cd3 d e f)) := rfl
    rw [hfs]
    have hcode : cd3 d e f = if (2 : Int32) ≤ x3 then 256 * nI d + 16 * nI e + nI f else 16 * nI d + nI e := by rw [if_pos hx]; rfl
    unfold p_X13_safer_109 p_X13_safer_122 p_X13_safer_198
    rw [if_pos hx, if_neg (le_f (c := 10) (by omega) (by decide)), if_pos hx]
    have no : P3 D a b d e f = false → ∃ ne, p_X13_safer_199 k89 k99 (p_X13_safer_109 k89 k99 n) 0 gvm gla gne gsp (nI a) (nI b) x3 (nI s.1) s.2 (nI d) (nI e) (nI f) 0 = k99 0 gvm gla ne gsp (nI a) (nI b) x3 (nI (fF (P3 D a b) cd3 d e k (f + 1) (stp s (P3 D a b d e f) (cd3 d e f))).1) (fF (P3 D a b) cd3 d e k (f + 1) (stp s (P3 D a b d e f) (cd3 d e f))).2 (nI d) (nI (e + 1)) := by
      intro hp
      have h199 := m_199 (k89 := k89) (k99 := k99) (k109 := p_X13_safer_109 k89 k99 n) (gvm := gvm) (gla := gla) (gne := gne) (gsp := gsp) (x1 := nI a) (x2 := nI b) s (P3 D a b d e f) _ hcode
      obtain ⟨ne, i1⟩ := ih (f + 1) n (stp s (P3 D a b d e f) (cd3 d e f)) gne (by omega) (by omega)
      rw [nI_1, i1] at h199
      rw [hp] at h199 ⊢
      exact ⟨ne, h199⟩
    by_cases hde : d < e
    · rw [if_neg (nI_ge hde (by omega))]
      by_cases hdf : d < f
      · rw [if_neg (nI_ge hdf (by omega))]
        by_cases hef : e = f
        · rw [if_pos (by rw [hef])]
          exact no (by unfold P3; rw [decide_eq_false (fun c => c.2.2 hef)]; rfl)
        · rw [if_neg (ne_f hef (by omega) (by omega))]
          obtain ⟨n1, t1⟩ := m_three h hl ho hO hs hab hb hd he (show f < 10 by omega) (Nat.ne_of_lt hde) (Nat.ne_of_lt hdf) hef gne
          have hP : P3 D a b d e f = rg D a b d e f := by unfold P3; rw [decide_eq_true ⟨hde, hdf, hef⟩]; rfl
          have h199 := m_199 (k89 := k89) (k99 := k99) (k109 := p_X13_safer_109 k89 k99 n) (gvm := gvm) (gla := gla) (gne := n1) (gsp := gsp) (x1 := nI a) (x2 := nI b) s (P3 D a b d e f) _ hcode
          obtain ⟨ne, i1⟩ := ih (f + 1) n (stp s (P3 D a b d e f) (cd3 d e f)) n1 (by omega) (by omega)
          rw [nI_1, i1] at h199
          refine ⟨ne, ?_⟩
          rw [t1, some_bind']
          simp only []
          rw [hP] at h199 ⊢
          by_cases hc : rg D a b d e f = true
          · rw [hc] at h199 ⊢; exact h199
          · rw [show rg D a b d e f = false from by simpa using hc] at h199 ⊢; exact h199
      · rw [if_pos (nI_le (by omega) (by omega))]
        exact no (by unfold P3; rw [decide_eq_false (fun c => hdf c.2.1)]; rfl)
    · rw [if_pos (nI_le (by omega) (by omega))]
      exact no (by unfold P3; rw [decide_eq_false (fun c => hde c.1)]; rfl)
theorem m_99 {gvm : TM} {gla : TA} {gsp : TA × TA} {x3 : Int32} {k89 : TK6} {P : Nat → Nat → Nat → Bool} {c : Nat → Nat → Nat → Int32} {N : Nat} {a b d : Nat} (hin : ∀ (e : Nat) (k99 : TK7) (s : SC) (gne : TA), e < 10 → ∃ ne, p_X13_safer_109 k89 k99 fu 0 gvm gla gne gsp (nI a) (nI b) x3 (nI s.1) s.2 (nI d) (nI e) 0 = k99 0 gvm gla ne gsp (nI a) (nI b) x3 (nI (fF P c d e N 0 s).1) (fF P c d e N 0 s).2 (nI d) (nI (e + 1))) : ∀ (k e n : Nat) (s : SC) (gne : TA), e + k = 10 → k < n → ∃ ne, p_X13_safer_99 k89 n 0 gvm gla gne gsp (nI a) (nI b) x3 (nI s.1) s.2 (nI d) (nI e) = k89 0 gvm gla ne gsp (nI a) (nI b) x3 (nI (fE P c N d k e s).1) (fE P c N d k e s).2 (nI (d + 1)) := by
  intro k
  induction k with
  | zero =>
    intro e n s gne hk hn
    obtain ⟨n, rfl⟩ : ∃ m, n = m + 1 := ⟨n - 1, by omega⟩
    refine ⟨gne, ?_⟩
    unfold p_X13_safer_99
    rw [if_pos (le_t (c := 10) (by omega) (by omega)), nI_1]; rfl
  | succ k ih =>
    intro e n s gne hk hn
    obtain ⟨n, rfl⟩ : ∃ m, n = m + 1 := ⟨n - 1, by omega⟩
    obtain ⟨n1, t1⟩ := hin e (p_X13_safer_99 k89 n) s gne (by omega)
    obtain ⟨ne, i1⟩ := ih (e + 1) n (fF P c d e N 0 s) n1 (by omega) (by omega)
    refine ⟨ne, ?_⟩
    unfold p_X13_safer_99
    rw [if_neg (le_f (c := 10) (by omega) (by decide))]
    exact t1.trans i1
theorem m_89 {gvm : TM} {gla : TA} {gsp : TA × TA} {x3 : Int32} {P : Nat → Nat → Nat → Bool} {c : Nat → Nat → Nat → Int32} {N : Nat} {a b : Nat} (hin : ∀ (d e : Nat) (k89 : TK6) (k99 : TK7) (s : SC) (gne : TA), d < 10 → e < 10 → ∃ ne, p_X13_safer_109 k89 k99 fu 0 gvm gla gne gsp (nI a) (nI b) x3 (nI s.1) s.2 (nI d) (nI e) 0 = k99 0 gvm gla ne gsp (nI a) (nI b) x3 (nI (fF P c d e N 0 s).1) (fF P c d e N 0 s).2 (nI d) (nI (e + 1))) : ∀ (k d n : Nat) (s : SC) (gne : TA), d + k = 10 → k < n → ∃ ne, p_X13_safer_89 n 0 gvm gla gne gsp (nI a) (nI b) x3 (nI s.1) s.2 (nI d) = some ((if (x3 - x3 / 2 * 2) = 0 then nI (fD P c N k d s).1 else (fD P c N k d s).2), 0, gvm, gla, ne, gsp) := by
  intro k
  induction k with
  | zero =>
    intro d n s gne hk hn
    obtain ⟨n, rfl⟩ : ∃ m, n = m + 1 := ⟨n - 1, by omega⟩
    refine ⟨gne, ?_⟩
    unfold p_X13_safer_89
    rw [if_pos (le_t (c := 10) (by omega) (by omega))]
    by_cases hx : (x3 - x3 / 2 * 2) = 0
    · rw [if_pos hx, if_pos hx]; rfl
    · rw [if_neg hx, if_neg hx]; rfl
  | succ k ih =>
    intro d n s gne hk hn
    obtain ⟨n, rfl⟩ : ∃ m, n = m + 1 := ⟨n - 1, by omega⟩
    obtain ⟨n1, t1⟩ := m_99 (k89 := p_X13_safer_89 n) (N := N) (fun e k99 s gne he => hin d e _ k99 s gne (by omega) he) 10 0 fu s gne (by omega) (fu_lt (by decide))
    obtain ⟨ne, i1⟩ := ih (d + 1) n (fE P c N d 10 0 s) n1 (by omega) (by omega)
    refine ⟨ne, ?_⟩
    unfold p_X13_safer_89
    rw [if_neg (le_f (c := 10) (by omega) (by decide))]
    exact t1.trans i1
theorem m_38 {gvm : TM} {gla : TA} {V : MV} {D : MD} {x3 : Int32} (hv : VM gvm V) (hov : OV V) (h : DM gvm D) (hl : LA gla D) (ho : OD (vO V) D) {a b : Nat} (hab : a ≤ b) (hb : b ≤ 40) : ∀ (k o n : Nat) (gsp : TA × TA) (gne : TA), o + k = vO V → k < n → (∀ i, i < o → gsp.1 i = iI (spZ (nO D i) a b)) → ∃ gsp' ne, p_X13_safer_38 n 0 gvm gla gne gsp (nI a) (nI b) x3 (nI o) = p_X13_safer_89 fu 0 gvm gla ne gsp' (nI a) (nI b) x3 0 (-1) 0 ∧ SPm gsp' gvm (vO V) D a b := by
  have h5 := hov.1
  intro k
  induction k with
  | zero =>
    intro o n gsp gne hk hn hg
    obtain ⟨n, rfl⟩ : ∃ m, n = m + 1 := ⟨n - 1, by omega⟩
    have hk : o = vO V := by omega
    subst hk
    obtain ⟨w, w1, w2⟩ := m_copies (n := 10) (by decide) gvm.2.2.2.2.2.2.2.2.2.1 gsp.2
    refine ⟨(gsp.1, w), gne, ?_, hg, w2⟩
    unfold p_X13_safer_38
    rw [hv.1, if_pos (nI_le (Nat.le_refl _) (by omega)), w1, some_bind']
  | succ k ih =>
    intro o n gsp gne hk hn hg
    obtain ⟨n, rfl⟩ : ∃ m, n = m + 1 := ⟨n - 1, by omega⟩
    obtain ⟨n1, t1⟩ := m_spanOf h hl ho h5 (show o < 5 by omega) hab hb gne
    obtain ⟨g', ne, i1, i2⟩ := ih (o + 1) n (upd gsp.1 o (iI (spZ (nO D o) a b)), gsp.2) n1 (by omega) (by omega) (fun i hi => by
      by_cases e : i = o
      · subst e; exact pk_us
      · exact (pk_un e).trans (hg i (by omega)))
    refine ⟨g', ne, ?_, i2⟩
    unfold p_X13_safer_38
    rw [hv.1, if_neg (nI_ge (by omega) (by omega)), t1, some_bind', if_pos (ix_nI (by omega) (by decide)), cl_nI (by omega), nI_1]
    exact i1
theorem q_safer {gvn : TV} {gdn : TD} {gcn : TR} {gvm : TM} {grc : TRm} {S : MS} (hc : CS gvn gdn gcn S) (hr : RS gvm grc S) (ho : OS S) (gth x1 x2 x3 : Int32) (gne : TN) (gla gnm : TA) (gsp : TA × TA) : ∃ v gne' r t la nm sp, p_X12_safer gdn gne x1 x2 x3 = some (v, gne') ∧ p_X13_safer gth gvm gla gnm gsp x1 x2 x3 = some (r, t, gvm, la, nm, sp) ∧ Ag2 v r t := by
  have h5 := ho.1.1
  unfold p_X12_safer p_X13_safer
  have hw : (∃ j, j < 4 ∧ x3 = nI j ∧ p_X12_needWhat x3 3 = some (.inl (), ()) ∧ p_X13_within x3 0 3 = some 1) ∨ (p_X12_needWhat x3 3 = some (.inr 1, ()) ∧ p_X13_within x3 0 3 = some 0) := by
    unfold p_X12_needWhat
    rcases q_ix x3 4 (by decide) with h | h | ⟨j, hj, rfl⟩
    · right; exact ⟨by rw [if_pos h], within_out (n := 3) (by decide) (Or.inl h)⟩
    · right
      refine ⟨?_, within_out (n := 3) (by decide) (Or.inr h)⟩
      rw [if_neg h.1, if_neg (fun e => by
        rw [Int32.le_iff_toInt_le] at e
        have h3 : (3 : Int32).toInt = 3 := by decide
        have := h.2.2
        omega)]
    · left
      refine ⟨j, hj, rfl, ?_, within_in (n := 3) (by omega) (by decide)⟩
      rw [if_neg (nI_pos (by omega)), if_pos (ler_t (c := 3) (by omega) (by decide))]
  rcases hw with ⟨j, hj, hx, e1, e2⟩ | ⟨e1, e2⟩
  · rw [e1, some_bind', xb_l, e2, some_bind', r_ok, some_bind', if_neg n10]
    simp only []
    rcases g_span x1 x2 0 rfl with ⟨a, b, hab, hb, rfl, rfl, e3, e4⟩ | ⟨e3, e4⟩
    · obtain ⟨g', f1, f2⟩ := c_fill hc.2.1 ho.2.1 h5 gne
      obtain ⟨la, l1, l2⟩ := m_lay hr.2.1 ho.2.1 gla
      obtain ⟨sp, n1, s1, s2⟩ := m_38 (x3 := x3) hr.1 ho.1 hr.2.1 l2 ho.2.1 hab hb (vO S.1) 0 fu gsp gnm (by omega) (fu_lt (by omega)) (fun i hi => absurd hi (by omega))
      have s1 : p_X13_safer_38 fu 0 gvm la gnm gsp (nI a) (nI b) x3 0 = _ := s1
      rw [e3, some_bind', xb_l, e4, some_bind', if_neg n10, f1, some_bind', l1, some_bind', s1]
      unfold p_X12_safer_57 p_X12_safer_38
      by_cases h2 : (2 : Int32) ≤ x3
      · obtain ⟨nm, t1⟩ := m_89 (gvm := gvm) (gla := la) (gsp := sp) (x3 := x3) (P := P3 S.2.1 a b) (c := cd3) (N := 10) (a := a) (b := b) (fun d e k89 k99 s gne hd he => m_109b hr.2.1 l2 ho.2.1 h5 s2 hab hb hd he h2 10 0 fu s gne (by omega) (fu_lt (by decide))) 10 0 fu (0, -1) n1 (by omega) (fu_lt (by decide))
        have t1 : p_X13_safer_89 fu 0 gvm la n1 sp (nI a) (nI b) x3 0 (-1) 0 = _ := t1
        rw [if_pos h2, t1]
        by_cases h3 : x3 = 2
        · have r1 := c_rg_6 (x3 := 1) hc.2.1 f2 ho.2.1 h5 hab hb 10 0 fu (0, -1) (by omega) (fu_lt (by decide)) (fun c => absurd c n10)
          have r1 : p_X12_saferRings gdn g' (nI a) (nI b) 1 = _ := r1
          rw [if_pos h3, r1, some_bind', if_neg n10, if_pos (by rw [h3]; decide)]
          exact ⟨_, _, _, _, _, _, _, rfl, rfl, Or.inl ⟨rfl, rfl⟩⟩
        · have r1 := c_rg_6 (x3 := 0) hc.2.1 f2 ho.2.1 h5 hab hb 10 0 fu (0, -1) (by omega) (fu_lt (by decide)) (fun _ => rfl)
          have r1 : p_X12_saferRings gdn g' (nI a) (nI b) 0 = _ := r1
          have hj3 : j = 3 := by
            have : j ≠ 2 := fun c => h3 (by rw [hx, c]; rfl)
            have : ¬ j < 2 := fun c => by rw [hx] at h2; exact absurd h2 (le_f (c := 2) c (by decide))
            omega
          rw [if_neg h3, r1, some_bind', if_pos rfl, if_neg (by rw [hx, hj3]; decide)]
          exact ⟨_, _, _, _, _, _, _, rfl, rfl, Or.inl ⟨rfl, rfl⟩⟩
      · obtain ⟨nm, t1⟩ := m_89 (gvm := gvm) (gla := la) (gsp := sp) (x3 := x3) (P := P2 S.2.1 a b) (c := cd2) (N := 1) (a := a) (b := b) (fun d e k89 k99 s gne hd he => m_109a hr.2.1 l2 ho.2.1 h5 s2 hab hb hd he h2 999998 s gne) 10 0 fu (0, -1) n1 (by omega) (fu_lt (by decide))
        have t1 : p_X13_safer_89 fu 0 gvm la n1 sp (nI a) (nI b) x3 0 (-1) 0 = _ := t1
        rw [if_neg h2, t1]
        by_cases h3 : x3 = 0
        · have r1 := c_cp_6 (x3 := 1) hc.2.1 f2 ho.2.1 h5 hab hb 10 0 fu (0, -1) (by omega) (fu_lt (by decide)) (fun c => absurd c n10)
          have r1 : p_X12_saferCouples gdn g' (nI a) (nI b) 1 = _ := r1
          rw [if_pos h3, r1, some_bind', if_neg n10, if_pos (by rw [h3]; decide)]
          exact ⟨_, _, _, _, _, _, _, rfl, rfl, Or.inl ⟨rfl, rfl⟩⟩
        · have r1 := c_cp_6 (x3 := 0) hc.2.1 f2 ho.2.1 h5 hab hb 10 0 fu (0, -1) (by omega) (fu_lt (by decide)) (fun _ => rfl)
          have r1 : p_X12_saferCouples gdn g' (nI a) (nI b) 0 = _ := r1
          have hj3 : j = 1 := by
            have : j ≠ 0 := fun c => h3 (by rw [hx, c]; rfl)
            have : j < 2 := Nat.lt_of_not_le (fun c => h2 (by rw [hx]; exact le_t (c := 2) c (by omega)))
            omega
          rw [if_neg h3, r1, some_bind', if_pos rfl, if_neg (by rw [hx, hj3]; decide)]
          exact ⟨_, _, _, _, _, _, _, rfl, rfl, Or.inl ⟨rfl, rfl⟩⟩
    · rw [e3, e4]; exact ⟨_, _, _, _, _, _, _, rfl, rfl, Or.inr (Or.inr ⟨rfl, rfl⟩)⟩
  · rw [e1, e2]; exact ⟨_, _, _, _, _, _, _, rfl, rfl, Or.inr (Or.inl ⟨rfl, rfl⟩)⟩
