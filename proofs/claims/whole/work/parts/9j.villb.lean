-- the whole state
def Img (gg : TG) (gvk : TV) (gdk : TD) (gck : TR) (gvm gim : TM) : Prop := (gg.2.2.2.2.2 = 0 ∧ gim.1 = 0) ∨ (gg.2.2.2.2.2 = 1 ∧ gim.1 = 1 ∧ ∃ S, CS gvk gdk gck S ∧ RS (IMm gvm gim) (IMr gim) S ∧ OS S)
def Inv (gg : TG) (gvn : TV) (gdn : TD) (gcn : TR) (gvk : TV) (gdk : TD) (gck : TR) (gtx : TA) (gvm : TM) (gtt : TA) (gtd : Int32) (gfl : Int32 × Int32) (grf : TA) (grc : TRm) (gim : TM) : Prop :=
  ∃ S m, CS gvn gdn gcn S ∧ RS gvm grc S ∧ OS S ∧ m ≤ 600 ∧ gg.1 = nI m ∧ gtd = nI m ∧ TP gtx gtt m ∧ gg.2.1 = gfl.2 ∧ gg.2.2.1 = grf 0 ∧ gg.2.2.2.1 = grf 1 ∧ gg.2.2.2.2.1 = grf 2 ∧ Img gg gvk gdk gck gvm gim
theorem tK_end (C : Nat → Nat) (n : Nat) : tK C n n = 0 := by
  unfold tK tS
  rw [Nat.sub_self]
  exact if_pos (Nat.le_refl _)
theorem q_vloop {gtx gtt : TA} {C : Nat → Nat} {n : Nat} (h : TX gtx gtt C n) (gc : TR) {gvm gim : TM} {gtd fp : Int32} {grf : TA} {grc : TRm} : ∀ (k p i m1 m2 : Nat) (gvr : Int32 × Int32) (r : R5) (gv : TV) (gd : TD) (g : RDm) (gnv : TNv) (V : MV) (D : MD) (nd : Nat) (lt : Bool), n - p = k → p ≤ n → k < m1 → k + 1 < m2 → i ≤ p → RRd g C n p → VI gv gd gvr gnv V D nd lt →
  (∃ q r' gv' gd' gvr' g' gnv' V' D' nd' lt', p_X10_readAll_24 gtx m1 gvr (rdC C n p r) gv gd gc (nI i) = some (1, gvr', rdC C n q r', (gv'.1, nI (sN (vG V') (vO V')), gv'.2.2), gd', gc) ∧ r'.1 = r.1 ∧ r'.2.1 = r.2.1 ∧ p_X13_village_62 gtt m2 0 gvm gtd (0, fp) grf g gnv grc gim = p_X13_village_83 gtt 0 gvm gtd (0, fp) grf g' gnv' grc gim ∧ VI gv' gd' gvr' gnv' V' D' nd' lt') ∨ ∃ w s gvr' gr' gv' gd' g' gnv', w ≠ 0 ∧ p_X10_readAll_24 gtx m1 gvr (rdC C n p r) gv gd gc (nI i) = some (0, gvr', gr', gv', gd', gc) ∧ Rfs gr' w s ∧ p_X13_village_62 gtt m2 0 gvm gtd (0, fp) grf g gnv grc gim = p_X13_village_83 gtt 0 gvm gtd (w, nI s) grf g' gnv' grc gim := by
  have h6 := h.1
  intro k
  induction k using Nat.strongRecOn with
  | ind k ih =>
    intro p i m1 m2 gvr r gv gd g gnv V D nd lt hk hp hm1 hm2 hi hg hv
    obtain ⟨m1, rfl⟩ : ∃ a, m1 = a + 1 := ⟨m1 - 1, by omega⟩
    obtain ⟨m2, rfl⟩ : ∃ a, m2 = a + 1 := ⟨m2 - 1, by omega⟩
    have hb := tk_b C hp
    have hki := kap_i (tK C n p) (by omega)
    by_cases hend : tK C n p = 0
    · left
      refine ⟨p, r, gv, gd, gvr, g, gnv, V, D, nd, lt, ?_, rfl, rfl, ?_, hv⟩
      · unfold p_X10_readAll_24 p_X7_hasMore p_X10_readAll_57
        rw [show (rdC C n p r).2.1 = kap (tK C n p) from rfl, if_pos (hki.1.2 hend), some_bind', if_pos rfl, c_allGoats hv.1.1 hv.1.2.2.1, some_bind', ite_self]
      · unfold p_X13_village_62
        rw [good0, some_bind', if_neg n10, hg.2.2.1, if_pos (eq_t (c := 0) hend)]
    · have hpn : p < n := Nat.lt_of_le_of_ne hp (fun e => hend (by rw [e]; exact tK_end C n))
      have e1 : p_X10_readAll_24 gtx (m1 + 1) gvr (rdC C n p r) gv gd gc (nI i) = ((p_X10_readLine gvr (rdC C n p r) gtx gv gd).bind fun v5 => (if v5.1 = 0 then some (0, (v5.2.1, v5.2.2.1, v5.2.2.2.1, v5.2.2.2.2, gc)) else p_X10_readAll_24 gtx m1 v5.2.1 v5.2.2.1 v5.2.2.2.1 v5.2.2.2.2 gc (nI (i + 1)))) := by
        conv => lhs; unfold p_X10_readAll_24
        unfold p_X7_hasMore
        rw [if_neg (le_f (c := 600) (by omega) (by decide)), show (rdC C n p r).2.1 = kap (tK C n p) from rfl, if_neg (fun e => hend (hki.1.1 e)), some_bind', if_neg n10, nI_1]
      have e2 : p_X13_village_62 gtt (m2 + 1) 0 gvm gtd (0, fp) grf g gnv grc gim = ((p_X13_line gtt (0, fp) g gnv).bind fun v5 => p_X13_village_62 gtt m2 0 gvm gtd v5.1 grf v5.2.1 v5.2.2 grc gim) := by
        conv => lhs; unfold p_X13_village_62
        rw [good0, some_bind', if_neg n10, hg.2.2.1, if_neg (eq_f (c := 0) hend (by omega) (by decide))]
      rw [e1, e2]
      rcases q_line h hp r fp hg hv with ⟨q, r', gv', gd', gvr', g', gnv', V', D', nd', lt', q1, q2, cl, f1, f2, rf, hg', hv'⟩ | ⟨w, s, gvr', gr', gv', gd', g', gnv', hw, cl, hr, rf⟩
      · rw [cl, some_bind', if_neg n10, rf, some_bind']
        rcases ih (n - q) (by omega) q (i + 1) m1 m2 gvr' r' gv' gd' g' gnv' V' D' nd' lt' rfl q2 (by omega) (by omega) (by omega) hg' hv' with ⟨q', r2, a1, a2, a3, a4, a5, a6, a7, a8, a9, b1, b2, b3, b4, b5⟩ | hbad
        · left; exact ⟨q', r2, a1, a2, a3, a4, a5, a6, a7, a8, a9, b1, b2.trans f1, b3.trans f2, b4, b5⟩
        · right; exact hbad
      · right
        refine ⟨w, s, gvr', gr', gv', gd', g', gnv', hw, by rw [cl]; rfl, hr, ?_⟩
        obtain ⟨m2, rfl⟩ : ∃ a, m2 = a + 1 := ⟨m2 - 1, by omega⟩
        rw [rf, some_bind']
        unfold p_X13_village_62
        rw [bad_good hw, some_bind', if_pos rfl]
theorem m_clears_22 : ∀ (k j m : Nat) (gvm : TM), j + k = 25 → k < m → (∀ i, i < j → gvm.2.2.2.2.2.2.1 i = 0) → ∃ t, p_X13_clears_22 m gvm (nI j) = some (gvm.1, gvm.2.1, gvm.2.2.1, gvm.2.2.2.1, gvm.2.2.2.2.1, gvm.2.2.2.2.2.1, t, gvm.2.2.2.2.2.2.2) ∧ ∀ i, i < 25 → t i = 0 := by
  intro k
  induction k with
  | zero =>
    intro j m gvm hj hm h
    obtain ⟨m, rfl⟩ : ∃ a, m = a + 1 := ⟨m - 1, by omega⟩
    refine ⟨gvm.2.2.2.2.2.2.1, ?_, fun i hi => h i (by omega)⟩
    unfold p_X13_clears_22
    rw [if_pos (le_t (c := 25) (by omega) (by omega))]
  | succ k ih =>
    intro j m gvm hj hm h
    obtain ⟨m, rfl⟩ : ∃ a, m = a + 1 := ⟨m - 1, by omega⟩
    obtain ⟨t, a1, a2⟩ := ih (j + 1) m (gvm.1, gvm.2.1, gvm.2.2.1, gvm.2.2.2.1, gvm.2.2.2.2.1, gvm.2.2.2.2.2.1, upd gvm.2.2.2.2.2.2.1 j 0, gvm.2.2.2.2.2.2.2) (by omega) (by omega) (fun i hi => by
      by_cases e : i = j
      · subst e; exact pk_us
      · exact (pk_un e).trans (h i (by omega)))
    refine ⟨t, ?_, a2⟩
    unfold p_X13_clears_22
    rw [if_neg (le_f (c := 25) (by omega) (by decide)), if_pos (ix_nI (by omega) (by decide)), cl_nI (by omega), nI_1]
    exact a1
theorem m_clears_2 : ∀ (k j m : Nat) (gvm : TM), j + k = 5 → k < m → (∀ i, i < j → gvm.2.2.2.2.2.1 i = 0) → ∃ t u, p_X13_clears_2 m gvm (nI j) = some (gvm.1, gvm.2.1, gvm.2.2.1, gvm.2.2.2.1, gvm.2.2.2.2.1, t, u, gvm.2.2.2.2.2.2.2) ∧ (∀ i, i < 5 → t i = 0) ∧ ∀ i, i < 25 → u i = 0 := by
  intro k
  induction k with
  | zero =>
    intro j m gvm hj hm h
    obtain ⟨m, rfl⟩ : ∃ a, m = a + 1 := ⟨m - 1, by omega⟩
    obtain ⟨u, a1, a2⟩ := m_clears_22 25 0 fu gvm (by omega) (fu_lt (by decide)) (fun i hi => by omega)
    refine ⟨gvm.2.2.2.2.2.1, u, ?_, fun i hi => h i (by omega), a2⟩
    unfold p_X13_clears_2
    rw [if_pos (le_t (c := 5) (by omega) (by omega))]
    exact a1
  | succ k ih =>
    intro j m gvm hj hm h
    obtain ⟨m, rfl⟩ : ∃ a, m = a + 1 := ⟨m - 1, by omega⟩
    obtain ⟨t, u, a1, a2, a3⟩ := ih (j + 1) m (gvm.1, gvm.2.1, gvm.2.2.1, gvm.2.2.2.1, gvm.2.2.2.2.1, upd gvm.2.2.2.2.2.1 j 0, gvm.2.2.2.2.2.2) (by omega) (by omega) (fun i hi => by
      by_cases e : i = j
      · subst e; exact pk_us
      · exact (pk_un e).trans (h i (by omega)))
    refine ⟨t, u, ?_, a2, a3⟩
    unfold p_X13_clears_2
    rw [if_neg (le_f (c := 5) (by omega) (by decide)), if_pos (ix_nI (by omega) (by decide)), cl_nI (by omega), nI_1]
    exact a1
theorem m_clears (gvm : TM) : ∃ t u, p_X13_clears gvm = some (gvm.1, gvm.2.1, gvm.2.2.1, gvm.2.2.2.1, gvm.2.2.2.2.1, t, u, gvm.2.2.2.2.2.2.2) ∧ (∀ i, i < 5 → t i = 0) ∧ ∀ i, i < 25 → u i = 0 := m_clears_2 5 0 fu gvm (by omega) (fu_lt (by decide)) (fun i hi => by omega)
theorem m_v203 {gtt : TA} {gtd : Int32} {gfl : Int32 × Int32} {grf : TA} {g : RDm} {gnv : TNv} {grc : TRm} {gim : TM} {nd : Nat} (hn : gnv.2.1 = nI nd) (hnd : nd ≤ 10) : ∀ (k j m : Nat) (gvm : TM), j + k = 10 → k < m → (∀ d, d < j → gvm.2.2.2.2.2.2.2.1 d = (if d < nd then 1 else 0)) → ∃ hs t u, p_X13_village_203 gtt m 0 gvm gtd gfl grf g gnv grc gim (nI j) = some (0, 0, (gvm.1, gvm.2.1, gvm.2.2.1, gvm.2.2.2.1, gvm.2.2.2.2.1, t, u, hs, gvm.2.2.2.2.2.2.2.2), gtd, gfl, grf, g, gnv, (0, grc.2), (0, gim.2)) ∧ (∀ d, d < 10 → hs d = (if d < nd then 1 else 0)) ∧ (∀ i, i < 5 → t i = 0) ∧ ∀ i, i < 25 → u i = 0 := by
  intro k
  induction k with
  | zero =>
    intro j m gvm hj hm h
    obtain ⟨m, rfl⟩ : ∃ a, m = a + 1 := ⟨m - 1, by omega⟩
    obtain ⟨t, u, a1, a2, a3⟩ := m_clears gvm
    refine ⟨gvm.2.2.2.2.2.2.2.1, t, u, ?_, fun d hd => h d (by omega), a2, a3⟩
    unfold p_X13_village_203
    rw [if_pos (le_t (c := 10) (by omega) (by omega)), a1]
    rfl
  | succ k ih =>
    intro j m gvm hj hm h
    obtain ⟨m, rfl⟩ : ∃ a, m = a + 1 := ⟨m - 1, by omega⟩
    obtain ⟨hs, t, u, a1, a2, a3, a4⟩ := ih (j + 1) m (gvm.1, gvm.2.1, gvm.2.2.1, gvm.2.2.2.1, gvm.2.2.2.2.1, gvm.2.2.2.2.2.1, gvm.2.2.2.2.2.2.1, upd gvm.2.2.2.2.2.2.2.1 j (if j < nd then 1 else 0), gvm.2.2.2.2.2.2.2.2) (by omega) (by omega) (fun d hd => by
      by_cases e : d = j
      · subst e; exact pk_us
      · exact (pk_un e).trans (h d (by omega)))
    refine ⟨hs, t, u, ?_, a2, a3, a4⟩
    unfold p_X13_village_203 p_X13_village_227
    rw [if_neg (le_f (c := 10) (by omega) (by decide)), hn, if_pos (ix_nI (by omega) (by decide)), if_pos (ix_nI (by omega) (by decide)), cl_nI (by omega), nI_1]
    by_cases e : j < nd
    · rw [if_neg (nI_ge e (by omega))]
      rw [if_pos e] at a1; exact a1
    · rw [if_pos (nI_le (by omega) (by omega))]
      rw [if_neg e] at a1; exact a1
theorem m_v83 {gtt : TA} {gtd : Int32} {fp : Int32} {grf : TA} {g : RDm} {gnv : TNv} {grc : TRm} {gvm gim : TM} {gv : TV} {gd : TD} {gvr : Int32 × Int32} {V : MV} {D : MD} {nd : Nat} {lt : Bool} (hv : VI gv gd gvr gnv V D nd lt) : ∃ gvm' S, p_X13_village_83 gtt 0 gvm gtd (0, fp) grf g gnv grc gim = some (0, 0, gvm', gtd, (0, fp), grf, g, gnv, (0, grc.2), (0, gim.2)) ∧ RS gvm' (0, grc.2) S ∧ OS S ∧ ∀ gc : TA × TA × TA, CS (gv.1, nI (sN (vG V) (vO V)), gv.2.2) gd (0, gc) S := by
  obtain ⟨⟨v1, v2, v3, v4, v5, v6, v7, v8, v9⟩, b1, b2, b3, b4, b5, b6, b7, b8⟩ := hv
  have h5 := v3.1
  obtain ⟨c1, x1, y1⟩ := m_copies (n := 5) (by decide) gnv.2.2.2.2.2.1 gvm.2.2.2.1
  obtain ⟨c2, x2, y2⟩ := m_copies (n := 5) (by decide) gnv.2.2.2.2.2.2.1 gvm.2.2.2.2.1
  obtain ⟨c3, x3, y3⟩ := m_copies (n := 10) (by decide) gnv.2.2.2.2.2.2.2.1 gvm.2.2.2.2.2.2.2.2.1
  obtain ⟨c4, x4, y4⟩ := m_copies (n := 10) (by decide) gnv.2.2.2.2.2.2.2.2.1 gvm.2.2.2.2.2.2.2.2.2.1
  obtain ⟨c5, x5, y5⟩ := m_copies (n := 10) (by decide) gnv.2.2.2.2.2.2.2.2.2.1 gvm.2.2.2.2.2.2.2.2.2.2.1
  obtain ⟨c6, x6, y6⟩ := m_copies (n := 50) (by decide) gnv.2.2.2.2.2.2.2.2.2.2 gvm.2.2.2.2.2.2.2.2.2.2.2
  obtain ⟨hs, t, u, a1, a2, a3, a4⟩ := m_v203 (gtt := gtt) (gtd := gtd) (gfl := (0, fp)) (grf := grf) (g := g) (grc := grc) (gim := gim) b3 v6 10 0 fu (gnv.1, gnv.2.2.1, gnv.2.2.2.1, c1, c2, gvm.2.2.2.2.2.1, gvm.2.2.2.2.2.2.1, gvm.2.2.2.2.2.2.2.1, c3, c4, c5, c6) (by omega) (fu_lt (by decide)) (fun d hd => by omega)
  have a1 : p_X13_village_203 gtt fu 0 (gnv.1, gnv.2.2.1, gnv.2.2.2.1, c1, c2, gvm.2.2.2.2.2.1, gvm.2.2.2.2.2.2.1, gvm.2.2.2.2.2.2.2.1, c3, c4, c5, c6) gtd (0, fp) grf g gnv grc gim 0 = _ := a1
  refine ⟨(gnv.1, gnv.2.2.1, gnv.2.2.2.1, c1, c2, t, u, hs, c3, c4, c5, c6), (((vO V, sN (vG V) (vO V), V.2.2) : MV), D, ((0, fun _ => 0, fun _ => 0, fun _ => 0) : MR)), ?_, ⟨⟨b2, b5, fun i hi => ?_, fun i j hi hj => ?_⟩, ⟨b4, fun d hd => ⟨?_, fun hh => ?_⟩⟩, ⟨rfl, fun r hr => absurd hr (Nat.not_lt_zero _)⟩⟩, ⟨⟨v3.1, v3.2.2.1, v3.2.2.1, v3.2.2.2⟩, v4, ⟨Nat.zero_le _, fun r hr => absurd hr (Nat.not_lt_zero _)⟩⟩, fun gc => ⟨⟨v1.1, rfl, v1.2.2⟩, v2, ⟨rfl, fun r hr => absurd hr (Nat.not_lt_zero _)⟩⟩⟩
  · unfold p_X13_village_83
    rw [good0, some_bind', if_neg n10, x1, some_bind', x2, some_bind', x3, some_bind', x4, some_bind', x5, some_bind', x6, some_bind', a1]
  · have hi : i < vO V := hi
    show c1 i = nI (vG V i) ∧ c2 i = nI (vC V i) ∧ t i = nI (vH V i)
    rw [y1 i (by omega), y2 i (by omega), a3 i (by omega), v8 i]
    exact ⟨(b7 i hi).1, (b7 i hi).2, rfl⟩
  · show u (5 * i + j) = nI (vL V i j)
    rw [a4 _ (by omega), v9 i j]; rfl
  · show hs d = if dH D d then 1 else 0
    rw [a2 d hd, v5 d hd]
    by_cases e : d < nd
    · rw [if_pos e, if_pos (decide_eq_true e)]
    · rw [if_neg e, if_neg (by simp [e])]
  · have hh : dH D d = true := hh
    rw [v5 d hd] at hh
    have hdn := of_decide_eq_true hh
    have q := b8 d hdn
    have hm := (v4.2.2 d hd (by rw [v5 d hd]; exact hh)).2.1
    show c3 d = nI (dP D d) ∧ c4 d = nI (dQ D d) ∧ c5 d = nI (dM D d) ∧ ∀ k, k < dM D d → c6 (5 * d + k) = nI (dF D d k)
    rw [y3 d hd, y4 d hd, y5 d hd]
    exact ⟨q.1, q.2.1, q.2.2.1, fun k hk => by rw [y6 _ (by omega)]; exact q.2.2.2 k hk⟩
theorem q_bytes {gg : TG} {gtd : Int32} {m : Nat} (hm : m ≤ 600) (h1 : gg.1 = nI m) (h2 : gtd = nI m) (x : Int32) : (∃ n, n ≤ m ∧ x = nI n ∧ p_X12_needBytes gg x = some (.inl (), ()) ∧ ¬ x < 0 ∧ ¬ gtd < x) ∨ (p_X12_needBytes gg x = some (.inr 2, ()) ∧ (x < 0 ∨ (¬ x < 0 ∧ gtd < x))) := by
  unfold p_X12_needBytes
  rw [h1, h2]
  by_cases hx : x < 0
  · right; rw [if_pos hx]; exact ⟨rfl, Or.inl hx⟩
  · obtain ⟨n, hn, rfl⟩ := nI_of hx
    rw [if_neg hx]
    by_cases hnm : n ≤ m
    · left; exact ⟨n, hnm, rfl, by rw [if_pos (nI_le hnm (by omega))], hx, nI_nlt hnm (by omega)⟩
    · right; exact ⟨by rw [if_neg (nI_ge (by omega) (by omega))], Or.inr ⟨hx, nI_lt (by omega) (by omega)⟩⟩
theorem q_village {gg : TG} {gvn : TV} {gdn : TD} {gcn : TR} {gvk : TV} {gdk : TD} {gck : TR} {gtx : TA} {gvm : TM} {gtt : TA} {gtd : Int32} {gfl : Int32 × Int32} {grf : TA} {grc : TRm} {gim : TM} (hI : Inv gg gvn gdn gcn gvk gdk gck gtx gvm gtt gtd gfl grf grc gim) (gvd : TV) (gdd : TD) (gcd : TR) (gr : RD) (gvr : Int32 × Int32) (gth : Int32) (grd : RDm) (gnv : TNv) (x1 : Int32) : ∃ v gg' gvn' gdn' gcn' gvd' gdd' gcd' gr' gvr' r t gvm' gtd' gfl' grf' grd' gnv' grc' gim', p_X12_village gg gvn gdn gcn gvd gdd gcd gr gvr gtx x1 = some (v, gg', gvn', gdn', gcn', gvd', gdd', gcd', gr', gvr') ∧ p_X13_village gth gvm gtt gtd gfl grf grd gnv grc gim x1 = some (r, t, gvm', gtd', gfl', grf', grd', gnv', grc', gim') ∧ Ag1 2 v r t ∧ Inv gg' gvn' gdn' gcn' gvk gdk gck gtx gvm' gtt gtd' gfl' grf' grc' gim' := by
  obtain ⟨S, m, hc, hr, ho, hm, i1, i2, i3, i4, i5, i6, i7, i8⟩ := hI
  unfold p_X12_village p_X13_village p_X13_village_22 p_X13_village_23
  rcases q_bytes hm i1 i2 x1 with ⟨n, hn, hx, e1, e2, e3⟩ | ⟨e1, e2⟩
  · obtain ⟨C, hT⟩ := TX_of i3 hm hn
    rw [e1, some_bind', xb_l, if_neg e2, if_neg e3, show p_X13_right 0 1 1 = some (1, 0) from rfl, some_bind', if_neg n10]
    obtain ⟨g0, s1, s2⟩ := m_steps hT (Nat.zero_le n) grd.2.2
    have s1 : p_X13_steps gtt (x1, 0, grd.2.2) = some g0 := by rw [hx]; exact s1
    have hv0 : VI (0, 0, gvd.2.2) (0, 0, gdd.2.2) (0, 0) (0, 0, 0, 0, 0, gnv.2.2.2.2.2) ((0, 0, (fun _ => 0), (fun _ => 0), (fun _ => 0), fun _ _ => 0) : MV) ((0, 0, (fun _ => 0), (fun _ _ => 0), (fun _ => 0), fun _ => 0) : MD) 0 false := by
      refine ⟨⟨⟨rfl, rfl, fun i hi => absurd hi (Nat.not_lt_zero _)⟩, ⟨rfl, rfl, fun d _ hh => ?_⟩, ⟨by decide, by decide, by decide, fun i hi => absurd hi (Nat.not_lt_zero _)⟩, ⟨by decide, by decide, fun d _ hh => ?_⟩, fun d _ => ?_, by decide, rfl, fun _ => rfl, fun _ _ => rfl⟩, rfl, rfl, rfl, rfl, rfl, rfl, fun i hi => absurd hi (Nat.not_lt_zero _), fun d hd => absurd hd (Nat.not_lt_zero _)⟩
      · have hh : Nat.testBit 0 d = true := hh
        rw [Nat.zero_testBit] at hh; cases hh
      · have hh : Nat.testBit 0 d = true := hh
        rw [Nat.zero_testBit] at hh; cases hh
      · show Nat.testBit 0 d = _
        rw [Nat.zero_testBit, decide_eq_false (Nat.not_lt_zero _)]
    have hop : p_X7_open gr gtx x1 = some (rdC C n 0 (0, -1, gr.2.2.2.2.2.2)) := by rw [hx]; exact c_open hT gr
    unfold p_X10_readAll p_X9_empty p_X4_empty p_X13_opens
    rw [some_bind', some_bind', hop, some_bind', s1, some_bind', some_bind']
    rcases q_vloop (gvm := gvm) (gim := gim) (gtd := 0) (fp := -1) (grf := grf) (grc := grc) hT (0, gcd.2) n 0 0 fu fu (0, 0) (0, -1, gr.2.2.2.2.2.2) (0, 0, gvd.2.2) (0, 0, gdd.2.2) g0 (0, 0, 0, 0, 0, gnv.2.2.2.2.2) _ _ 0 false (by omega) (by omega) (fu_lt (by omega)) (fu_lt (by omega)) (by omega) s2 hv0 with ⟨q, r', gv', gd', gvr', g', gnv', V', D', nd', lt', cl, f1, f2, rf, hv'⟩ | ⟨w, s, gvr', gr', gv', gd', g', gnv', hw, cl, hr', rf⟩
    · have cl : p_X10_readAll_24 gtx fu (0, 0) (rdC C n 0 (0, -1, gr.2.2.2.2.2.2)) (0, 0, gvd.2.2) (0, 0, gdd.2.2) (0, gcd.2) 0 = _ := cl
      obtain ⟨gvm', S', m1, m2, m3, m4⟩ := m_v83 (gtt := gtt) (gtd := 0) (fp := -1) (grf := grf) (g := g') (grc := grc) (gvm := gvm) (gim := gim) hv'
      obtain ⟨gvn', gdn', gcn', k1, k2⟩ := c_copyFrom (gv0 := gvn) (gd0 := gdn) (gc0 := gcn) (m4 gcd.2) m3
      simp only []
      rw [cl, some_bind', if_neg n10, k1, some_bind', rf, m1]
      refine ⟨_, _, _, _, _, _, _, _, _, _, _, _, _, _, _, _, _, _, _, _, rfl, rfl, Or.inl ⟨rfl, rfl⟩, S', 0, k2, m2, m3, by omega, rfl, rfl, fun j hj => absurd hj (Nat.not_lt_zero _), ?_, i5, i6, i7, Or.inl ⟨rfl, rfl⟩⟩
      show r'.2.1 = _
      rw [f2]
    · have cl : p_X10_readAll_24 gtx fu (0, 0) (rdC C n 0 (0, -1, gr.2.2.2.2.2.2)) (0, 0, gvd.2.2) (0, 0, gdd.2.2) (0, gcd.2) 0 = _ := cl
      simp only []
      rw [cl, some_bind', if_pos rfl, rf]
      unfold p_X13_village_83
      rw [bad_good hw, some_bind', if_pos rfl, if_pos (by decide), if_pos (by decide)]
      refine ⟨_, _, _, _, _, _, _, _, _, _, _, _, _, _, _, _, _, _, _, _, rfl, rfl, Or.inl ⟨by rw [show gr'.2.2.2.2.1 = w from hr'.1], rfl⟩, S, 0, hc, hr, ho, by omega, rfl, rfl, fun j hj => absurd hj (Nat.not_lt_zero _), hr'.2, ?_, i6, i7, i8⟩
      show gg.2.2.1 + 1 = grf 0 + 1
      rw [i5]
  · rw [e1, some_bind', xb_r]
    have hno : ∃ q, q = (if x1 < 0 then (some ((0 : Int32), (1 : Int32), gvm, gtd, gfl, grf, grd, gnv, grc, gim)) else some (0, 1, gvm, gtd, gfl, grf, grd, gnv, grc, gim)) := ⟨_, rfl⟩
    rw [show p_X13_right 0 0 1 = some (0, 1) from rfl, some_bind', if_pos rfl]
    rcases e2 with e2 | ⟨e2, e3⟩
    · rw [if_pos e2]
      exact ⟨_, _, _, _, _, _, _, _, _, _, _, _, _, _, _, _, _, _, _, _, rfl, rfl, Or.inr ⟨rfl, rfl⟩, S, m, hc, hr, ho, hm, i1, i2, i3, i4, i5, i6, i7, i8⟩
    · rw [if_neg e2, if_pos e3]
      exact ⟨_, _, _, _, _, _, _, _, _, _, _, _, _, _, _, _, _, _, _, _, rfl, rfl, Or.inr ⟨rfl, rfl⟩, S, m, hc, hr, ho, hm, i1, i2, i3, i4, i5, i6, i7, i8⟩
