-- days, done
theorem q_doDay {gtx gtt : TA} {C : Nat → Nat} {n q : Nat} {gv : TV} {gd : TD} {gvm : TM} {gac : TAc} {V : MV} {D : MD} {gdr : TDr} {r : R5} {j k a b m ml s0 : Nat} (ht : TX gtx gtt C n) (h : DS gv gd gvm V D) (hj : j < 120) (hF : DF C n (vO V) k a b m ml s0) (hA : AC C gac j k a b m ml s0) (g1 : gdr.1 = k) (g2 : k ≠ 4 → gdr.2.1 = nI a) (g3 : k = 2 ∨ k = 6 ∨ k = 7 → gdr.2.2.1 = nI b) (g4 : k ≤ 3 → gdr.2.2.2.1 = nI m) (g5 : k = 6 → r.2.2.2.1 = nI ml ∧ r.2.2.2.2 = nI s0) : QDo gv gd gvm (p_X3_doDay gdr (rdC C n q r) gtx gv gd) (p_X13_does gvm gac (nI j)) := by
  have hk := hF.1
  obtain ⟨v4, f1, f2, f3⟩ := m_free h.2.2.2.1
  rw [m_does hj hA f1 hk]
  unfold p_X3_doDay
  rw [g1, if_pos hk, if_pos (ix_nI hk (by decide)), cl_nI (by omega)]
  have h8 : k = 0 ∨ k = 1 ∨ k = 2 ∨ k = 3 ∨ k = 4 ∨ k = 5 ∨ k = 6 ∨ k = 7 := by omega
  rcases h8 with e | e | e | e | e | e | e | e <;> subst e
  · rw [if_pos (by decide), if_pos (by decide), g2 (by omega), g4 (by omega)]
    exact q_bear h (hF.2.1 (by omega)) (hF.2.2.2.2.2.1 (by omega))
  · rw [if_neg (by decide), if_pos (by decide), if_neg (by decide), if_pos (by decide), g2 (by omega), g4 (by omega)]
    exact q_eat h (hF.2.1 (by omega)) (hF.2.2.2.2.2.1 (by omega))
  · rw [if_neg (by decide), if_neg (by decide), if_pos (by decide), if_neg (by decide), if_neg (by decide), if_pos (by decide), g2 (by omega), g3 (by omega), g4 (by omega)]
    exact q_lend h (hF.2.1 (by omega)) (hF.2.2.1 (by omega)).1 (hF.2.2.2.2.2.1 (by omega))
  · rw [if_neg (by decide), if_neg (by decide), if_neg (by decide), if_pos (by decide), if_neg (by decide), if_neg (by decide), if_neg (by decide), if_pos (by decide), g2 (by omega), g4 (by omega)]
    exact q_hide h (hF.2.1 (by omega)) (hF.2.2.2.2.2.1 (by omega))
  · rw [if_neg (by decide), if_neg (by decide), if_neg (by decide), if_neg (by decide), if_pos (by decide), if_neg (by decide), if_neg (by decide), if_neg (by decide), if_neg (by decide), if_pos (by decide)]
    exact q_census h
  · rw [if_neg (by decide), if_neg (by decide), if_neg (by decide), if_neg (by decide), if_neg (by decide), if_pos (by decide), if_neg (by decide), if_neg (by decide), if_neg (by decide), if_neg (by decide), if_neg (by decide), if_pos (by decide), g2 (by omega)]
    exact q_rub h (hF.2.2.2.1 (by omega))
  · have w := hF.2.2.2.2.2.2 rfl
    have w2 := hF.2.2.1 (by omega)
    rw [if_neg (by decide), if_neg (by decide), if_neg (by decide), if_neg (by decide), if_neg (by decide), if_neg (by decide), if_pos (by decide), if_neg (by decide), if_neg (by decide), if_neg (by decide), if_neg (by decide), if_neg (by decide), if_neg (by decide), if_pos (by decide), g2 (by omega), g3 (by omega)]
    exact q_write ht h hj (hF.2.1 (by omega)) w2.1 w2.2 w.1 w.2.1 w.2.2.1 w.2.2.2 (g5 rfl).1 (g5 rfl).2 (hA.2.2.2.2.2 rfl) f2 f3
  · have w2 := hF.2.2.2.2.1 rfl
    rw [if_neg (by decide), if_neg (by decide), if_neg (by decide), if_neg (by decide), if_neg (by decide), if_neg (by decide), if_neg (by decide), if_pos (by decide), if_neg (by decide), if_neg (by decide), if_neg (by decide), if_neg (by decide), if_neg (by decide), if_neg (by decide), if_neg (by decide), g2 (by omega), g3 (by omega)]
    exact q_swap h (hF.2.2.2.1 (by omega)) w2.1 w2.2
/-- k days more, from day j at p on -/
def Sq (gtx : TA) (C : Nat → Nat) (n O : Nat) (gac : TAc) : Nat → Nat → Nat → Prop
  | 0, _, p => tK C n p = 0
  | k + 1, j, p => tK C n p ≠ 0 ∧ ∃ q kd a b m ml s0, p + 5 ≤ q ∧ q ≤ n ∧ DO gtx C n O p q kd a b m ml s0 ∧ DF C n O kd a b m ml s0 ∧ AC C gac j kd a b m ml s0 ∧ Sq gtx C n O gac k (j + 1) q
theorem AC_cong {C : Nat → Nat} {gac gac' : TAc} {j k a b m ml s0 : Nat} (h : AC C gac j k a b m ml s0) (hm : k = 6 → ml ≤ 5) (e : ∀ i, i < 5 * (j + 1) → gac'.2.1 i = gac.2.1 i ∧ gac'.2.2 i = gac.2.2 i) : AC C gac' j k a b m ml s0 := by
  refine ⟨?_, ?_, ?_, ?_, ?_, fun hk i hi => ?_⟩
  · rw [(e _ (by omega)).1]; exact h.1
  · rw [(e _ (by omega)).1]; exact h.2.1
  · rw [(e _ (by omega)).1]; exact h.2.2.1
  · rw [(e _ (by omega)).1]; exact h.2.2.2.1
  · rw [(e _ (by omega)).1]; exact h.2.2.2.2.1
  · have := hm hk
    rw [(e _ (by omega)).2]; exact h.2.2.2.2.2 hk i hi
theorem q_dread {gtx gtt : TA} {C : Nat → Nat} {n O : Nat} (h : TX gtx gtt C n) (hO : O ≤ 5) {gvm : TM} (hv : gvm.1 = nI O) {gtd fp : Int32} {grf : TA} : ∀ (k p j m1 m2 : Nat) (gdr : TDr) (r : R5) (g : RDm) (gac : TAc), n - p = k → p ≤ n → k < m1 → k + 1 < m2 → 5 * j ≤ p → RRd g C n p → gac.1 = nI j →
  (∃ c q gdr' r' g' gac', p_X3_readAll_10 gtx m1 gdr (rdC C n p r) (nI O) (nI j) = some (1, gdr', rdC C n q r') ∧ r'.1 = r.1 ∧ r'.2.1 = r.2.1 ∧ p_X13_days_42 gtt m2 0 gvm gtd (0, fp) grf g gac = p_X13_days_63 gtt 0 gvm gtd (0, fp) grf g' gac' ∧ gac'.1 = nI (j + c) ∧ j + c ≤ 120 ∧ Sq gtx C n O gac' c j p ∧ ∀ i, i < 5 * j → gac'.2.1 i = gac.2.1 i ∧ gac'.2.2 i = gac.2.2 i) ∨ ∃ w s gdr' gr' g' gac', w ≠ 0 ∧ p_X3_readAll_10 gtx m1 gdr (rdC C n p r) (nI O) (nI j) = some (0, gdr', gr') ∧ Rfs gr' w s ∧ p_X13_days_42 gtt m2 0 gvm gtd (0, fp) grf g gac = p_X13_days_63 gtt 0 gvm gtd (w, nI s) grf g' gac' := by
  have h6 := h.1
  intro k
  induction k using Nat.strongRecOn with
  | ind k ih =>
    intro p j m1 m2 gdr r g gac hk hp hm1 hm2 hj hg hgac
    obtain ⟨m1, rfl⟩ : ∃ a, m1 = a + 1 := ⟨m1 - 1, by omega⟩
    obtain ⟨m2, rfl⟩ : ∃ a, m2 = a + 1 := ⟨m2 - 1, by omega⟩
    have hb := tk_b C hp
    have hki := kap_i (tK C n p) (by omega)
    by_cases hend : tK C n p = 0
    · left
      refine ⟨0, p, gdr, r, g, gac, ?_, rfl, rfl, ?_, hgac, by omega, hend, fun _ _ => ⟨rfl, rfl⟩⟩
      · unfold p_X3_readAll_10 p_X7_hasMore
        rw [show (rdC C n p r).2.1 = kap (tK C n p) from rfl, if_pos (hki.1.2 hend), some_bind', if_pos rfl, ite_self]
      · unfold p_X13_days_42
        rw [good0, some_bind', if_neg n10, hg.2.2.1, if_pos (eq_t (c := 0) hend)]
    · have hpn : p < n := Nat.lt_of_le_of_ne hp (fun e => hend (by rw [e]; exact tK_end C n))
      have e1 : p_X3_readAll_10 gtx (m1 + 1) gdr (rdC C n p r) (nI O) (nI j) = ((p_X3_readDay gdr (rdC C n p r) gtx (nI O)).bind fun v5 => (if v5.1 = 0 then some (0, v5.2) else p_X3_readAll_10 gtx m1 v5.2.1 v5.2.2 (nI O) (nI (j + 1)))) := by
        conv => lhs; unfold p_X3_readAll_10
        unfold p_X7_hasMore
        rw [if_neg (le_f (c := 600) (by omega) (by decide)), show (rdC C n p r).2.1 = kap (tK C n p) from rfl, if_neg (fun e => hend (hki.1.1 e)), some_bind', if_neg n10, nI_1]
      have e2 : p_X13_days_42 gtt (m2 + 1) 0 gvm gtd (0, fp) grf g gac = ((p_X13_readsDay gvm gtt (0, fp) g gac).bind fun v5 => p_X13_days_42 gtt m2 0 gvm gtd v5.1 grf v5.2.1 v5.2.2) := by
        conv => lhs; unfold p_X13_days_42
        rw [good0, some_bind', if_neg n10, hg.2.2.1, if_neg (eq_f (c := 0) hend (by omega) (by decide))]
      rw [e1, e2]
      rcases q_rday (gvm := gvm) h hp hO hv with ⟨q, kd, a, b, m, ml, s0, q1, q2, hD, hF, hR⟩ | ⟨w, s, hw, hD, hR⟩
      · obtain ⟨gdr', r', d1, d2, d3, d4, d5, _⟩ := hD gdr r
        obtain ⟨g', gac1, r1, r2, r3, r4, r5⟩ := hR g fp gac j hg hgac (by omega)
        rw [d1, some_bind', if_neg n10, r1, some_bind']
        rcases ih (n - q) (by omega) q (j + 1) m1 m2 gdr' r' g' gac1 rfl q2 (by omega) (by omega) (by omega) r2 r3 with ⟨c, q', gdr2, r2', g2, gac2, b1, b2, b3, b4, b5, b6, b7, b8⟩ | hbad
        · left
          refine ⟨c + 1, q', gdr2, r2', g2, gac2, b1, b2.trans d4, b3.trans d5, b4, by rw [b5, show j + 1 + c = j + (c + 1) by omega], by omega, ⟨hend, q, kd, a, b, m, ml, s0, q1, q2, hD, hF, AC_cong r4 (fun e => (hF.2.2.2.2.2.2 e).2.1) b8, b7⟩, fun i hi => ?_⟩
          have x1 := b8 i (by omega)
          have x2 := r5 i hi
          exact ⟨x1.1.trans x2.1, x1.2.trans x2.2⟩
        · right; exact hbad
      · right
        obtain ⟨gdr', gr', d1, d2⟩ := hD gdr r
        obtain ⟨g', gac', r1⟩ := hR g fp gac j hg hgac (by omega)
        refine ⟨w, s, gdr', gr', g', gac', hw, by rw [d1]; rfl, d2, ?_⟩
        obtain ⟨m2, rfl⟩ : ∃ a, m2 = a + 1 := ⟨m2 - 1, by omega⟩
        rw [r1, some_bind']
        unfold p_X13_days_42
        rw [bad_good hw, some_bind', if_pos rfl]
theorem q_ddo {gtx gtt : TA} {C : Nat → Nat} {n O : Nat} (h : TX gtx gtt C n) (hO : O ≤ 5) {gtd : Int32} {gfl : Int32 × Int32} {grf : TA} {g : RDm} {gac : TAc} : ∀ (c p j m1 m2 : Nat) (gdr : TDr) (r : R5) (gv : TV) (gd : TD) (gvm : TM) (V : MV) (D : MD), Sq gtx C n O gac c j p → p ≤ n → gac.1 = nI (j + c) → j + c ≤ 120 → c < m1 → c < m2 → vO V = O → DS gv gd gvm V D → gdr.2.2.2.2 = 0 →
  ∃ (i : Nat) (gdr' : TDr) (gr' : RD) (gv' : TV) (gd' : TD) (gvm' : TM) (V' : MV) (D' : MD), p_X3_doAll_15 gtx m1 gdr (rdC C n p r) gv gd (nI j) = some (nI i, gdr', gr', gv', gd') ∧ DS gv' gd' gvm' V' D' ∧ Sm3 gvm gvm' ∧ ((gdr'.2.2.2.2 = 0 ∧ p_X13_days_89 gtt m2 0 gvm gtd gfl grf g gac (nI j) = some (nI i, 0, gvm', gtd, gfl, grf, g, gac)) ∨ (gdr'.2.2.2.2 = 1 ∧ p_X13_days_89 gtt m2 0 gvm gtd gfl grf g gac (nI j) = some (nI i, 0, gvm', gtd, gfl, upd grf 1 (grf 1 + 1), g, gac))) := by
  have h6 := h.1
  intro c
  induction c with
  | zero =>
    intro p j m1 m2 gdr r gv gd gvm V D hS hp hgac hj hm1 hm2 hVO hDS hst
    obtain ⟨m1, rfl⟩ : ∃ a, m1 = a + 1 := ⟨m1 - 1, by omega⟩
    obtain ⟨m2, rfl⟩ : ∃ a, m2 = a + 1 := ⟨m2 - 1, by omega⟩
    have hS : tK C n p = 0 := hS
    have hki := kap_i (tK C n p) (by omega)
    refine ⟨j, gdr, rdC C n p r, gv, gd, gvm, V, D, ?_, hDS, ⟨rfl, rfl, rfl⟩, Or.inl ⟨hst, ?_⟩⟩
    · unfold p_X3_doAll_15 p_X7_hasMore
      rw [show (rdC C n p r).2.1 = kap (tK C n p) from rfl, if_pos (hki.1.2 hS), some_bind', if_pos rfl, ite_self]
    · unfold p_X13_days_89
      rw [hgac, Nat.add_zero, if_pos (nI_le (Nat.le_refl _) (by omega))]
  | succ c ih =>
    intro p j m1 m2 gdr r gv gd gvm V D hS hp hgac hj hm1 hm2 hVO hDS hst
    obtain ⟨m1, rfl⟩ : ∃ a, m1 = a + 1 := ⟨m1 - 1, by omega⟩
    obtain ⟨m2, rfl⟩ : ∃ a, m2 = a + 1 := ⟨m2 - 1, by omega⟩
    obtain ⟨hend, q, kd, a, b, m, ml, s0, q1, q2, hD, hF, hA, hS'⟩ := hS
    have hb := tk_b C hp
    have hki := kap_i (tK C n p) (by omega)
    obtain ⟨gdr', r', d1, d2, d3, d4, d5, d6, d7, d8, d9⟩ := hD gdr r
    have hgv1 : gv.1 = nI O := by rw [hDS.1.1, hVO]
    have e1 : p_X3_doAll_15 gtx (m1 + 1) gdr (rdC C n p r) gv gd (nI j) = ((p_X3_doDay gdr' (rdC C n q r') gtx gv gd).bind fun v8 => (if v8.1 = 0 then some (nI j, ((gdr'.1, gdr'.2.1, gdr'.2.2.1, gdr'.2.2.2.1, 1), rdC C n q r', v8.2)) else p_X3_doAll_15 gtx m1 gdr' (rdC C n q r') v8.2.1 v8.2.2 (nI (j + 1)))) := by
      conv => lhs; unfold p_X3_doAll_15
      unfold p_X7_hasMore
      rw [if_neg (le_f (c := 600) (by omega) (by decide)), show (rdC C n p r).2.1 = kap (tK C n p) from rfl, if_neg (fun e => hend (hki.1.1 e)), some_bind', if_neg n10, hgv1, d1, some_bind', if_neg n10, nI_1]
    have e2 : p_X13_days_89 gtt (m2 + 1) 0 gvm gtd gfl grf g gac (nI j) = ((p_X13_does gvm gac (nI j)).bind fun v2 => (if v2.1 = 0 then some (nI j, (0, v2.2, gtd, gfl, upd grf 1 (grf 1 + 1), g, gac)) else p_X13_days_89 gtt m2 0 v2.2 gtd gfl grf g gac (nI (j + 1)))) := by
      conv => lhs; unfold p_X13_days_89
      rw [hgac, if_neg (nI_ge (by omega) (by omega)), nI_1]
      rfl
    rw [e1, e2]
    rcases q_doDay (q := q) (r := r') h hDS (show j < 120 by omega) (by rw [hVO]; exact hF) hA d2 d6 d7 d8 d9 with ⟨V', D', gv', gd', gvm', c1, c2, c3, c4⟩ | ⟨c1, c2⟩
    · rw [c1, some_bind', if_neg n10, c2, some_bind', if_neg n10]
      have hVO' : vO V' = O := by
        have x1 := c3.2.2.1.1
        rw [c4.1, hDS.2.2.1.1] at x1
        have o1 := c3.2.2.2.2.1.1
        have o2 := hDS.2.2.2.2.1.1
        have := (nI_eq (by omega) (by omega)).1 x1
        omega
      obtain ⟨i, gdr2, gr2, gv2, gd2, gvm2, V2, D2, y1, y2, y3, y4⟩ := ih q (j + 1) m1 m2 gdr' r' gv' gd' gvm' V' D' hS' q2 (by rw [hgac, show j + (c + 1) = j + 1 + c by omega]) (by omega) (by omega) (by omega) hVO' c3 (by rw [d3]; exact hst)
      exact ⟨i, gdr2, gr2, gv2, gd2, gvm2, V2, D2, y1, y2, ⟨y3.1.trans c4.1, y3.2.1.trans c4.2.1, y3.2.2.trans c4.2.2⟩, y4⟩
    · rw [c1, some_bind', if_pos rfl, c2, some_bind', if_pos rfl]
      exact ⟨j, _, _, gv, gd, gvm, V, D, rfl, hDS, ⟨rfl, rfl, rfl⟩, Or.inr ⟨rfl, rfl⟩⟩
theorem Img_3 {gg : TG} {gvk : TV} {gdk : TD} {gck : TR} {gvm gvm' gim : TM} (h : Img gg gvk gdk gck gvm gim) (hs : Sm3 gvm gvm') {gg' : TG} (e : gg'.2.2.2.2.2 = gg.2.2.2.2.2) : Img gg' gvk gdk gck gvm' gim := by
  unfold Img at *
  rw [e]
  rcases h with h | ⟨h1, h2, S, h3, h4, h5⟩
  · exact Or.inl h
  · refine Or.inr ⟨h1, h2, S, h3, ?_, h5⟩
    have : IMm gvm' gim = IMm gvm gim := by unfold IMm; rw [hs.1, hs.2.1, hs.2.2]
    rw [this]; exact h4
theorem q_days {gg : TG} {gvn : TV} {gdn : TD} {gcn : TR} {gvk : TV} {gdk : TD} {gck : TR} {gtx : TA} {gvm : TM} {gtt : TA} {gtd : Int32} {gfl : Int32 × Int32} {grf : TA} {grc : TRm} {gim : TM} (hI : Inv gg gvn gdn gcn gvk gdk gck gtx gvm gtt gtd gfl grf grc gim) (gr : RD) (gdr : TDr) (gth : Int32) (grd : RDm) (gac : TAc) (x1 : Int32) : ∃ v gg' gvn' gdn' gr' gdr' r t gvm' gtd' gfl' grf' grd' gac', p_X12_days gg gvn gdn gr gdr gtx x1 = some (v, gg', gvn', gdn', gr', gdr') ∧ p_X13_days gth gvm gtt gtd gfl grf grd gac x1 = some (r, t, gvm', gtd', gfl', grf', grd', gac') ∧ Ag1 2 v r t ∧ Inv gg' gvn' gdn' gcn gvk gdk gck gtx gvm' gtt gtd' gfl' grf' grc gim := by
  obtain ⟨S, m, hc, hr, ho, hm, i1, i2, i3, i4, i5, i6, i7, i8⟩ := hI
  unfold p_X12_days p_X13_days p_X13_days_22 p_X13_days_23
  rcases q_bytes hm i1 i2 x1 with ⟨n, hn, hx, e1, e2, e3⟩ | ⟨e1, e2⟩
  · obtain ⟨C, hT⟩ := TX_of i3 hm hn
    have h5 := ho.1.1
    rw [e1, some_bind', xb_l, if_neg e2, if_neg e3, show p_X13_right 0 1 1 = some (1, 0) from rfl, some_bind', if_neg n10]
    obtain ⟨g0, s1, s2⟩ := m_steps hT (Nat.zero_le n) grd.2.2
    have s1 : p_X13_steps gtt (x1, 0, grd.2.2) = some g0 := by rw [hx]; exact s1
    have hop : ∀ gr : RD, p_X7_open gr gtx x1 = some (rdC C n 0 (0, -1, gr.2.2.2.2.2.2)) := by intro gr; rw [hx]; exact c_open hT gr
    unfold p_X3_readAll p_X13_opens
    rw [hop gr, some_bind', s1, some_bind', some_bind', hc.1.1]
    rcases q_dread (gvm := gvm) (gtd := 0) (fp := -1) (grf := grf) hT h5 hr.1.1 n 0 0 fu fu gdr (0, -1, gr.2.2.2.2.2.2) g0 (0, gac.2) (by omega) (by omega) (fu_lt (by omega)) (fu_lt (by omega)) (by omega) s2 rfl with ⟨c, q, gdr', r', g', gac', cl, f1, f2, rf, hgac, hc120, hS, _⟩ | ⟨w, s, gdr', gr', g', gac', hw, cl, hr', rf⟩
    · have cl : p_X3_readAll_10 gtx fu gdr (rdC C n 0 (0, -1, gr.2.2.2.2.2.2)) (nI (vO S.1)) 0 = _ := cl
      simp only []
      rw [cl, some_bind', if_neg n10, rf]
      unfold p_X3_doAll p_X13_days_63
      rw [hop, some_bind', good0, some_bind', if_neg n10]
      obtain ⟨i, gdr2, gr2, gv2, gd2, gvm2, V2, D2, y1, y2, y3, y4⟩ := q_ddo (gtt := gtt) (gtd := 0) (gfl := (0, -1)) (grf := grf) (g := g') hT h5 c 0 0 fu fu (gdr'.1, gdr'.2.1, gdr'.2.2.1, gdr'.2.2.2.1, 0) (0, -1, (rdC C n q r').2.2.2.2.2.2) gvn gdn gvm S.1 S.2.1 hS (by omega) (by rw [hgac]) (by omega) (fu_lt (by omega)) (fu_lt (by omega)) rfl ⟨hc.1, hc.2.1, hr.1, hr.2.1, ho.1, ho.2.1⟩ rfl
      have y1 : p_X3_doAll_15 gtx fu (gdr'.1, gdr'.2.1, gdr'.2.2.1, gdr'.2.2.2.1, 0) (rdC C n 0 (0, -1, (rdC C n q r').2.2.2.2.2.2)) gvn gdn 0 = _ := y1
      rw [y1, some_bind']
      have hInv : ∀ (gg' : TG) (grf' : TA), gg'.1 = 0 → gg'.2.1 = -1 → gg'.2.2.1 = grf' 0 → gg'.2.2.2.1 = grf' 1 → gg'.2.2.2.2.1 = grf' 2 → gg'.2.2.2.2.2 = gg.2.2.2.2.2 → Inv gg' gv2 gd2 gcn gvk gdk gck gtx gvm2 gtt 0 (0, -1) grf' grc gim := by
        intro gg' grf' z1 z2 z3 z4 z5 z6
        exact ⟨(V2, D2, S.2.2), 0, ⟨y2.1, y2.2.1, hc.2.2⟩, ⟨y2.2.2.1, y2.2.2.2.1, hr.2.2⟩, ⟨y2.2.2.2.2.1, y2.2.2.2.2.2, ho.2.2⟩, by omega, z1, rfl, fun j hj => absurd hj (Nat.not_lt_zero _), z2, z3, z4, z5, Img_3 i8 y3 z6⟩
      rcases y4 with ⟨u1, u2⟩ | ⟨u1, u2⟩
      · have u2 : p_X13_days_89 gtt fu 0 gvm 0 (0, -1) grf g' gac' 0 = _ := u2
        rw [u2, if_pos u1]
        refine ⟨_, _, _, _, _, _, _, _, _, _, _, _, _, _, rfl, rfl, Or.inl ⟨rfl, rfl⟩, hInv _ _ rfl ?_ i5 i6 i7 rfl⟩
        show r'.2.1 = -1
        rw [f2]
      · have u2 : p_X13_days_89 gtt fu 0 gvm 0 (0, -1) grf g' gac' 0 = _ := u2
        rw [u2, if_neg (by rw [u1]; decide)]
        refine ⟨_, _, _, _, _, _, _, _, _, _, _, _, _, _, rfl, rfl, Or.inl ⟨rfl, rfl⟩, hInv _ _ rfl ?_ ?_ ?_ ?_ rfl⟩
        · show r'.2.1 = -1
          rw [f2]
        · exact i5
        · show gg.2.2.2.1 + 1 = grf 1 + 1
          rw [i6]
        · exact i7
    · have cl : p_X3_readAll_10 gtx fu gdr (rdC C n 0 (0, -1, gr.2.2.2.2.2.2)) (nI (vO S.1)) 0 = _ := cl
      simp only []
      rw [cl, some_bind', if_pos rfl, rf]
      unfold p_X13_days_63
      rw [bad_good hw, some_bind', if_pos rfl, if_pos (by decide), if_pos (by decide)]
      refine ⟨_, _, _, _, _, _, _, _, _, _, _, _, _, _, rfl, rfl, Or.inl ⟨?_, rfl⟩, S, 0, hc, hr, ho, by omega, rfl, rfl, fun j hj => absurd hj (Nat.not_lt_zero _), hr'.2, ?_, i6, i7, i8⟩
      · show Sum.inl (-1 - gr'.2.2.2.2.1) = Sum.inl (-1 - w)
        rw [hr'.1]
      · show gg.2.2.1 + 1 = grf 0 + 1
        rw [i5]
  · rw [e1, some_bind', xb_r, show p_X13_right 0 0 1 = some (0, 1) from rfl, some_bind', if_pos rfl]
    rcases e2 with e2 | ⟨e2, e3⟩
    · rw [if_pos e2]
      exact ⟨_, _, _, _, _, _, _, _, _, _, _, _, _, _, rfl, rfl, Or.inr ⟨rfl, rfl⟩, S, m, hc, hr, ho, hm, i1, i2, i3, i4, i5, i6, i7, i8⟩
    · rw [if_neg e2, if_pos e3]
      exact ⟨_, _, _, _, _, _, _, _, _, _, _, _, _, _, rfl, rfl, Or.inr ⟨rfl, rfl⟩, S, m, hc, hr, ho, hm, i1, i2, i3, i4, i5, i6, i7, i8⟩
