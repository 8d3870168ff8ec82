-- two owners: lent, write
theorem q_rowd {gvm : TM} {gtx gtt : TA} {C : Nat → Nat} {n q : Nat} (h : TX gtx gtt C n) (hq : q ≤ n) : (∃ q2 ml s0, q < q2 ∧ q2 ≤ n ∧ 1 ≤ ml ∧ ml ≤ 5 ∧ s0 + ml ≤ n ∧ (∀ i, i < ml → isL (C (s0 + i)) = true ∨ isD (C (s0 + i)) = true) ∧ (∀ (gdr : TDr) r, gdr.1 = 6 → Rem gtx gdr (rdC C n q r) = some (1, gdr, rdC C n q2 (r.1, r.2.1, r.2.2.1, nI ml, nI s0))) ∧ ∀ g fp (gac : TAc) j, RRd g C n q → gac.1 = nI j → j < 120 → ∃ g' t, p_X13_readsDay_204 gvm gtt (0, fp) g gac 6 (nI (5 * j)) = some ((0, fp), g', (gac.1 + 1, upd gac.2.1 (5 * j + 4) (nI ml), t)) ∧ RRd g' C n q2 ∧ (∀ i, i < ml → t (5 * j + i) = nI (fg (C (s0 + i)))) ∧ ∀ i, i < 5 * j → t i = gac.2.2 i) ∨ ∃ w s, w ≠ 0 ∧ (∀ (gdr : TDr) r, gdr.1 = 6 → ∃ gdr' gr', Rem gtx gdr (rdC C n q r) = some (0, gdr', gr') ∧ Rfs gr' w s) ∧ ∀ g fp (gac : TAc) j, RRd g C n q → gac.1 = nI j → j < 120 → ∃ g' gac', p_X13_readsDay_204 gvm gtt (0, fp) g gac 6 (nI (5 * j)) = some ((w, nI s), g', gac') := by
  have hb := tk_b C hq
  have hR : ∀ (gdr : TDr) r, gdr.1 = 6 → Rem gtx gdr (rdC C n q r) = ((p_X7_takeRow (rdC C n q r) gtx).bind fun v3 => (if v3.1 = 0 then some (0, (gdr, v3.2)) else p_X3_readDay_92 gtx gdr v3.2)) := by
    intro gdr r hg
    unfold Rem p_X3_readAllOf p_X3_readDay_72
    rw [hg, if_pos (by decide), if_pos (show dq_doors.2.2.2.getD 6 0 = 0 from rfl), some_bind', if_neg n10]
    simp only [hg]
    rw [if_pos (by decide), if_pos (show ([1, 1, 1, 0, -1, -1, -1, -1] : List Int32).getD 6 0 = -1 from rfl), if_pos (by decide), if_neg (show ¬ ([0, 0, 0, 0, 0, 0, 1, 0] : List Int32).getD 6 0 = 0 by decide)]
  have hM : ∀ g fp (gac : TAc) j, gac.1 = nI j → j < 120 → p_X13_readsDay_204 gvm gtt (0, fp) g gac 6 (nI (5 * j)) = ((p_X13_figures 600 gtt (0, fp) g gac.2.2 (nI (5 * j))).bind fun v3 => p_X13_readsDay_259 gvm gtt v3.2.1 v3.2.2.1 (gac.1, upd gac.2.1 (5 * j + 4) v3.1, v3.2.2.2)) := by
    intro g fp gac j hj hj2
    unfold p_X13_readsDay_204
    rw [if_pos rfl, hj, at5, a5_4]
    simp only [if_pos (ix_nI (show 5 * j + 4 < 600 by omega) (show 600 < 2147483648 by decide)), cl_nI (show 5 * j + 4 < 2147483648 by omega)]
  by_cases hr : ∃ m, 1 ≤ m ∧ m ≤ 5 ∧ tS C n q < tE C n q ∧ tS C n q + 1 + m ≤ n ∧ (∀ i, i < m → isL (C (tS C n q + 1 + i)) = true ∨ isD (C (tS C n q + 1 + i)) = true) ∧ (∀ r, p_X7_takeRow (rdC C n q r) gtx = some (1, rdC C n (tE C n q) (r.1, r.2.1, r.2.2.1, nI m, nI (tS C n q + 1)))) ∧ tE C n q - tS C n q - 1 = m ∧ tK C n q = 3
  · obtain ⟨m, m1, m2, m3, m4, m5, rc, m6, m7⟩ := hr
    have rm : ∀ g fp (t : TA) j, j < 120 → RRd g C n q → ∃ g' t', p_X13_figures 600 gtt (0, fp) g t (nI (5 * j)) = some (nI m, (0, fp), g', t') ∧ RRd g' C n (tE C n q) ∧ (∀ i, i < m → t' (5 * j + i) = nI (fg (C (tS C n q + 1 + i)))) ∧ ∀ i, (i < 5 * j ∨ 5 * j + m ≤ i) → t' i = t i := by
      intro g fp t j hj hg
      rcases q_row h hq (N := 600) (a := 5 * j) (by omega) (by omega) with ⟨m', n1, n2, n3, n4, n5, nc, nm⟩ | ⟨w, hw, nc, nm⟩
      · have e := (rc (0, 0, 0, 0, 0)).symm.trans (nc (0, 0, 0, 0, 0))
        have e2 : nI m = nI m' := congrArg (fun z => z.2.2.2.2.2.2.2.2.1) (Option.some.inj e)
        have e3 : m = m' := (nI_eq (by omega) (by omega)).1 e2
        subst e3
        exact nm g fp t hg
      · obtain ⟨gr', z1, _⟩ := nc (0, 0, 0, 0, 0)
        rw [rc] at z1
        have := congrArg Prod.fst (Option.some.inj z1)
        exact absurd this n10
    have hq2 := hb.2.2.1
    rcases q_dend (gvm := gvm) h hq2 with ⟨d1, d2, dc, dm⟩ | ⟨dc, dm⟩
    · left
      refine ⟨tE C n (tE C n q), m, tS C n q + 1, by omega, d2, m1, m2, m4, m5, fun gdr r hg => ?_, fun g fp gac j hg hj hj2 => ?_⟩
      · rw [hR gdr r hg, rc r, some_bind', if_neg n10]
        exact dc _ _
      · obtain ⟨g1, t, a1, a2, a3, a4⟩ := rm g fp gac.2.2 j hj2 hg
        obtain ⟨g2, b1, b2⟩ := dm g1 fp (gac.1, upd gac.2.1 (5 * j + 4) (nI m), t) a2
        refine ⟨g2, t, ?_, b2, a3, fun i hi => a4 i (Or.inl hi)⟩
        rw [hM g fp gac j hj hj2, a1, some_bind']
        exact b1
    · right
      refine ⟨1, tS C n (tE C n q), by decide, fun gdr r hg => ?_, fun g fp gac j hg hj hj2 => ?_⟩
      · rw [hR gdr r hg, rc r, some_bind', if_neg n10]
        obtain ⟨gr', z1, z2⟩ := dc gdr (r.1, r.2.1, r.2.2.1, nI m, nI (tS C n q + 1))
        exact ⟨_, gr', z1, z2⟩
      · obtain ⟨g1, t, a1, a2, a3, a4⟩ := rm g fp gac.2.2 j hj2 hg
        rw [hM g fp gac j hj hj2, a1, some_bind']
        exact ⟨_, _, dm g1 fp _ a2⟩
  · right
    rcases q_row h hq (N := 600) (a := 0) (by omega) (by omega) with ⟨m, n1, n2, n3, n4, n5, nc, nm⟩ | ⟨w, hw, nc, nm⟩
    · exfalso
      have hki := kap_i (tK C n q) (by omega)
      have h6 := h.1
      have e := nc (0, 0, 0, 0, 0)
      unfold p_X7_takeRow at e
      rw [show (rdC C n q (0, 0, 0, 0, 0)).2.1 = kap (tK C n q) from rfl] at e
      by_cases hk3 : tK C n q = 3
      · rw [if_pos (hki.2.2.2.1.2 hk3), show (rdC C n q (0, 0, 0, 0, 0)).2.2.2.1 - (rdC C n q (0, 0, 0, 0, 0)).2.2.1 = nI (tE C n q) - nI (tS C n q) from rfl, pk_sub (by omega), pred_nI (by omega)] at e
        by_cases hl : tE C n q - tS C n q - 1 ≤ 5
        · have hR3 := tk_R hq hk3
          refine hr ⟨m, n1, n2, n3, n4, n5, nc, ?_, hk3⟩
          rw [if_pos (ler_t (c := 5) hl (by decide))] at e
          have hst := c_next h hq (0, 0, 0, 0, 0) (0, 0, 0, nI (tE C n q) - (nI (tS C n q) + 1), nI (tS C n q) + 1)
          have e' : ((p_X7_step (nI n, kap (tK C n q), nI (tS C n q), nI (tE C n q), 0, 0, 0, nI (tE C n q) - (nI (tS C n q) + 1), nI (tS C n q) + 1) gtx).bind fun v3 => some ((1 : Int32), v3)) = some (1, rdC C n (tE C n q) (0, 0, 0, nI m, nI (tS C n q + 1))) := e
          rw [hst, some_bind'] at e'
          have e2 : nI (tE C n q) - (nI (tS C n q) + 1) = nI m := congrArg (fun z => z.2.2.2.2.2.2.2.2.1) (Option.some.inj e')
          rw [nI_1, pk_sub (by omega)] at e2
          have e3 := (nI_eq (by omega) (by omega)).1 e2
          omega
        · rw [if_neg (ler_f (c := 5) (by omega) (by omega))] at e
          have := congrArg Prod.fst (Option.some.inj e)
          exact absurd this (by show ¬ (0 : Int32) = 1; decide)
      · rw [if_neg (fun c => hk3 (hki.2.2.2.1.1 c))] at e
        have := congrArg Prod.fst (Option.some.inj e)
        exact absurd this (by show ¬ (0 : Int32) = 1; decide)
    · refine ⟨w, tS C n q, hw, fun gdr r hg => ?_, fun g fp gac j hg hj hj2 => ?_⟩
      · obtain ⟨gr', z1, z2⟩ := nc r
        rw [hR gdr r hg, z1, some_bind', if_pos rfl]
        exact ⟨_, gr', rfl, z2⟩
      · rcases q_row h hq (N := 600) (a := 5 * j) (by omega) (by omega) with ⟨m, n1, n2, n3, n4, n5, nc2, nm2⟩ | ⟨w2, hw2, nc2, nm2⟩
        · exfalso
          obtain ⟨gr', z1, z2⟩ := nc (0, 0, 0, 0, 0)
          rw [nc2] at z1
          have := congrArg Prod.fst (Option.some.inj z1)
          exact absurd this n10
        · obtain ⟨gr', z1, z2⟩ := nc (0, 0, 0, 0, 0)
          obtain ⟨gr2, z3, z4⟩ := nc2 (0, 0, 0, 0, 0)
          have e : gr' = gr2 := congrArg Prod.snd (Option.some.inj (z1.symm.trans z3))
          have e2 : w = w2 := z2.1.symm.trans (e ▸ z4.1)
          subst e2
          obtain ⟨v, y1⟩ := nm2 g fp gac.2.2 hg
          rw [hM g fp gac j hj hj2, y1, some_bind']
          exact ⟨_, _, bad_259 hw _ _⟩
theorem q_day2 {gvm : TM} {gtx gtt : TA} {C : Nat → Nat} {n p k O : Nat} (h : TX gtx gtt C n) (hp : p ≤ n) (hO : O ≤ 5) (hv : gvm.1 = nI O) (hk : k = 2 ∨ k = 6) (hw : isW C n p (7 + k)) : QD gvm gtx gtt C n O p := by
  have hb := tk_b C hp
  have hk8 : k < 8 := by omega
  have hl := (kw_len hp hk8 hw).1
  have hown : dq_owners.2.2.2.getD k 0 = 2 := by rcases hk with e | e <;> subst e <;> rfl
  have hp2 := hb.2.2.1
  have hb2 := tk_b C hp2
  have hp3 := hb2.2.2.1
  have hb3 := tk_b C hp3
  have hM : ∀ (g : RDm) (fp : Int32) (gac : TAc) (j : Nat), RRd g C n p → gac.1 = nI j → j < 120 → ∃ g1, RRd g1 C n (tE C n p) ∧ p_X13_readsDay gvm gtt (0, fp) g gac = ((p_X13_among gtt (0, fp) g1 (nI O) (-1)).bind fun v11 => p_X13_readsDay_180 gvm gtt v11.2.1 v11.2.2 (nI j, upd (A0 gac.2.1 j (nI k)) (5 * j + 1) v11.1, gac.2.2) (nI k) (nI (5 * j))) := by
    intro g fp gac j hg hj hj2
    obtain ⟨g1, a1, a2⟩ := m_rd (gvm := gvm) h hp hk8 hw hg fp hj hj2
    refine ⟨g1, a1, ?_⟩
    rw [a2, if_neg (eq_f (c := 5) (by omega) (by omega) (by decide)), if_neg (eq_f (c := 7) (by omega) (by omega) (by decide)), if_neg (eq_f (c := 4) (by omega) (by omega) (by decide)), hv]
    rcases hk with e | e
    · simp only [if_pos (eq_t (c := 2) e)]
    · simp only [if_neg (eq_f (c := 2) (d := k) (by omega) (by omega) (by decide)), if_pos (eq_t (c := 6) e)]
  have h180 : ∀ g fp (t : TA) (f : TA) j a, j < 120 → p_X13_readsDay_180 gvm gtt (0, fp) g (nI j, upd t (5 * j + 1) a, f) (nI k) (nI (5 * j)) = ((p_X13_among gtt (0, fp) g (nI O) a).bind fun v2 => p_X13_readsDay_204 gvm gtt v2.2.1 v2.2.2 (nI j, upd (upd t (5 * j + 1) a) (5 * j + 2) v2.1, f) (nI k) (nI (5 * j))) := by
    intro g fp t f j a hj
    unfold p_X13_readsDay_180
    rw [a5_1, a5_2, if_pos (ix_nI (by omega) (by decide)), cl_nI (by omega), hv]
    simp only [if_pos (ix_nI (show 5 * j + 2 < 600 by omega) (show 600 < 2147483648 by decide)), cl_nI (show 5 * j + 2 < 2147483648 by omega), pk_us]
  have hC : ∀ gdr r, p_X3_readDay gdr (rdC C n p r) gtx (nI O) = ((p_X7_takeOneOf (rdC C n (tE C n p) r) gtx (nI O) (-1)).bind fun v2 => (if v2.1 = 0 then some (0, ((k, gdr.2), v2.2)) else ((p_X7_takeOneOf v2.2 gtx (nI O) v2.2.2.2.2.2.2.2.1).bind fun v6 => (if v6.1 = 0 then some (0, ((k, v2.2.2.2.2.2.2.2.1, gdr.2.2), v6.2)) else Rem gtx (k, v2.2.2.2.2.2.2.2.1, v6.2.2.2.2.2.2.2.1, gdr.2.2.2) v6.2)))) := by
    intro gdr r
    rw [c_rd' h hp hk8 hw, hown]
    unfold p_X3_readAllOf
    rw [if_neg (by decide)]
    cases ht : p_X7_takeOneOf (rdC C n (tE C n p) r) gtx (nI O) (-1) with
    | none => rfl
    | some v =>
      rw [some_bind', some_bind']
      by_cases hz : v.1 = 0
      · rw [if_pos hz, if_pos hz]; rfl
      · rw [if_neg hz, if_neg hz, if_neg (by decide)]
        cases ht2 : p_X7_takeOneOf v.2 gtx (nI O) v.2.2.2.2.2.2.2.1 with
        | none => rfl
        | some v' =>
          rw [some_bind', some_bind']
          by_cases hz2 : v'.1 = 0
          · rw [if_pos hz2, if_pos hz2]; rfl
          · rw [if_neg hz2, if_neg hz2]; rfl
  rcases q_among h hp2 (many := O) (-1) (by omega) with ⟨a1, a2, a3, ac, am⟩ | ⟨w, hw0, ac, am⟩
  · rcases q_among h hp3 (many := O) (nI (tV C n (tE C n p))) (by omega) with ⟨b1, b2, b3, bc, bm⟩ | ⟨w, hw0, bc, bm⟩
    · have hab : tV C n (tE C n p) ≠ tV C n (tE C n (tE C n p)) := fun e => b2 (by rw [e])
      have hCC : ∀ gdr r, p_X3_readDay gdr (rdC C n p r) gtx (nI O) = Rem gtx (k, nI (tV C n (tE C n p)), nI (tV C n (tE C n (tE C n p))), gdr.2.2.2) (rdC C n (tE C n (tE C n (tE C n p))) (r.1, r.2.1, nI (tV C n (tE C n (tE C n p))), r.2.2.2)) := by
        intro gdr r
        rw [hC, ac r, some_bind', if_neg n10]
        simp only []
        rw [show (rdC C n (tE C n (tE C n p)) (r.1, r.2.1, nI (tV C n (tE C n p)), r.2.2.2)).2.2.2.2.2.2.1 = nI (tV C n (tE C n p)) from rfl, bc, some_bind', if_neg n10]
        rfl
      have hMM : ∀ (g : RDm) (fp : Int32) (gac : TAc) (j : Nat), RRd g C n p → gac.1 = nI j → j < 120 → ∃ g3, RRd g3 C n (tE C n (tE C n (tE C n p))) ∧ p_X13_readsDay gvm gtt (0, fp) g gac = p_X13_readsDay_204 gvm gtt (0, fp) g3 (nI j, upd (upd (A0 gac.2.1 j (nI k)) (5 * j + 1) (nI (tV C n (tE C n p)))) (5 * j + 2) (nI (tV C n (tE C n (tE C n p)))), gac.2.2) (nI k) (nI (5 * j)) := by
        intro g fp gac j hg hj hj2
        obtain ⟨g1, x1, x2⟩ := hM g fp gac j hg hj hj2
        obtain ⟨g2, y1, y2⟩ := am g1 fp x1
        obtain ⟨g3, z1, z2⟩ := bm g2 fp y2
        exact ⟨g3, z2, by rw [x2, y1, some_bind', h180 g2 fp _ _ j _ hj2, z1, some_bind']⟩
      rcases hk with rfl | rfl
      · rcases q_amt (gvm := gvm) (k := 2) h hb3.2.2.1 (by omega) with ⟨q2, m, q3, q4, m20, qc, qm⟩ | ⟨w, s, hw0, qc, qm⟩
        · left
          refine ⟨q2, 2, tV C n (tE C n p), tV C n (tE C n (tE C n p)), m, 0, 0, by omega, q4, fun gdr r => ?_, ⟨hk8, fun _ => a1, fun _ => ⟨b1, hab⟩, fun e => by omega, fun e => by omega, fun _ => m20, fun e => by omega⟩, fun g fp gac j hg hj hj2 => ?_⟩
          · rw [hCC, qc _ _ rfl]
            exact ⟨_, _, rfl, rfl, rfl, rfl, rfl, fun _ => rfl, fun _ => rfl, fun _ => rfl, fun e => by omega⟩
          · obtain ⟨g3, x1, x2⟩ := hMM g fp gac j hg hj hj2
            obtain ⟨g4, z1, z2⟩ := qm g3 fp (nI j, upd (upd (A0 gac.2.1 j (nI 2)) (5 * j + 1) (nI (tV C n (tE C n p)))) (5 * j + 2) (nI (tV C n (tE C n (tE C n p)))), gac.2.2) j x1 hj2
            have hA := A0_r gac.2.1 j (nI 2)
            rw [x2, z1]
            refine ⟨_, _, rfl, z2, nI_1 _, ⟨?_, ?_, ?_, ?_, ?_, fun e => by omega⟩, fun i hi => ⟨?_, rfl⟩⟩
            · exact (pk_un (by omega)).trans ((pk_un (by omega)).trans ((pk_un (by omega)).trans hA.1))
            · exact (pk_un (by omega)).trans ((pk_un (by omega)).trans pk_us)
            · exact (pk_un (by omega)).trans pk_us
            · exact pk_us
            · exact (pk_un (by omega)).trans ((pk_un (by omega)).trans ((pk_un (by omega)).trans hA.2.2.2.2.1))
            · exact (pk_un (by omega)).trans ((pk_un (by omega)).trans ((pk_un (by omega)).trans (hA.2.2.2.2.2 i hi)))
        · right
          refine ⟨w, s, hw0, fun gdr r => ?_, fun g fp gac j hg hj hj2 => ?_⟩
          · rw [hCC]; exact qc _ _ rfl
          · obtain ⟨g3, x1, x2⟩ := hMM g fp gac j hg hj hj2
            rw [x2]; exact qm g3 fp _ j x1 hj2
      · rcases q_rowd (gvm := gvm) h hb3.2.2.1 with ⟨q2, ml, s0, q3, q4, m1, m2, m3, m4, qc, qm⟩ | ⟨w, s, hw0, qc, qm⟩
        · left
          refine ⟨q2, 6, tV C n (tE C n p), tV C n (tE C n (tE C n p)), 0, ml, s0, by omega, q4, fun gdr r => ?_, ⟨hk8, fun _ => a1, fun _ => ⟨b1, hab⟩, fun e => by omega, fun e => by omega, fun e => by omega, fun _ => ⟨m1, m2, m3, m4⟩⟩, fun g fp gac j hg hj hj2 => ?_⟩
          · rw [hCC, qc _ _ rfl]
            exact ⟨_, _, rfl, rfl, rfl, rfl, rfl, fun _ => rfl, fun _ => rfl, fun e => by omega, fun _ => ⟨rfl, rfl⟩⟩
          · obtain ⟨g3, x1, x2⟩ := hMM g fp gac j hg hj hj2
            obtain ⟨g4, t, z1, z2, z3, z4⟩ := qm g3 fp (nI j, upd (upd (A0 gac.2.1 j (nI 6)) (5 * j + 1) (nI (tV C n (tE C n p)))) (5 * j + 2) (nI (tV C n (tE C n (tE C n p)))), gac.2.2) j x1 rfl hj2
            have hA := A0_r gac.2.1 j (nI 6)
            rw [x2, show p_X13_readsDay_204 gvm gtt (0, fp) g3 (nI j, upd (upd (A0 gac.2.1 j (nI 6)) (5 * j + 1) (nI (tV C n (tE C n p)))) (5 * j + 2) (nI (tV C n (tE C n (tE C n p)))), gac.2.2) (nI 6) (nI (5 * j)) = _ from z1]
            refine ⟨_, _, rfl, z2, nI_1 _, ⟨?_, ?_, ?_, ?_, ?_, fun _ => z3⟩, fun i hi => ⟨?_, z4 i hi⟩⟩
            · exact (pk_un (by omega)).trans ((pk_un (by omega)).trans ((pk_un (by omega)).trans hA.1))
            · exact (pk_un (by omega)).trans ((pk_un (by omega)).trans pk_us)
            · exact (pk_un (by omega)).trans pk_us
            · exact (pk_un (by omega)).trans ((pk_un (by omega)).trans ((pk_un (by omega)).trans hA.2.2.2.1))
            · exact pk_us
            · exact (pk_un (by omega)).trans ((pk_un (by omega)).trans ((pk_un (by omega)).trans (hA.2.2.2.2.2 i hi)))
        · right
          refine ⟨w, s, hw0, fun gdr r => ?_, fun g fp gac j hg hj hj2 => ?_⟩
          · rw [hCC]; exact qc _ _ rfl
          · obtain ⟨g3, x1, x2⟩ := hMM g fp gac j hg hj hj2
            rw [x2]; exact qm g3 fp _ j x1 rfl hj2
    · right
      refine ⟨w, tS C n (tE C n (tE C n p)), hw0, fun gdr r => ?_, fun g fp gac j hg hj hj2 => ?_⟩
      · obtain ⟨gr', z1, z2⟩ := bc (r.1, r.2.1, nI (tV C n (tE C n p)), r.2.2.2)
        rw [hC, ac r, some_bind', if_neg n10]
        simp only []
        rw [show (rdC C n (tE C n (tE C n p)) (r.1, r.2.1, nI (tV C n (tE C n p)), r.2.2.2)).2.2.2.2.2.2.1 = nI (tV C n (tE C n p)) from rfl, z1, some_bind', if_pos rfl]
        exact ⟨_, gr', rfl, z2⟩
      · obtain ⟨g1, x1, x2⟩ := hM g fp gac j hg hj hj2
        obtain ⟨g2, y1, y2⟩ := am g1 fp x1
        obtain ⟨v, z1⟩ := bm g2 fp y2
        rw [x2, y1, some_bind', h180 g2 fp _ _ j _ hj2, z1, some_bind']
        obtain ⟨gac', q1⟩ := bad_204 (gvm := gvm) (gtt := gtt) (fp := nI (tS C n (tE C n (tE C n p)))) hw0 g2 (nI j, upd (upd (A0 gac.2.1 j (nI k)) (5 * j + 1) (nI (tV C n (tE C n p)))) (5 * j + 2) v, gac.2.2) hj2 (nI k)
        exact ⟨_, _, q1⟩
  · right
    refine ⟨w, tS C n (tE C n p), hw0, fun gdr r => ?_, fun g fp gac j hg hj hj2 => ?_⟩
    · obtain ⟨gr', z1, z2⟩ := ac r
      rw [hC, z1, some_bind', if_pos rfl]
      exact ⟨_, gr', rfl, z2⟩
    · obtain ⟨g1, x1, x2⟩ := hM g fp gac j hg hj hj2
      obtain ⟨v, y1⟩ := am g1 fp x1
      rw [x2, y1, some_bind']
      obtain ⟨gac', q1⟩ := bad_180 (gvm := gvm) (gtt := gtt) (fp := nI (tS C n (tE C n p))) hw0 g1 (nI j, upd (A0 gac.2.1 j (nI k)) (5 * j + 1) v, gac.2.2) hj2 (nI k)
      exact ⟨_, _, q1⟩
-- census, rub, swap
theorem q_day4 {gvm : TM} {gtx gtt : TA} {C : Nat → Nat} {n p O : Nat} (h : TX gtx gtt C n) (hp : p ≤ n) (hw : isW C n p (7 + 4)) : QD gvm gtx gtt C n O p := by
  have hb := tk_b C hp
  have hl := (kw_len hp (by omega) hw).2 rfl
  have hp2 := hb.2.2.1
  have hC : ∀ gdr r, p_X3_readDay gdr (rdC C n p r) gtx (nI O) = p_X3_readDay_92 gtx (4, gdr.2) (rdC C n (tE C n p) r) := by
    intro gdr r
    rw [c_rd' h hp (k := 4) (by omega) hw]
    exact c_72 gtx (4, gdr.2) _ (show 4 < 8 by decide) (show 4 ≠ 6 by decide)
  have hM : ∀ (g : RDm) (fp : Int32) (gac : TAc) (j : Nat), RRd g C n p → gac.1 = nI j → j < 120 → ∃ g1, RRd g1 C n (tE C n p) ∧ p_X13_readsDay gvm gtt (0, fp) g gac = p_X13_readsDay_259 gvm gtt (0, fp) g1 (nI j, A0 gac.2.1 j (nI 4), gac.2.2) := by
    intro g fp gac j hg hj hj2
    obtain ⟨g1, a1, a2⟩ := m_rd (gvm := gvm) (k := 4) h hp (by omega) hw hg fp hj hj2
    refine ⟨g1, a1, ?_⟩
    rw [a2, if_neg (by decide), if_neg (by decide), if_pos (by decide)]
  rcases q_dend (gvm := gvm) h hp2 with ⟨d1, d2, dc, dm⟩ | ⟨dc, dm⟩
  · left
    refine ⟨tE C n (tE C n p), 4, 0, 0, 0, 0, 0, by omega, d2, fun gdr r => ?_, ⟨by omega, fun e => by omega, fun e => by omega, fun e => by omega, fun e => by omega, fun e => by omega, fun e => by omega⟩, fun g fp gac j hg hj hj2 => ?_⟩
    · rw [hC, dc]
      exact ⟨_, _, rfl, rfl, rfl, rfl, rfl, fun e => absurd rfl e, fun e => by omega, fun e => by omega, fun e => by omega⟩
    · obtain ⟨g1, x1, x2⟩ := hM g fp gac j hg hj hj2
      obtain ⟨g2, y1, y2⟩ := dm g1 fp (nI j, A0 gac.2.1 j (nI 4), gac.2.2) x1
      have hA := A0_r gac.2.1 j (nI 4)
      rw [x2, y1]
      exact ⟨_, _, rfl, y2, nI_1 _, ⟨hA.1, hA.2.1, hA.2.2.1, hA.2.2.2.1, hA.2.2.2.2.1, fun e => by omega⟩, fun i hi => ⟨hA.2.2.2.2.2 i hi, rfl⟩⟩
  · right
    refine ⟨1, tS C n (tE C n p), by decide, fun gdr r => ?_, fun g fp gac j hg hj hj2 => ?_⟩
    · obtain ⟨gr', z1, z2⟩ := dc (4, gdr.2) r
      rw [hC, z1]; exact ⟨_, gr', rfl, z2⟩
    · obtain ⟨g1, x1, x2⟩ := hM g fp gac j hg hj hj2
      rw [x2, dm g1 fp _ x1]; exact ⟨_, _, rfl⟩
theorem q_day57 {gvm : TM} {gtx gtt : TA} {C : Nat → Nat} {n p k O : Nat} (h : TX gtx gtt C n) (hp : p ≤ n) (hk : k = 5 ∨ k = 7) (hw : isW C n p (7 + k)) : QD gvm gtx gtt C n O p := by
  have hb := tk_b C hp
  have hk8 : k < 8 := by omega
  have hl := (kw_len hp hk8 hw).1
  have hp2 := hb.2.2.1
  have hb2 := tk_b C hp2
  have hp3 := hb2.2.2.1
  have hb3 := tk_b C hp3
  have hM : ∀ (g : RDm) (fp : Int32) (gac : TAc) (j : Nat), RRd g C n p → gac.1 = nI j → j < 120 → ∃ g1, RRd g1 C n (tE C n p) ∧ p_X13_readsDay gvm gtt (0, fp) g gac = p_X13_readsDay_101 gvm gtt (0, fp) g1 (nI j, A0 gac.2.1 j (nI k), gac.2.2) (nI k) (nI (5 * j)) := by
    intro g fp gac j hg hj hj2
    obtain ⟨g1, a1, a2⟩ := m_rd (gvm := gvm) h hp hk8 hw hg fp hj hj2
    refine ⟨g1, a1, ?_⟩
    rw [a2]
    rcases hk with e | e
    · rw [if_pos (eq_t (c := 5) e)]
    · rw [if_neg (eq_f (c := 5) (by omega) (by omega) (by decide)), if_pos (eq_t (c := 7) e)]
  have h101 : ∀ g fp (t f : TA) j, j < 120 → p_X13_readsDay_101 gvm gtt (0, fp) g (nI j, t, f) (nI k) (nI (5 * j)) = ((p_X13_among gtt (0, fp) g (nI 10) (-1)).bind fun v1 => (if nI k = 7 then ((p_X13_among gtt v1.2.1 v1.2.2 (nI 10) v1.1).bind fun v6 => p_X13_readsDay_259 gvm gtt v6.2.1 v6.2.2 (nI j, upd (upd t (5 * j + 1) v1.1) (5 * j + 2) v6.1, f)) else p_X13_readsDay_259 gvm gtt v1.2.1 v1.2.2 (nI j, upd t (5 * j + 1) v1.1, f))) := by
    intro g fp t f j hj
    unfold p_X13_readsDay_101
    rw [a5_1, a5_2]
    simp only [if_pos (ix_nI (show 5 * j + 1 < 600 by omega) (show 600 < 2147483648 by decide)), if_pos (ix_nI (show 5 * j + 2 < 600 by omega) (show 600 < 2147483648 by decide)), cl_nI (show 5 * j + 1 < 2147483648 by omega), cl_nI (show 5 * j + 2 < 2147483648 by omega), pk_us]
    rfl
  have hown : dq_owners.2.2.2.getD k 0 = 0 := by rcases hk with e | e <;> subst e <;> rfl
  have hln : dq_leastNumber.2.2.2.getD k 0 = -1 := by rcases hk with e | e <;> subst e <;> rfl
  have hdo : dq_doors.2.2.2.getD k 0 = (if k = 5 then 1 else 2) := by rcases hk with e | e <;> subst e <;> rfl
  have hC : ∀ gdr r, p_X3_readDay gdr (rdC C n p r) gtx (nI O) = ((p_X7_takeOneOf (rdC C n (tE C n p) r) gtx (nI 10) (-1)).bind fun v2 => (if v2.1 = 0 then some (0, ((k, gdr.2), v2.2)) else (if k = 5 then p_X3_readDay_92 gtx (k, v2.2.2.2.2.2.2.2.1, gdr.2.2) v2.2 else ((p_X7_takeOneOf v2.2 gtx (nI 10) v2.2.2.2.2.2.2.2.1).bind fun v6 => (if v6.1 = 0 then some (0, ((k, v2.2.2.2.2.2.2.2.1, gdr.2.2), v6.2)) else p_X3_readDay_92 gtx (k, v2.2.2.2.2.2.2.2.1, v6.2.2.2.2.2.2.2.1, gdr.2.2.2) v6.2))))) := by
    intro gdr r
    have hend : ∀ (x : TDr) (gr : RD), x.1 = k → (if x.1 < 8 then (if (dq_leastNumber.2.2.2.getD x.1 0) = (-1 : Int32) then p_X3_readDay_72 gtx x gr else ((p_X3_readAmount x gr gtx).bind fun v16 => (if v16.1 = 0 then some (0, v16.2) else p_X3_readDay_72 gtx v16.2.1 v16.2.2))) else none) = p_X3_readDay_92 gtx x gr := by
      intro x gr hx
      rw [hx, if_pos hk8, if_pos hln]
      exact c_72 gtx x gr (by rw [hx]; exact hk8) (by rw [hx]; omega)
    rw [c_rd' h hp hk8 hw, hown]
    unfold Rem p_X3_readAllOf
    rw [if_pos rfl, some_bind', if_neg n10]
    simp only [if_pos hk8]
    rw [show ([0, 0, 0, 0, 0, 1, 0, 2] : List Int32).getD k 0 = (if k = 5 then 1 else 2) from hdo, if_neg (show ¬ (if k = 5 then (1 : Int32) else 2) = 0 by split <;> decide)]
    cases ht : p_X7_takeOneOf (rdC C n (tE C n p) r) gtx 10 (-1) with
    | none => rw [show p_X7_takeOneOf (rdC C n (tE C n p) r) gtx (nI 10) (-1) = none from ht]; rfl
    | some v =>
      rw [show p_X7_takeOneOf (rdC C n (tE C n p) r) gtx (nI 10) (-1) = some v from ht, some_bind', some_bind']
      by_cases hz : v.1 = 0
      · rw [if_pos hz, if_pos hz]; rfl
      · rw [if_neg hz, if_neg hz]
        by_cases h5 : k = 5
        · rw [if_pos h5, if_pos rfl, if_pos h5, some_bind', if_neg n10]
          exact hend (k, v.2.2.2.2.2.2.2.1, gdr.2.2) v.2 rfl
        · rw [if_neg h5, if_neg (by decide), if_neg h5]
          cases ht2 : p_X7_takeOneOf v.2 gtx 10 v.2.2.2.2.2.2.2.1 with
          | none => rw [show p_X7_takeOneOf v.2 gtx (nI 10) v.2.2.2.2.2.2.2.1 = none from ht2]; rfl
          | some v' =>
            rw [show p_X7_takeOneOf v.2 gtx (nI 10) v.2.2.2.2.2.2.2.1 = some v' from ht2, some_bind', some_bind']
            by_cases hz2 : v'.1 = 0
            · rw [if_pos hz2, if_pos hz2]; rfl
            · rw [if_neg hz2, if_neg hz2, some_bind', if_neg n10]
              exact hend (k, v.2.2.2.2.2.2.2.1, v'.2.2.2.2.2.2.2.1, gdr.2.2.2) v'.2 rfl
  rcases q_among h hp2 (many := 10) (-1) (by omega) with ⟨a1, a2, a3, ac, am⟩ | ⟨w, hw0, ac, am⟩
  · rcases hk with rfl | rfl
    · rcases q_dend (gvm := gvm) h hp3 with ⟨d1, d2, dc, dm⟩ | ⟨dc, dm⟩
      · left
        refine ⟨tE C n (tE C n (tE C n p)), 5, tV C n (tE C n p), 0, 0, 0, 0, by omega, d2, fun gdr r => ?_, ⟨by omega, fun e => by omega, fun e => by omega, fun _ => a1, fun e => by omega, fun e => by omega, fun e => by omega⟩, fun g fp gac j hg hj hj2 => ?_⟩
        · rw [hC, ac r, some_bind', if_neg n10, if_pos rfl, dc]
          exact ⟨_, _, rfl, rfl, rfl, rfl, rfl, fun _ => rfl, fun e => by omega, fun e => by omega, fun e => by omega⟩
        · obtain ⟨g1, x1, x2⟩ := hM g fp gac j hg hj hj2
          obtain ⟨g2, y1, y2⟩ := am g1 fp x1
          obtain ⟨g3, z1, z2⟩ := dm g2 fp (nI j, upd (A0 gac.2.1 j (nI 5)) (5 * j + 1) (nI (tV C n (tE C n p))), gac.2.2) y2
          have hA := A0_r gac.2.1 j (nI 5)
          rw [x2, h101 g1 fp _ _ j hj2, y1, some_bind', if_neg (by decide), z1]
          refine ⟨_, _, rfl, z2, nI_1 _, ⟨?_, ?_, ?_, ?_, ?_, fun e => by omega⟩, fun i hi => ⟨?_, rfl⟩⟩
          · exact (pk_un (by omega)).trans hA.1
          · exact pk_us
          · exact (pk_un (by omega)).trans hA.2.2.1
          · exact (pk_un (by omega)).trans hA.2.2.2.1
          · exact (pk_un (by omega)).trans hA.2.2.2.2.1
          · exact (pk_un (by omega)).trans (hA.2.2.2.2.2 i hi)
      · right
        refine ⟨1, tS C n (tE C n (tE C n p)), by decide, fun gdr r => ?_, fun g fp gac j hg hj hj2 => ?_⟩
        · rw [hC, ac r, some_bind', if_neg n10, if_pos rfl]
          obtain ⟨gr', z1, z2⟩ := dc (5, nI (tV C n (tE C n p)), gdr.2.2) (r.1, r.2.1, nI (tV C n (tE C n p)), r.2.2.2)
          exact ⟨_, gr', z1, z2⟩
        · obtain ⟨g1, x1, x2⟩ := hM g fp gac j hg hj hj2
          obtain ⟨g2, y1, y2⟩ := am g1 fp x1
          rw [x2, h101 g1 fp _ _ j hj2, y1, some_bind', if_neg (by decide), dm g2 fp _ y2]
          exact ⟨_, _, rfl⟩
    · rcases q_among h hp3 (many := 10) (nI (tV C n (tE C n p))) (by omega) with ⟨b1, b2, b3, bc, bm⟩ | ⟨w, hw0, bc, bm⟩
      · have hab : tV C n (tE C n p) ≠ tV C n (tE C n (tE C n p)) := fun e => b2 (by rw [e])
        have hCC : ∀ gdr r, p_X3_readDay gdr (rdC C n p r) gtx (nI O) = p_X3_readDay_92 gtx (7, nI (tV C n (tE C n p)), nI (tV C n (tE C n (tE C n p))), gdr.2.2.2) (rdC C n (tE C n (tE C n (tE C n p))) (r.1, r.2.1, nI (tV C n (tE C n (tE C n p))), r.2.2.2)) := by
          intro gdr r
          rw [hC, ac r, some_bind', if_neg n10, if_neg (by decide)]
          simp only []
          rw [show (rdC C n (tE C n (tE C n p)) (r.1, r.2.1, nI (tV C n (tE C n p)), r.2.2.2)).2.2.2.2.2.2.1 = nI (tV C n (tE C n p)) from rfl, bc, some_bind', if_neg n10]
          rfl
        rcases q_dend (gvm := gvm) h hb3.2.2.1 with ⟨d1, d2, dc, dm⟩ | ⟨dc, dm⟩
        · left
          refine ⟨tE C n (tE C n (tE C n (tE C n p))), 7, tV C n (tE C n p), tV C n (tE C n (tE C n p)), 0, 0, 0, by omega, d2, fun gdr r => ?_, ⟨by omega, fun e => by omega, fun e => by omega, fun _ => a1, fun _ => ⟨b1, hab⟩, fun e => by omega, fun e => by omega⟩, fun g fp gac j hg hj hj2 => ?_⟩
          · rw [hCC, dc]
            exact ⟨_, _, rfl, rfl, rfl, rfl, rfl, fun _ => rfl, fun _ => rfl, fun e => by omega, fun e => by omega⟩
          · obtain ⟨g1, x1, x2⟩ := hM g fp gac j hg hj hj2
            obtain ⟨g2, y1, y2⟩ := am g1 fp x1
            obtain ⟨g3, u1, u2⟩ := bm g2 fp y2
            obtain ⟨g4, z1, z2⟩ := dm g3 fp (nI j, upd (upd (A0 gac.2.1 j (nI 7)) (5 * j + 1) (nI (tV C n (tE C n p)))) (5 * j + 2) (nI (tV C n (tE C n (tE C n p)))), gac.2.2) u2
            have hA := A0_r gac.2.1 j (nI 7)
            rw [x2, h101 g1 fp _ _ j hj2, y1, some_bind', if_pos (by decide), u1, some_bind', z1]
            refine ⟨_, _, rfl, z2, nI_1 _, ⟨?_, ?_, ?_, ?_, ?_, fun e => by omega⟩, fun i hi => ⟨?_, rfl⟩⟩
            · exact (pk_un (by omega)).trans ((pk_un (by omega)).trans hA.1)
            · exact (pk_un (by omega)).trans pk_us
            · exact pk_us
            · exact (pk_un (by omega)).trans ((pk_un (by omega)).trans hA.2.2.2.1)
            · exact (pk_un (by omega)).trans ((pk_un (by omega)).trans hA.2.2.2.2.1)
            · exact (pk_un (by omega)).trans ((pk_un (by omega)).trans (hA.2.2.2.2.2 i hi))
        · right
          refine ⟨1, tS C n (tE C n (tE C n (tE C n p))), by decide, fun gdr r => ?_, fun g fp gac j hg hj hj2 => ?_⟩
          · rw [hCC]
            obtain ⟨gr', z1, z2⟩ := dc (7, nI (tV C n (tE C n p)), nI (tV C n (tE C n (tE C n p))), gdr.2.2.2) (r.1, r.2.1, nI (tV C n (tE C n (tE C n p))), r.2.2.2)
            exact ⟨_, gr', z1, z2⟩
          · obtain ⟨g1, x1, x2⟩ := hM g fp gac j hg hj hj2
            obtain ⟨g2, y1, y2⟩ := am g1 fp x1
            obtain ⟨g3, u1, u2⟩ := bm g2 fp y2
            rw [x2, h101 g1 fp _ _ j hj2, y1, some_bind', if_pos (by decide), u1, some_bind', dm g3 fp _ u2]
            exact ⟨_, _, rfl⟩
      · right
        refine ⟨w, tS C n (tE C n (tE C n p)), hw0, fun gdr r => ?_, fun g fp gac j hg hj hj2 => ?_⟩
        · obtain ⟨gr', z1, z2⟩ := bc (r.1, r.2.1, nI (tV C n (tE C n p)), r.2.2.2)
          rw [hC, ac r, some_bind', if_neg n10, if_neg (by decide)]
          simp only []
          rw [show (rdC C n (tE C n (tE C n p)) (r.1, r.2.1, nI (tV C n (tE C n p)), r.2.2.2)).2.2.2.2.2.2.1 = nI (tV C n (tE C n p)) from rfl, z1, some_bind', if_pos rfl]
          exact ⟨_, gr', rfl, z2⟩
        · obtain ⟨g1, x1, x2⟩ := hM g fp gac j hg hj hj2
          obtain ⟨g2, y1, y2⟩ := am g1 fp x1
          obtain ⟨v, u1⟩ := bm g2 fp y2
          rw [x2, h101 g1 fp _ _ j hj2, y1, some_bind', if_pos (by decide), u1, some_bind', bad_259 hw0]
          exact ⟨_, _, rfl⟩
  · right
    refine ⟨w, tS C n (tE C n p), hw0, fun gdr r => ?_, fun g fp gac j hg hj hj2 => ?_⟩
    · obtain ⟨gr', z1, z2⟩ := ac r
      rw [hC, z1, some_bind', if_pos rfl]
      exact ⟨_, gr', rfl, z2⟩
    · obtain ⟨g1, x1, x2⟩ := hM g fp gac j hg hj hj2
      obtain ⟨v, y1⟩ := am g1 fp x1
      rw [x2, h101 g1 fp _ _ j hj2, y1, some_bind', bad_among hw0, some_bind', bad_259 hw0, bad_259 hw0]
      by_cases h7 : nI k = 7
      · rw [if_pos h7]; exact ⟨_, _, rfl⟩
      · rw [if_neg h7]; exact ⟨_, _, rfl⟩
theorem q_rday {gvm : TM} {gtx gtt : TA} {C : Nat → Nat} {n p O : Nat} (h : TX gtx gtt C n) (hp : p ≤ n) (hO : O ≤ 5) (hv : gvm.1 = nI O) : QD gvm gtx gtt C n O p := by
  by_cases hk : ∃ k, k < 8 ∧ isW C n p (7 + k)
  · obtain ⟨k, hk, hw⟩ := hk
    have h8 : (k = 0 ∨ k = 1 ∨ k = 3) ∨ (k = 2 ∨ k = 6) ∨ k = 4 ∨ (k = 5 ∨ k = 7) := by omega
    rcases h8 with h8 | h8 | h8 | h8
    · exact q_day1 h hp hO hv h8 hw
    · exact q_day2 h hp hO hv h8 hw
    · subst h8; exact q_day4 h hp hw
    · exact q_day57 h hp h8 hw
  · right
    have hno : ∀ i, i < 8 → ¬ isW C n p (7 + i) := fun i hi hw => hk ⟨i, hi, hw⟩
    refine ⟨1, tS C n p, by decide, fun gdr r => ?_, fun g fp gac j hg hj hj2 => ?_⟩
    · have hkd : p_X3_readKind gdr (rdC C n p r) gtx = some (0, gdr) := by
        rcases c_kind h hp gdr r 8 0 fu (by omega) (fu_lt (by decide)) (fun i hi => by omega) with ⟨i, hi, hwi, _⟩ | ⟨_, e⟩
        · exact absurd hwi (hno i hi)
        · exact e
      unfold p_X3_readDay
      rw [hkd, some_bind', if_pos rfl]
      exact ⟨_, _, rfl, rfl, rfl⟩
    · have e : p_X13_readsDay gvm gtt (0, fp) g gac = p_X13_readsDay_37 gvm gtt (0, fp) g gac (-1) 0 := by
        rcases m_kind (gvm := gvm) h hp hg (0, fp) gac 8 0 fu (-1) (by omega) (fu_lt (by decide)) (Or.inl ⟨rfl, fun i hi => by omega⟩) with ⟨i, hi, hwi, _⟩ | ⟨_, e⟩
        · exact absurd hwi (hno i hi)
        · exact e
      have hn : p_X13_need gtt (0, fp) g 0 = some ((1, nI (tS C n p)), g) := by
        unfold p_X13_need p_X13_wrong
        rw [good0, some_bind', if_neg n10, if_pos rfl, if_pos rfl, hg.2.2.2.1]; rfl
      rw [e, m_37 hj hj2, hn, some_bind', if_neg (by decide), if_neg (by decide), if_neg (by decide), bad_among (by decide), some_bind', if_neg (by decide), if_neg (by decide)]
      obtain ⟨gac', q1⟩ := bad_204 (gvm := gvm) (gtt := gtt) (w := 1) (fp := nI (tS C n p)) (by decide) g (nI j, upd (A0 gac.2.1 j (-1)) (5 * j + 1) 0, gac.2.2) hj2 (-1)
      exact ⟨_, _, q1⟩
