theorem q_door {gvn : TV} {gdn : TD} {gcn : TR} {gvm : TM} {grc : TRm} {S : MS} (hc : CS gvn gdn gcn S) (hr : RS gvm grc S) (ho : OS S) (gth x1 x2 : Int32) : ∃ v r t, p_X12_door gdn x1 x2 = some (v, ()) ∧ p_X13_door gth gvm x1 x2 = some (r, t) ∧ Ag1 1 v r t := by
  unfold p_X12_door p_X13_door
  rcases g_door hc.2.1 hr.2.1 ho.2.1 x1 with ⟨d, hd, hh, rfl, e1, e2⟩ | ⟨e1, e2⟩
  · rw [e1, some_bind', xb_l, e2, some_bind', if_neg n10]
    have hm := (hr.2.1.2 d hd).2 hh
    have h5 := ho.2.1.2.2 d hd hh
    have hix : ix (nI d) 10 := ix_nI hd (by decide)
    have hcl : (nI d).toNatClampNeg = d := cl_nI (by omega)
    unfold p_X13_door_42 p_X13_door_46 p_X13_door_47
    by_cases h0 : x2 = 0
    · subst h0
      rw [if_pos rfl, show p_X13_within 0 0 2 = some 1 from rfl, some_bind', if_neg n10, show p_X13_right 0 1 1 = some (1, 0) from rfl, some_bind', if_neg n10, if_pos rfl, if_pos hix, hcl, hm.1, c_deb hc.2.1 ho.2.1.2.1 hd, if_pos hh]
      exact ⟨_, _, _, rfl, rfl, Or.inl ⟨rfl, rfl⟩⟩
    · rw [if_neg h0]
      by_cases h1 : x2 = 1
      · subst h1
        rw [if_pos rfl, show p_X13_within 1 0 2 = some 1 from rfl, some_bind', if_neg n10, show p_X13_right 0 1 1 = some (1, 0) from rfl, some_bind', if_neg n10, if_neg n10, if_pos rfl, if_pos hix, hcl, hm.2.1, c_lend hc.2.1 ho.2.1.2.1 hd, if_pos hh]
        exact ⟨_, _, _, rfl, rfl, Or.inl ⟨rfl, rfl⟩⟩
      · rw [if_neg h1]
        by_cases h2 : x2 = 2
        · subst h2
          rw [if_pos rfl, show p_X13_within 2 0 2 = some 1 from rfl, some_bind', if_neg n10, show p_X13_right 0 1 1 = some (1, 0) from rfl, some_bind', if_neg n10, if_neg (by decide), if_neg (by decide), if_pos rfl, if_pos hix, hcl, hm.2.2.1, c_len hc.2.1 ho.2.1.2.1 hd, if_pos hh]
          exact ⟨_, _, _, rfl, rfl, Or.inl ⟨rfl, rfl⟩⟩
        · rw [if_neg h2]
          have hw : p_X13_within x2 0 2 = some 0 := by
            rcases q_ix x2 3 (by decide) with h | h | ⟨j, hj, rfl⟩
            · exact within_out (n := 2) (by decide) (Or.inl h)
            · exact within_out (n := 2) (by decide) (Or.inr h)
            · have h : j = 0 ∨ j = 1 ∨ j = 2 := by omega
              rcases h with h | h | h <;> subst h
              · exact absurd rfl h0
              · exact absurd rfl h1
              · exact absurd rfl h2
          rw [hw, some_bind', if_pos rfl, if_pos hix, hcl, hm.2.2.1]
          unfold p_X12_figureOf
          rw [c_len hc.2.1 ho.2.1.2.1 hd, if_pos hh]
          rcases q_ix (x2 - 10) (dM S.2.1 d) (by omega) with h | h | ⟨j, hj, hx⟩
          · rw [if_pos h]
            by_cases h10 : x2 < 10
            · rw [if_pos h10]; exact ⟨_, _, _, rfl, rfl, Or.inr ⟨rfl, rfl⟩⟩
            · exfalso
              obtain ⟨m, hm2, rfl⟩ := nI_of (x := x2) (fun e => h10 (by rw [Int32.lt_iff_toInt_lt] at e ⊢; have h3 : (0 : Int32).toInt = 0 := by decide
                                                                        have h4 : (10 : Int32).toInt = 10 := by decide
                                                                        omega))
              have h11 : 10 ≤ m := Nat.le_of_not_lt (fun e => h10 (ltr_t (c := 10) e (by decide)))
              rw [show nI m - 10 = nI (m - 10) from pk_sub (b := 10) h11] at h
              exact absurd h (nI_pos (by omega))
          · rw [if_neg h.1, some_bind', if_neg (fun e => by rw [Int32.lt_iff_toInt_lt] at e; have := h.2.1; rw [Int32.le_iff_toInt_le] at this; omega)]
            by_cases h10 : x2 < 10
            · rw [if_pos h10]; exact ⟨_, _, _, rfl, rfl, Or.inr ⟨rfl, rfl⟩⟩
            · rw [if_neg h10, if_pos h.2.1]; exact ⟨_, _, _, rfl, rfl, Or.inr ⟨rfl, rfl⟩⟩
          · have hx2 : x2 = nI (j + 10) := by
              have h3 : x2 - 10 + 10 = nI j + 10 := by rw [hx]
              rw [Int32.sub_add_cancel] at h3
              rw [h3, show (10 : Int32) = nI 10 from rfl, nI_add]
            have hat : 5 * nI d + x2 - 10 = nI (5 * d + j) := by
              rw [hx2, fig_at']; exact pk_sub (b := 10) (a := 5 * d + (j + 10)) (by omega)
            rw [hat, hx, if_neg (nI_pos (by omega)), some_bind', if_pos (nI_lt hj (by omega)), c_fig hc.2.1 ho.2.1 hd hh hj, some_bind', hx2, if_neg (ltr_f (c := 10) (by omega) (by omega)), if_neg (nI_ge hj (by omega)), show p_X13_right 0 1 1 = some (1, 0) from rfl, some_bind', xb_l, some_bind', if_neg n10, if_neg (eq_f (c := 0) (by omega) (by omega) (by decide)), if_neg (eq_f (c := 1) (by omega) (by omega) (by decide)), if_neg (eq_f (c := 2) (by omega) (by omega) (by decide)), if_pos (ix_nI (by omega) (by decide)), cl_nI (by omega), hm.2.2.2 j hj]
            exact ⟨_, _, _, rfl, rfl, Or.inl ⟨rfl, rfl⟩⟩
  · rw [e1, e2]; exact ⟨_, _, _, rfl, rfl, Or.inr ⟨rfl, rfl⟩⟩
theorem q_lose {gcn : TR} {grc : TRm} {R : MR} (hc : RC gcn R) (hm : RM grc R) (ho : OR R) (gth : Int32) : ∃ r gcn' grc', p_X12_lose gcn = some (r, gcn') ∧ p_X13_lose gth grc = some (r, 0, grc') ∧ ∃ R', RC gcn' R' ∧ RM grc' R' ∧ OR R' := by
  unfold p_X12_lose p_X13_lose
  have h12 := ho.1
  rw [hc.1, hm.1]
  by_cases h : R.1 = 0
  · rw [if_pos (eq_t (c := 0) h), if_pos (eq_t (c := 0) h)]
    exact ⟨_, _, _, rfl, rfl, R, hc, hm, ho⟩
  · rw [if_neg (eq_f (c := 0) h (by omega) (by decide)), if_neg (eq_f (c := 0) h (by omega) (by decide)), pred_nI (by omega)]
    exact ⟨_, _, _, rfl, rfl, (R.1 - 1, R.2), ⟨rfl, fun r hr => hc.2 r (Nat.lt_of_lt_of_le hr (Nat.sub_le _ _))⟩, ⟨rfl, fun r hr => hm.2 r (Nat.lt_of_lt_of_le hr (Nat.sub_le _ _))⟩, ⟨Nat.le_trans (Nat.sub_le _ _) h12, fun r hr => ho.2 r (Nat.lt_of_lt_of_le hr (Nat.sub_le _ _))⟩⟩
theorem at3 (r : Nat) : (3 : Int32) * nI r = nI (3 * r) := by rw [show (3 : Int32) = nI 3 from rfl, pk_mul]
theorem q_receipt {gg : TG} {gcn : TR} {grc : TRm} {R : MR} {grf : TA} (hc : RC gcn R) (hm : RM grc R) (ho : OR R) (h4 : gg.2.2.2.2.1 = grf 2) (gth x1 x2 x3 : Int32) : ∃ r gg' gcn' grf' grc', p_X12_receipt gg gcn x1 x2 x3 = some (r, gg', gcn') ∧ p_X13_receipt gth grf grc x1 x2 x3 = some (r, 0, grf', grc') ∧ (gg'.1 = gg.1 ∧ gg'.2.1 = gg.2.1 ∧ gg'.2.2.1 = gg.2.2.1 ∧ gg'.2.2.2.1 = gg.2.2.2.1 ∧ gg'.2.2.2.2.2 = gg.2.2.2.2.2 ∧ grf' 0 = grf 0 ∧ grf' 1 = grf 1 ∧ gg'.2.2.2.2.1 = grf' 2) ∧ ∃ R', RC gcn' R' ∧ RM grc' R' ∧ OR R' := by
  have h12 := ho.1
  have hno : ∀ {z : Option (Int32 × TG × TR)} {w : Option (Int32 × Int32 × TA × TRm)}, z = p_X12_receipt_62 gg gcn → w = p_X13_receipt_47 0 grf grc → ∃ r gg' gcn' grf' grc', z = some (r, gg', gcn') ∧ w = some (r, 0, grf', grc') ∧ (gg'.1 = gg.1 ∧ gg'.2.1 = gg.2.1 ∧ gg'.2.2.1 = gg.2.2.1 ∧ gg'.2.2.2.1 = gg.2.2.2.1 ∧ gg'.2.2.2.2.2 = gg.2.2.2.2.2 ∧ grf' 0 = grf 0 ∧ grf' 1 = grf 1 ∧ gg'.2.2.2.2.1 = grf' 2) ∧ ∃ R', RC gcn' R' ∧ RM grc' R' ∧ OR R' := by
    intro z w hz hw
    refine ⟨-1, (gg.1, gg.2.1, gg.2.2.1, gg.2.2.2.1, gg.2.2.2.2.1 + 1, gg.2.2.2.2.2), gcn, upd grf 2 (grf 2 + 1), grc, hz, hw.trans ?_, ⟨rfl, rfl, rfl, rfl, rfl, rfl, rfl, ?_⟩, R, hc, hm, ho⟩
    · rfl
    · show gg.2.2.2.2.1 + 1 = grf 2 + 1
      rw [h4]
  have h39 : p_X12_receipt_38 gg gcn x1 x2 x3 = p_X12_receipt_62 gg gcn := by unfold p_X12_receipt_38 p_X12_receipt_39; rw [if_pos rfl]
  have hadd12 : R.1 = 12 → p_X12_receipt_39 gg gcn x1 x2 x3 1 = p_X12_receipt_62 gg gcn := by
    intro hR
    unfold p_X12_receipt_39 p_X8_add
    rw [if_neg n10, hc.1, hR, if_neg (by decide), if_neg (by decide), some_bind', if_pos rfl]
  unfold p_X12_receipt p_X13_receipt
  rw [h39, hm.1]
  by_cases hR : R.1 = 12
  · rw [if_pos (eq_t (c := 12) hR)]
    refine hno ?_ rfl
    rw [hadd12 hR]
    repeat' split
    all_goals rfl
  · rw [if_neg (eq_f (c := 12) hR (by omega) (by decide))]
    by_cases c1 : x1 < 0
    · rw [if_pos c1, if_pos c1]; exact hno rfl rfl
    · rw [if_neg c1, if_neg c1]
      by_cases c2 : (1024 : Int32) ≤ x1
      · rw [if_pos c2, if_pos c2]; exact hno rfl rfl
      · rw [if_neg c2, if_neg c2]
        unfold p_X13_within
        by_cases c3 : x2 < 0
        · rw [if_pos c3, if_pos c3]; exact hno rfl rfl
        · rw [if_neg c3, if_neg c3]
          by_cases c4 : (99999999 : Int32) < x2
          · rw [if_pos c4, if_pos c4]; exact hno rfl rfl
          · rw [if_neg c4, if_neg c4, some_bind', if_neg n10]
            by_cases c5 : x3 < -20
            · rw [if_pos c5, if_pos c5]; exact hno rfl rfl
            · rw [if_neg c5, if_neg c5]
              by_cases c6 : (20 : Int32) < x3
              · rw [if_pos c6, if_pos c6]; exact hno rfl rfl
              · rw [if_neg c6, if_neg c6, some_bind', if_neg n10]
                have h0 : (0 : Int32).toInt = 0 := by decide
                have h1024 : (1024 : Int32).toInt = 1024 := by decide
                have h9 : (99999999 : Int32).toInt = 99999999 := by decide
                have h20 : (20 : Int32).toInt = 20 := by decide
                have hm20 : (-20 : Int32).toInt = -20 := by decide
                rw [Int32.lt_iff_toInt_lt] at c1 c3 c4 c5 c6
                rw [Int32.le_iff_toInt_le] at c2
                obtain ⟨a, ha, ea⟩ := ix_of (x := x1) (n := 1024) ⟨by omega, by omega⟩ (by decide)
                obtain ⟨b, hb, eb⟩ := ix_of (x := x2) (n := 100000000) ⟨by omega, by omega⟩ (by decide)
                have ec : x3 = iI x3.toInt := (Int32.ofInt_toInt x3).symm
                unfold p_X12_receipt_39 p_X8_add
                rw [if_neg n10, hc.1, if_neg (nI_pos (by omega)), if_pos (ltr_t (c := 12) (by omega) (by decide)), if_pos (ix_nI (by omega) (by decide)), if_pos (ix_nI (by omega) (by decide)), if_pos (ix_nI (by omega) (by decide)), some_bind', if_neg n10, cl_nI (by omega), at3, show (1 : Int32) = nI 1 from rfl, show (2 : Int32) = nI 2 from rfl, nI_add, nI_add, nI_add, if_pos (ix_nI (by omega) (by decide)), if_pos (ix_nI (by omega) (by decide)), if_pos (ix_nI (by omega) (by decide)), cl_nI (by omega), cl_nI (by omega), cl_nI (by omega)]
                refine ⟨_, _, _, _, _, rfl, rfl, ⟨rfl, rfl, rfl, rfl, rfl, rfl, rfl, h4⟩, (R.1 + 1, fun r => if r = R.1 then a else R.2.1 r, fun r => if r = R.1 then b else R.2.2.1 r, fun r => if r = R.1 then x3.toInt else R.2.2.2 r), ⟨rfl, fun r hr => ?_⟩, ⟨rfl, fun r hr => ?_⟩, ⟨?_, fun r hr => ?_⟩⟩
                · by_cases e : r = R.1
                  · subst e
                    simp only [if_pos rfl, pk_us]
                    exact ⟨ea, eb, ec⟩
                  · simp only [if_neg e, pk_un e]
                    exact hc.2 r (by have hr : r < R.1 + 1 := hr
                                     omega)
                · by_cases e : r = R.1
                  · subst e
                    simp only [if_pos rfl]
                    refine ⟨?_, ?_, ?_⟩
                    · rw [pk_un (by omega), pk_un (by omega), pk_us]; exact ea
                    · rw [pk_un (by omega), pk_us]; exact eb
                    · rw [pk_us]; exact ec
                  · simp only [if_neg e]
                    have hr : r < R.1 + 1 := hr
                    rw [pk_un (by omega), pk_un (by omega), pk_un (by omega), pk_un (by omega), pk_un (by omega), pk_un (by omega), pk_un (by omega), pk_un (by omega), pk_un (by omega)]
                    exact hm.2 r (by omega)
                · show R.1 + 1 ≤ 12; omega
                · have hr : r < R.1 + 1 := hr
                  by_cases e : r = R.1
                  · simp only [if_pos e]; omega
                  · simp only [if_neg e]; exact ho.2 r (by omega)
-- the tape
def TP (gtx gtt : TA) (n : Nat) : Prop := ∀ j, j < n → ∃ c, c < 256 ∧ gtt j = nI c ∧ gtx j = (nI c).toInt8.toInt32
theorem byte_low (x : Int32) : (x &&& 255).toInt8 = x.toInt8 := by
  rw [Int32.toInt8_and]
  rw [show (255 : Int32).toInt8 = -1 from by decide, Int8.and_neg_one]
theorem put_b (x : Int32) : ∃ c, c < 256 ∧ x &&& 255 = nI c ∧ vp_nar .byte x.toInt8.toInt32 = (nI c).toInt8.toInt32 := by
  obtain ⟨c, hc, e⟩ := pk_andE x (m := 255) 8 (by decide)
  exact ⟨c, hc, e, by rw [pk_vb, ← e, byte_low]⟩
theorem put_1 {g2 : Int32 × Int32 × Int32 × Int32 × Int32} {gtx gtt : TA} {n m s : Nat} (x : Int32) (hn : n < 600) (hs : s < 100) (ht : TP gtx gtt n) : ∃ gtx' gtt' : TA, p_X12_putBytes_3 (m + 1) (nI n, g2) gtx x (nI s) = p_X12_putBytes_3 m (nI (n + 1), g2) gtx' x (nI s + -8) ∧ p_X13_lays_3 (m + 1) gtt (nI n) x (nI s) = p_X13_lays_3 m gtt' (nI (n + 1)) x (nI s + -8) ∧ TP gtx' gtt' (n + 1) := by
  obtain ⟨c, hc, e1, e2⟩ := put_b (x >>> (nI s &&& 31))
  refine ⟨upd gtx n ((nI c).toInt8.toInt32), upd gtt n (nI c), ?_, ?_, ?_⟩
  · conv => lhs; unfold p_X12_putBytes_3
    unfold p_X12_putBytes_49
    simp only []
    rw [if_neg (nI_pos (by omega)), if_neg (nI_pos (by omega)), if_neg (le_f (c := 600) hn (by decide)), if_pos (ix_nI hn (by decide)), cl_nI (by omega), e2, nI_1]
  · conv => lhs; unfold p_X13_lays_3
    rw [if_neg (nI_pos (by omega)), if_pos (ix_nI hn (by decide)), cl_nI (by omega), e1, nI_1]
  · intro j hj
    by_cases e : j = n
    · subst e; exact ⟨c, hc, pk_us, pk_us⟩
    · rw [pk_un e, pk_un e]; exact ht j (by omega)
theorem put_4 {g2 : Int32 × Int32 × Int32 × Int32 × Int32} {gtx gtt : TA} {n : Nat} (x : Int32) (hn : n + 4 ≤ 600) (ht : TP gtx gtt n) : ∃ gtx' gtt' : TA, p_X12_putBytes (nI n, g2) gtx x = some ((nI (n + 4), g2), gtx') ∧ p_X13_lays gtt (nI n) x = some (gtt', nI (n + 4)) ∧ TP gtx' gtt' (n + 4) := by
  obtain ⟨a1, b1, h1, h2, t1⟩ := put_1 (g2 := g2) (m := 999999) (s := 24) x (by omega) (by decide) ht
  obtain ⟨a2, b2, h3, h4, t2⟩ := put_1 (g2 := g2) (m := 999998) (s := 16) x (by omega) (by decide) t1
  obtain ⟨a3, b3, h5, h6, t3⟩ := put_1 (g2 := g2) (m := 999997) (s := 8) x (by omega) (by decide) t2
  obtain ⟨a4, b4, h7, h8, t4⟩ := put_1 (g2 := g2) (m := 999996) (s := 0) x (by omega) (by decide) t3
  refine ⟨a4, b4, ?_, ?_, t4⟩
  · refine Eq.trans (h1.trans (Eq.trans ?_ (h3.trans (Eq.trans ?_ (h5.trans (Eq.trans ?_ h7)))))) ?_
    · rw [show nI 24 + -8 = nI 16 from by decide]
    · rw [show nI 16 + -8 = nI 8 from by decide]
    · rw [show nI 8 + -8 = nI 0 from by decide]
    · rw [show 999996 = 999995 + 1 from rfl]
      unfold p_X12_putBytes_3
      rw [if_pos (by decide)]
  · refine Eq.trans (h2.trans (Eq.trans ?_ (h4.trans (Eq.trans ?_ (h6.trans (Eq.trans ?_ h8)))))) ?_
    · rw [show nI 24 + -8 = nI 16 from by decide]
    · rw [show nI 16 + -8 = nI 8 from by decide]
    · rw [show nI 8 + -8 = nI 0 from by decide]
    · rw [show 999996 = 999995 + 1 from rfl]
      unfold p_X13_lays_3
      rw [if_pos (by decide)]
theorem q_feed {gg : TG} {gtx gtt : TA} {n : Nat} (hn : n ≤ 600) (hg : gg.1 = nI n) (ht : TP gtx gtt n) (gth x1 x2 x3 x4 x5 : Int32) : ∃ r m gg' gtx' gtt', p_X12_feed gg gtx x1 x2 x3 x4 x5 = some (r, gg', gtx') ∧ p_X13_feed gth gtt (nI n) x1 x2 x3 x4 x5 = some (r, 0, gtt', nI m) ∧ m ≤ 600 ∧ gg'.1 = nI m ∧ gg'.2 = gg.2 ∧ TP gtx' gtt' m := by
  unfold p_X12_feed p_X13_feed
  rw [hg, show (20 : Int32) = nI 20 from rfl, nI_add]
  by_cases h : n + 20 ≤ 600
  · rw [if_pos (ler_t (c := 600) h (by decide)), if_pos (ler_t (c := 600) h (by decide))]
    obtain ⟨g1, g2⟩ := gg
    have hg : g1 = nI n := hg
    subst hg
    obtain ⟨a1, b1, h1, k1, t1⟩ := put_4 (g2 := g2) x1 (by omega) ht
    obtain ⟨a2, b2, h2, k2, t2⟩ := put_4 (g2 := g2) x2 (by omega) t1
    obtain ⟨a3, b3, h3, k3, t3⟩ := put_4 (g2 := g2) x3 (by omega) t2
    obtain ⟨a4, b4, h4, k4, t4⟩ := put_4 (g2 := g2) x4 (by omega) t3
    obtain ⟨a5, b5, h5, k5, t5⟩ := put_4 (g2 := g2) x5 (by omega) t4
    refine ⟨nI (n + 4 + 4 + 4 + 4 + 4), n + 4 + 4 + 4 + 4 + 4, (nI (n + 4 + 4 + 4 + 4 + 4), g2), a5, b5, ?_, ?_, by omega, rfl, rfl, t5⟩
    · rw [h1, some_bind', h2, some_bind', h3, some_bind', h4, some_bind', h5]; rfl
    · rw [k1, some_bind', k2, some_bind', k3, some_bind', k4, some_bind', k5]; rfl
  · rw [if_neg (ler_f (c := 600) (by omega) (by omega)), if_neg (ler_f (c := 600) (by omega) (by omega))]
    exact ⟨-1, n, gg, gtx, gtt, rfl, rfl, hn, hg, rfl, ht⟩
