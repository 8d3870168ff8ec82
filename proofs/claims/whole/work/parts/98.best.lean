-- best
def am (f : Nat → Int) : Nat → Nat
  | 0 => 0
  | k + 1 => if f (k + 1) ≤ f (am f k) then am f k else k + 1
theorem am_le (f : Nat → Int) : ∀ k, am f k ≤ k := by
  intro k
  induction k with
  | zero => exact Nat.le_refl _
  | succ k ih => unfold am; split <;> omega
theorem am_s (f : Nat → Int) (k : Nat) : am f (k + 1) = (if f (k + 1) ≤ f (am f k) then am f k else k + 1) := rfl
theorem c_best_loop {O : Nat} {gvn : TV} {gd : TD} {D : MD} {x2 : Int32} (h : DC gd D) (ho : OD O D) (hO : O ≤ 5) {o : Nat} (hq : o < 5) : ∀ k j n : Nat, j + k = 40 → k < n → p_X12_best_29 gvn gd n (nI o) x2 (nI (am (nO D o) j)) (iL (nO D o (am (nO D o) j))) (nI (j + 1)) = some (Sum.inl (if x2 = 0 then nI (am (nO D o) 40) else iI (nO D o (am (nO D o) 40))), ()) := by
  intro k
  induction k with
  | zero =>
    intro j n hj hn
    obtain ⟨n, rfl⟩ : ∃ m, n = m + 1 := ⟨n - 1, by omega⟩
    have hj : j = 40 := by omega
    subst hj
    unfold p_X12_best_29
    rw [if_pos (lt_t (c := 40) (by decide) (by decide)), iL_i]
    by_cases hx : x2 = 0
    · rw [if_pos hx, if_pos hx]
    · rw [if_neg hx, if_neg hx]
  | succ k ih =>
    intro j n hj hn
    obtain ⟨n, rfl⟩ : ∃ m, n = m + 1 := ⟨n - 1, by omega⟩
    have hi := ih (j + 1) n (by omega) (by omega)
    have hle := am_le (nO D o) j
    have b1 := nO_b ho o (b := j + 1) (by omega)
    have b2 := nO_b ho o (b := am (nO D o) j) (by omega)
    unfold p_X12_best_29 p_X12_best_66
    rw [if_neg (lt_f (c := 40) (by omega) (by decide)), c_netOf h ho hO hq (by omega), some_bind', nI_1]
    rw [am_s] at hi
    by_cases hc : nO D o (j + 1) ≤ nO D o (am (nO D o) j)
    · rw [if_pos hc] at hi
      rw [if_pos ((lg_cmp_le _ _).2 ((iL_le (by omega) (by omega) (by omega) (by omega)).2 hc))]
      exact hi
    · rw [if_neg hc] at hi
      rw [if_neg (fun e => hc ((iL_le (by omega) (by omega) (by omega) (by omega)).1 ((lg_cmp_le _ _).1 e)))]
      exact hi
theorem m_best_loop {O : Nat} {gvm : TM} {gla : TA} {D : MD} {gth x2 : Int32} (h : DM gvm D) (hl : LA gla D) (ho : OD O D) (hO : O ≤ 5) {o : Nat} (hq : o < 5) : ∀ k j n : Nat, j + k = 40 → k < n → p_X13_best_46 gvm n gth gla (nI o) x2 (nI (am (nO D o) j)) (nI (j + 1)) = some ((if x2 = 0 then nI (am (nO D o) 40) else iI (nO D o (am (nO D o) 40))), gth, gla) := by
  intro k
  induction k with
  | zero =>
    intro j n hj hn
    obtain ⟨n, rfl⟩ : ∃ m, n = m + 1 := ⟨n - 1, by omega⟩
    have hj : j = 40 := by omega
    subst hj
    have hle := am_le (nO D o) 40
    unfold p_X13_best_46
    rw [if_pos (lt_t (c := 40) (by decide) (by decide)), m_net h hl ho hO hq (by omega), some_bind']
    by_cases hx : x2 = 0
    · rw [if_pos hx, if_pos hx]
    · rw [if_neg hx, if_neg hx]
  | succ k ih =>
    intro j n hj hn
    obtain ⟨n, rfl⟩ : ∃ m, n = m + 1 := ⟨n - 1, by omega⟩
    have hi := ih (j + 1) n (by omega) (by omega)
    have hle := am_le (nO D o) j
    have b1 := nO_b ho o (b := j + 1) (by omega)
    have b2 := nO_b ho o (b := am (nO D o) j) (by omega)
    unfold p_X13_best_46 p_X13_best_72
    rw [if_neg (lt_f (c := 40) (by omega) (by decide)), m_net h hl ho hO hq (by omega), some_bind', m_net h hl ho hO hq (by omega), some_bind', nI_1]
    rw [am_s] at hi
    by_cases hc : nO D o (j + 1) ≤ nO D o (am (nO D o) j)
    · rw [if_pos hc] at hi
      rw [if_pos ((iI_le (by omega) (by omega) (by omega) (by omega)).2 hc)]
      exact hi
    · rw [if_neg hc] at hi
      rw [if_neg (fun e => hc ((iI_le (by omega) (by omega) (by omega) (by omega)).1 e))]
      exact hi
theorem q_best {gvn : TV} {gdn : TD} {gcn : TR} {gvm : TM} {grc : TRm} {S : MS} (hc : CS gvn gdn gcn S) (hr : RS gvm grc S) (ho : OS S) (gth x1 x2 : Int32) (gla : TA) : ∃ v r t la, p_X12_best gvn gdn x1 x2 = some (v, ()) ∧ p_X13_best gth gvm gla x1 x2 = some (r, t, la) ∧ Ag1 1 v r t := by
  have h5 := ho.1.1
  unfold p_X12_best p_X13_best
  rcases g_owner hc.1 hr.1 ho.1 x1 with ⟨o, hoo, rfl, e1, e2⟩ | ⟨e1, e2⟩
  · rw [e1, some_bind', xb_l, e2, some_bind', if_neg n10]
    unfold p_X13_best_23 p_X13_best_28
    obtain ⟨la, l1, l2⟩ := m_lay hr.2.1 ho.2.1 gla
    have hl := c_best_loop (gvn := gvn) (x2 := x2) hc.2.1 ho.2.1 h5 (show o < 5 by omega) 40 0 fu (by omega) (fu_lt (by decide))
    have hm := m_best_loop (gth := 0) (x2 := x2) hr.2.1 l2 ho.2.1 h5 (show o < 5 by omega) 40 0 fu (by omega) (fu_lt (by decide))
    have hn : p_X4_netOf gdn (nI o) 0 = _ := c_netOf hc.2.1 ho.2.1 h5 (show o < 5 by omega) (b := 0) (by omega)
    rcases g_what1 x2 with ⟨hx, e3⟩ | ⟨hx, e3⟩ | ⟨hx, hx2, e3⟩
    · rw [e3, some_bind', xb_l, if_pos hx, show p_X13_right 0 1 1 = some (1, 0) from rfl, some_bind', if_neg n10, l1, some_bind', hn, some_bind']
      exact ⟨_, _, _, _, hl, hm, Or.inl ⟨rfl, rfl⟩⟩
    · rw [e3, some_bind', xb_l, if_neg (by rw [hx]; decide), if_pos hx, show p_X13_right 0 1 1 = some (1, 0) from rfl, some_bind', if_neg n10, l1, some_bind', hn, some_bind']
      exact ⟨_, _, _, _, hl, hm, Or.inl ⟨rfl, rfl⟩⟩
    · rw [e3, some_bind', xb_r, if_neg hx, if_neg hx2]
      exact ⟨_, _, _, _, rfl, rfl, Or.inr ⟨rfl, rfl⟩⟩
  · rw [e1, e2]; exact ⟨_, _, _, _, rfl, rfl, Or.inr ⟨rfl, rfl⟩⟩
-- chalked
theorem dW_0 (D : MD) (d : Nat) : dW D d 0 = 0 := by simp [dW, wW]
theorem bit10' : ∀ B, B < 1024 → ∀ d, d < 10 → (((nI B >>> (nI d &&& 31)) &&& 1 = 1) ↔ B.testBit d = true) := by decide +kernel
theorem c_worthZ {O : Nat} {gd : TD} {D : MD} (h : DC gd D) (ho : OD O D) {d : Nat} {z : Int} (hd : d < 10) (hz : -100 ≤ z) (hz2 : z ≤ 61) : p_X4_worthIn gd (nI d) (iI z) = some (nI (dW D d z.toNat)) := by
  by_cases h0 : z < 0
  · rw [c_worth_neg h ho hd (by rw [Int32.lt_iff_toInt_lt, iI_toInt (by omega) (by omega)]; exact h0), show z.toNat = 0 by omega, dW_0]; rfl
  · have e : z = (z.toNat : Int) := by omega
    rw [e, ← nI_iI]
    exact c_worth h ho hd (by omega)
def wT (D : MD) (B : Nat) (z : Int) (d : Nat) : Int := if B.testBit d = true then (dW D d z.toNat : Int) else 0
theorem c_wt_loop {O : Nat} {gd : TD} {D : MD} (h : DC gd D) (ho : OD O D) {B : Nat} (hB : B < 1024) {z : Int} (hz : -100 ≤ z) (hz2 : z ≤ 61) : ∀ k j n : Nat, j + k = 10 → k < n → p_X8_worthTogether_5 gd n (nI B) (iI z) (iL (sZ (wT D B z) j)) (nI j) = some (iL (sZ (wT D B z) 10)) := by
  intro k
  induction k with
  | zero =>
    intro j n hj hn
    obtain ⟨n, rfl⟩ : ∃ m, n = m + 1 := ⟨n - 1, by omega⟩
    have hj : j = 10 := by omega
    subst hj
    unfold p_X8_worthTogether_5
    rw [if_pos (le_t (c := 10) (Nat.le_refl _) (by decide))]
  | succ k ih =>
    intro j n hj hn
    obtain ⟨n, rfl⟩ : ∃ m, n = m + 1 := ⟨n - 1, by omega⟩
    have hj10 : j < 10 := by omega
    have hi := ih (j + 1) n (by omega) (by omega)
    rw [show sZ (wT D B z) (j + 1) = sZ (wT D B z) j + wT D B z j from rfl] at hi
    unfold p_X8_worthTogether_5 p_X8_worthTogether_32
    rw [if_neg (le_f (c := 10) hj10 (by decide)), nI_1]
    have hb := bit10 B hB j hj10
    by_cases hh : B.testBit j = true
    · rw [if_neg (fun e => by rw [hb.1 e] at hh; exact absurd hh (by decide)), c_worthZ h ho hj10 hz hz2, some_bind', nI_lz (dW_i ho hj10 (by omega)), iL_add]
      rw [show wT D B z j = (dW D j z.toNat : Int) from if_pos hh] at hi
      exact hi
    · rw [if_pos (hb.2 (by simpa using hh))]
      rw [show wT D B z j = 0 from if_neg hh, Int.add_zero] at hi
      exact hi
theorem m_wt_loop {O : Nat} {gla : TA} {grc : TRm} {D : MD} {k2 : Int32 → Int32 → Option Int32} {b r t : Nat} (hl : LA gla D) (ho : OD O D) {B : Nat} (hB : B < 1024) {z : Int} (hz : -100 ≤ z) (hz2 : z ≤ 61) (hr : r < 12) (h1 : grc.2 (3 * r) = nI B) (h2 : grc.2 (3 * r + 1) = nI t) : ∀ k j n : Nat, j + k = 10 → k < n → p_X13_isChalked_29 k2 gla grc n (nI b) (nI r) (iI z) (iL (sZ (wT D B z) j)) (nI j) = (if (lg_cmp (iL (sZ (wT D B z) 10)) ((nI t).toInt64)) = 0 then k2 (nI b) (nI (r + 1)) else some 0) := by
  intro k
  induction k with
  | zero =>
    intro j n hj hn
    obtain ⟨n, rfl⟩ : ∃ m, n = m + 1 := ⟨n - 1, by omega⟩
    have hj : j = 10 := by omega
    subst hj
    unfold p_X13_isChalked_29
    rw [if_pos (le_t (c := 10) (Nat.le_refl _) (by decide)), at3, nI_1, nI_1, if_pos (ix_nI (by omega) (by decide)), cl_nI (by omega), h2]
  | succ k ih =>
    intro j n hj hn
    obtain ⟨n, rfl⟩ : ∃ m, n = m + 1 := ⟨n - 1, by omega⟩
    have hj10 : j < 10 := by omega
    have hi := ih (j + 1) n (by omega) (by omega)
    rw [show sZ (wT D B z) (j + 1) = sZ (wT D B z) j + wT D B z j from rfl] at hi
    unfold p_X13_isChalked_29 p_X13_isChalked_73 p_X13_isChalked_80
    rw [if_neg (le_f (c := 10) hj10 (by decide)), at3, if_pos (ix_nI (by omega) (by decide)), cl_nI (by omega), h1, nI_1]
    have hb := bit10' B hB j hj10
    by_cases hh : B.testBit j = true
    · rw [if_pos (hb.2 hh)]
      rw [show wT D B z j = (dW D j z.toNat : Int) from if_pos hh] at hi
      by_cases h0 : z < 0
      · rw [if_neg (fun e => by rw [Int32.le_iff_toInt_le, iI_toInt (by omega) (by omega)] at e; have : (0 : Int32).toInt = 0 := by decide
                                omega), show (0 : Int32) = nI 0 from rfl, lay_at, if_pos (ix_nI (by omega) (by decide)), cl_nI (by omega), hl j hj10 0 (by omega), nI_lz (dW_i ho hj10 (by omega)), iL_add]
        rw [show z.toNat = 0 by omega] at hi
        exact hi
      · have e : z = (z.toNat : Int) := by omega
        rw [if_pos (by rw [Int32.le_iff_toInt_le, iI_toInt (by omega) (by omega)]; have : (0 : Int32).toInt = 0 := by decide
                       omega), show iI z = nI z.toNat from by rw [nI_iI, ← e], lay_at, if_pos (ix_nI (by omega) (by decide)), cl_nI (by omega), hl j hj10 _ (by omega), nI_lz (dW_i ho hj10 (by omega)), iL_add]
        rw [show iI z = nI z.toNat from by rw [nI_iI, ← e]] at hi
        exact hi
    · rw [if_neg (fun e => hh (hb.1 e)), show (0 : Int64) = iL 0 from rfl, iL_add]
      rw [show wT D B z j = 0 from if_neg hh] at hi
      exact hi
theorem q_fit {O : Nat} {gd : TD} {gc : TR} {gla : TA} {grc : TRm} {D : MD} {R : MR} (h : DC gd D) (ho : OD O D) (hl : LA gla D) (hc : RC gc R) (hm : RM grc R) (hR : OR R) {b : Nat} (hb : b ≤ 40) : ∀ k r n m : Nat, r + k = R.1 → k < n → k < m → ∃ v, p_X8_fit_2 gc gd n (nI b) (nI r) = some v ∧ p_X13_isChalked_2 gla grc m (nI b) (nI r) = some v := by
  have h12 := hR.1
  intro k
  induction k with
  | zero =>
    intro r n m hr hn hm2
    obtain ⟨n, rfl⟩ : ∃ a, n = a + 1 := ⟨n - 1, by omega⟩
    obtain ⟨m, rfl⟩ : ∃ a, m = a + 1 := ⟨m - 1, by omega⟩
    have hr : r = R.1 := by omega
    subst hr
    refine ⟨1, ?_, ?_⟩
    · unfold p_X8_fit_2
      rw [hc.1, if_pos (nI_le (Nat.le_refl _) (by omega))]
      split <;> rfl
    · unfold p_X13_isChalked_2
      rw [hm.1, if_pos (nI_le (Nat.le_refl _) (by omega))]
  | succ k ih =>
    intro r n m hr hn hm2
    obtain ⟨n, rfl⟩ : ∃ a, n = a + 1 := ⟨n - 1, by omega⟩
    obtain ⟨m, rfl⟩ : ∃ a, m = a + 1 := ⟨m - 1, by omega⟩
    obtain ⟨v, i1, i2⟩ := ih (r + 1) n m (by omega) (by omega) (by omega)
    have hrr : r < R.1 := by omega
    have hcr := hc.2 r hrr
    have hmr := hm.2 r hrr
    have hor := hR.2 r hrr
    have hz : nI b + iI (R.2.2.2 r) = iI ((b : Int) + R.2.2.2 r) := by rw [nI_iI, iI_add]
    have w1 : p_X8_worthTogether gd (nI (R.2.1 r)) (iI ((b : Int) + R.2.2.2 r)) = _ := c_wt_loop h ho hor.1 (z := (b : Int) + R.2.2.2 r) (by omega) (by omega) 10 0 fu (by omega) (fu_lt (by decide))
    have w2 := m_wt_loop (k2 := p_X13_isChalked_2 gla grc m) (b := b) hl ho hor.1 (z := (b : Int) + R.2.2.2 r) (by omega) (by omega) (show r < 12 by omega) hmr.1 hmr.2.1 10 0 fu (by omega) (fu_lt (by decide))
    have w2 : p_X13_isChalked_29 (p_X13_isChalked_2 gla grc m) gla grc fu (nI b) (nI r) (iI ((b : Int) + R.2.2.2 r)) 0 0 = _ := w2
    have e1 : p_X8_fit_2 gc gd (n + 1) (nI b) (nI r) = (if (lg_cmp (iL (sZ (wT D (R.2.1 r) ((b : Int) + R.2.2.2 r)) 10)) ((nI (R.2.2.1 r)).toInt64)) = 0 then p_X8_fit_2 gc gd n (nI b) (nI (r + 1)) else some 0) := by
      conv => lhs; unfold p_X8_fit_2
      rw [if_neg (le_f (c := 12) (by omega) (by decide)), hc.1, if_neg (nI_ge hrr (by omega)), if_pos (ix_nI (by omega) (by decide)), if_pos (ix_nI (by omega) (by decide)), cl_nI (by omega), hcr.1, hcr.2.2, hz, w1, some_bind', if_pos (ix_nI (by omega) (by decide)), hcr.2.1, nI_1]
    have e2 : p_X13_isChalked_2 gla grc (m + 1) (nI b) (nI r) = (if (lg_cmp (iL (sZ (wT D (R.2.1 r) ((b : Int) + R.2.2.2 r)) 10)) ((nI (R.2.2.1 r)).toInt64)) = 0 then p_X13_isChalked_2 gla grc m (nI b) (nI (r + 1)) else some 0) := by
      conv => lhs; unfold p_X13_isChalked_2
      rw [hm.1, if_neg (nI_ge hrr (by omega)), at3, show (2 : Int32) = nI 2 from rfl, nI_add, if_pos (ix_nI (by omega) (by decide)), cl_nI (by omega), hmr.2.2, hz]
      exact w2
    rw [e1, e2]
    by_cases hq : (lg_cmp (iL (sZ (wT D (R.2.1 r) ((b : Int) + R.2.2.2 r)) 10)) ((nI (R.2.2.1 r)).toInt64)) = 0
    · rw [if_pos hq, if_pos hq]; exact ⟨v, i1, i2⟩
    · rw [if_neg hq, if_neg hq]; exact ⟨0, rfl, rfl⟩
theorem q_ch_loop {O : Nat} {gd : TD} {gc : TR} {gvm : TM} {gla : TA} {grc : TRm} {D : MD} {R : MR} {gth x1 : Int32} (h : DC gd D) (ho : OD O D) (hl : LA gla D) (hc : RC gc R) (hm : RM grc R) (hR : OR R) : ∀ (b n m : Nat) (x2 x3 : Int32), b ≤ 40 → b < n → b < m → ∃ v, p_X12_chalked_13 gd gc n x1 x2 x3 (nI b) = some (Sum.inl v, ()) ∧ p_X13_chalked_41 gvm grc m gth gla x1 x2 x3 (nI b) = some (v, gth, gla) := by
  have h12 := hR.1
  intro b
  induction b with
  | zero =>
    intro n m x2 x3 _ hn hm2
    obtain ⟨n, rfl⟩ : ∃ a, n = a + 1 := ⟨n - 1, by omega⟩
    obtain ⟨m, rfl⟩ : ∃ a, m = a + 1 := ⟨m - 1, by omega⟩
    unfold p_X12_chalked_13 p_X13_chalked_41
    rw [if_pos (show nI 0 < 2 by decide), if_pos (show nI 0 < 2 by decide)]
    by_cases hx : x1 = 0
    · rw [if_pos hx, if_pos hx]; exact ⟨_, rfl, rfl⟩
    · rw [if_neg hx, if_neg hx]; exact ⟨_, rfl, rfl⟩
  | succ b ih =>
    intro n m x2 x3 hb hn hm2
    obtain ⟨n, rfl⟩ : ∃ a, n = a + 1 := ⟨n - 1, by omega⟩
    obtain ⟨m, rfl⟩ : ∃ a, m = a + 1 := ⟨m - 1, by omega⟩
    unfold p_X12_chalked_13 p_X13_chalked_41 p_X12_chalked_47 p_X13_chalked_65
    by_cases h1 : b + 1 < 2
    · rw [if_pos (ltr_t (c := 2) h1 (by decide)), if_pos (ltr_t (c := 2) h1 (by decide))]
      by_cases hx : x1 = 0
      · rw [if_pos hx, if_pos hx]; exact ⟨_, rfl, rfl⟩
      · rw [if_neg hx, if_neg hx]; exact ⟨_, rfl, rfl⟩
    · rw [if_neg (ltr_f (c := 2) (by omega) (by omega)), if_neg (ltr_f (c := 2) (by omega) (by omega)), nI_m1]
      obtain ⟨v, f1, f2⟩ := q_fit h ho hl hc hm hR hb R.1 0 fu fu (by omega) (fu_lt (by omega)) (fu_lt (by omega))
      have f1 : p_X8_fit gc gd (nI (b + 1)) = some v := f1
      have f2 : p_X13_isChalked gla grc (nI (b + 1)) = some v := f2
      rw [f1, some_bind', f2, some_bind']
      by_cases hv : v = 0
      · rw [if_pos hv, if_pos hv]; exact ih n m x2 x3 (by omega) (by omega) (by omega)
      · rw [if_neg hv, if_neg hv]; exact ih n m _ _ (by omega) (by omega) (by omega)
theorem q_chalked {gvn : TV} {gdn : TD} {gcn : TR} {gvm : TM} {grc : TRm} {S : MS} (hc : CS gvn gdn gcn S) (hr : RS gvm grc S) (ho : OS S) (gth x1 : Int32) (gla : TA) : ∃ v r t la, p_X12_chalked gdn gcn x1 = some (v, ()) ∧ p_X13_chalked gth gvm gla grc x1 = some (r, t, la) ∧ Ag1 1 v r t := by
  unfold p_X12_chalked p_X13_chalked p_X13_chalked_15 p_X13_chalked_20
  obtain ⟨la, l1, l2⟩ := m_lay hr.2.1 ho.2.1 gla
  obtain ⟨v, a1, a2⟩ := q_ch_loop (gvm := gvm) (gth := 0) (x1 := x1) hc.2.1 ho.2.1 l2 hc.2.2 hr.2.2 ho.2.2 40 fu fu 0 (-1) (by omega) (fu_lt (by decide)) (fu_lt (by decide))
  rcases g_what1 x1 with ⟨hx, e3⟩ | ⟨hx, e3⟩ | ⟨hx, hx2, e3⟩
  · rw [e3, some_bind', xb_l, if_pos hx, show p_X13_right 0 1 1 = some (1, 0) from rfl, some_bind', if_neg n10, l1, some_bind']
    exact ⟨_, _, _, _, a1, a2, Or.inl ⟨rfl, rfl⟩⟩
  · rw [e3, some_bind', xb_l, if_neg (by rw [hx]; decide), if_pos hx, show p_X13_right 0 1 1 = some (1, 0) from rfl, some_bind', if_neg n10, l1, some_bind']
    exact ⟨_, _, _, _, a1, a2, Or.inl ⟨rfl, rfl⟩⟩
  · rw [e3, some_bind', xb_r, if_neg hx, if_neg hx2]
    exact ⟨_, _, _, _, rfl, rfl, Or.inr ⟨rfl, rfl⟩⟩
