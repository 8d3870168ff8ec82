-- trade
def adf (a b : Nat) : Nat := if b ≤ a then a - b else b - a
def mxN (u v : Nat) : Nat := if u < v then v else u
theorem adf_c {a b : Nat} (ha : a ≤ 200000000) (hb : b ≤ 200000000) : (if 0 ≤ (nI a - nI b) then (nI a - nI b) else 0 - (nI a - nI b)) = nI (adf a b) := by
  unfold adf
  by_cases h : b ≤ a
  · rw [if_pos h, pk_sub h, if_pos (nI_pos' (by omega))]
  · rw [if_neg h]
    have hn : nI a - nI b < 0 := pk_sneg (by omega) (by omega)
    rw [if_neg (fun e => by rw [Int32.le_iff_toInt_le] at e; rw [Int32.lt_iff_toInt_lt] at hn; omega)]
    rw [← pk_sub (show a ≤ b by omega), nI_iI a, nI_iI b, show (0 : Int32) = iI 0 from rfl, iI_sub, iI_sub, iI_sub]
    congr 1; omega
theorem adf_m {a b : Nat} (ha : a ≤ 200000000) (hb : b ≤ 200000000) : p_X13_off (nI a) (nI b) = some (nI (adf a b)) := by
  unfold p_X13_off adf
  by_cases h : b ≤ a
  · rw [if_pos (nI_le h (by omega)), if_pos h, pk_sub h]
  · rw [if_neg (nI_ge (by omega) (by omega)), if_neg h, pk_sub (by omega)]
theorem adf_le {a b c : Nat} (ha : a ≤ c) (hb : b ≤ c) : adf a b ≤ c := by unfold adf; split <;> omega
theorem mxN_le {a b c : Nat} (ha : a ≤ c) (hb : b ≤ c) : mxN a b ≤ c := by unfold mxN; split <;> omega
theorem mxN_c {u v : Nat} (hu : u ≤ 200000000) (hv : v ≤ 200000000) : (if nI u < nI v then nI v else nI u) = nI (mxN u v) := by
  unfold mxN
  by_cases h : u < v
  · rw [if_pos h, if_pos (nI_lt h (by omega))]
  · rw [if_neg h, if_neg (nI_nlt (by omega) (by omega))]
def mR (D : MD) (t b c : Nat) : Nat → Nat
  | 0 => 0
  | d + 1 => mxN (mxN (mR D t b c d) (adf (dW D d t) (dW D d b))) (adf (dW D d t) (dW D d c))
theorem dW_40 {O : Nat} {D : MD} (ho : OD O D) {d b : Nat} (hd : d < 10) (hb : b ≤ 40) : dW D d b ≤ 200000000 := by
  have h := dW_le ho hd hb (by decide)
  rw [show 40 ^ 5 = 102400000 from by decide] at h
  omega
theorem mR_le {O : Nat} {D : MD} (ho : OD O D) {t b c : Nat} (ht : t ≤ 40) (hb : b ≤ 40) (hc : c ≤ 40) : ∀ d, d ≤ 10 → mR D t b c d ≤ 200000000 := by
  intro d
  induction d with
  | zero => intro _; exact Nat.zero_le _
  | succ d ih =>
    intro hd
    unfold mR
    exact mxN_le (mxN_le (ih (by omega)) (adf_le (dW_40 ho (by omega) ht) (dW_40 ho (by omega) hb))) (adf_le (dW_40 ho (by omega) ht) (dW_40 ho (by omega) hc))
theorem c_misread_loop {O : Nat} {gne : TN} {D : MD} (h : NE gne D) (ho : OD O D) {t b c : Nat} (ht : t ≤ 40) (hb : b ≤ 40) (hc : c ≤ 40) : ∀ k j n : Nat, j + k = 10 → k < n → p_X6_misreadIn_6 gne n (nI t) (nI b) (nI c) (nI (mR D t b c j)) (nI j) = some (nI (mR D t b c 10)) := by
  intro k
  induction k with
  | zero =>
    intro j n hj hn
    obtain ⟨n, rfl⟩ : ∃ m, n = m + 1 := ⟨n - 1, by omega⟩
    have hj : j = 10 := by omega
    subst hj
    unfold p_X6_misreadIn_6
    rw [if_pos (le_t (c := 10) (Nat.le_refl _) (by decide))]
  | succ k ih =>
    intro j n hj hn
    obtain ⟨n, rfl⟩ : ∃ m, n = m + 1 := ⟨n - 1, by omega⟩
    have hj10 : j < 10 := by omega
    have hi := ih (j + 1) n (by omega) (by omega)
    have w1 := dW_40 ho hj10 ht
    have w2 := dW_40 ho hj10 hb
    have w3 := dW_40 ho hj10 hc
    have w4 := mR_le ho ht hb hc j (by omega)
    unfold p_X6_misreadIn_6
    rw [if_neg (le_f (c := 10) hj10 (by decide)), c_worthOf h hj10 ht, some_bind', c_worthOf h hj10 hb, some_bind', some_bind', adf_c w1 w2, mxN_c w4 (adf_le w1 w2), c_worthOf h hj10 hc, some_bind', some_bind', adf_c w1 w3, mxN_c (mxN_le w4 (adf_le w1 w2)) (adf_le w1 w3), nI_1]
    exact hi
theorem c_misread {O : Nat} {gne : TN} {D : MD} (h : NE gne D) (ho : OD O D) {t b c : Nat} (ht : t ≤ 40) (hb : b ≤ 40) (hc : c ≤ 40) : p_X6_misreadIn gne (nI t) (nI b) (nI c) = some (nI (mR D t b c 10)) := c_misread_loop h ho ht hb hc 10 0 fu (by omega) (fu_lt (by decide))
theorem m_misread_loop {O : Nat} {gvm : TM} {gla : TA} {D : MD} (h : LA gla D) (ho : OD O D) {t b c : Nat} (hB : gvm.2.2.1 = nI b) (ht : t ≤ 40) (hb : b ≤ 40) (hc : c ≤ 40) : ∀ k j n : Nat, j + k = 10 → k < n → p_X13_misread_5 gvm gla n (nI t) (nI c) (nI (mR D t b c j)) (nI j) = some (nI (mR D t b c 10)) := by
  intro k
  induction k with
  | zero =>
    intro j n hj hn
    obtain ⟨n, rfl⟩ : ∃ m, n = m + 1 := ⟨n - 1, by omega⟩
    have hj : j = 10 := by omega
    subst hj
    unfold p_X13_misread_5
    rw [if_pos (le_t (c := 10) (Nat.le_refl _) (by decide))]
  | succ k ih =>
    intro j n hj hn
    obtain ⟨n, rfl⟩ : ∃ m, n = m + 1 := ⟨n - 1, by omega⟩
    have hj10 : j < 10 := by omega
    have hi := ih (j + 1) n (by omega) (by omega)
    rw [show mR D t b c (j + 1) = mxN (mxN (mR D t b c j) (adf (dW D j t) (dW D j b))) (adf (dW D j t) (dW D j c)) from rfl] at hi
    have w1 := dW_40 ho hj10 ht
    have w2 := dW_40 ho hj10 hb
    have w3 := dW_40 ho hj10 hc
    have w4 := mR_le ho ht hb hc j (by omega)
    have w5 := adf_le w1 w2
    have w6 := adf_le w1 w3
    unfold p_X13_misread_5 p_X13_misread_85 p_X13_misread_98
    rw [if_neg (le_f (c := 10) hj10 (by decide)), hB, lay_at, lay_at, lay_at, if_pos (ix_nI (by omega) (by decide)), if_pos (ix_nI (by omega) (by decide)), cl_nI (by omega), cl_nI (by omega), cl_nI (by omega), h j hj10 t (by omega), h j hj10 b (by omega), h j hj10 c (by omega), adf_m w1 w2, some_bind', if_pos (ix_nI (by omega) (by decide)), if_pos (ix_nI (by omega) (by decide)), adf_m w1 w3, some_bind', nI_1]
    have key : ∀ u v : Nat, u ≤ 200000000 → v ≤ 200000000 → mxN u v = if v ≤ u then u else v := by
      intro u v _ _; unfold mxN; split <;> split <;> omega
    by_cases h1 : adf (dW D j t) (dW D j b) ≤ mR D t b c j
    · rw [if_pos (nI_le h1 (by omega))]
      rw [key _ _ w4 w5, if_pos h1] at hi
      by_cases h2 : adf (dW D j t) (dW D j c) ≤ mR D t b c j
      · rw [if_pos (nI_le h2 (by omega))]
        rw [key _ _ w4 w6, if_pos h2] at hi; exact hi
      · rw [if_neg (nI_ge (by omega) (by omega))]
        rw [key _ _ w4 w6, if_neg h2] at hi; exact hi
    · rw [if_neg (nI_ge (by omega) (by omega))]
      rw [key _ _ w4 w5, if_neg h1] at hi
      by_cases h2 : adf (dW D j t) (dW D j c) ≤ adf (dW D j t) (dW D j b)
      · rw [if_pos (nI_le h2 (by omega))]
        rw [key _ _ w5 w6, if_pos h2] at hi; exact hi
      · rw [if_neg (nI_ge (by omega) (by omega))]
        rw [key _ _ w5 w6, if_neg h2] at hi; exact hi
theorem m_misread {O : Nat} {gvm : TM} {gla : TA} {D : MD} (h : LA gla D) (ho : OD O D) {t b c : Nat} (hB : gvm.2.2.1 = nI b) (ht : t ≤ 40) (hb : b ≤ 40) (hc : c ≤ 40) : p_X13_misread gvm gla (nI t) (nI c) = some (nI (mR D t b c 10)) := m_misread_loop h ho hB ht hb hc 10 0 fu (by omega) (fu_lt (by decide))
def an (f : Nat → Nat) : Nat → Nat
  | 0 => 0
  | k + 1 => if f (an f k) ≤ f (k + 1) then an f k else k + 1
theorem an_le (f : Nat → Nat) : ∀ k, an f k ≤ k := by
  intro k
  induction k with
  | zero => exact Nat.le_refl _
  | succ k ih => unfold an; split <;> omega
theorem an_s (f : Nat → Nat) (k : Nat) : an f (k + 1) = (if f (an f k) ≤ f (k + 1) then an f k else k + 1) := rfl
theorem c_trade_loop {O : Nat} {gvn : TV} {gd : TD} {gne : TN} {D : MD} {x2 : Int32} (h : NE gne D) (ho : OD O D) {b c : Nat} (hB : gvn.2.1 = nI b) (hb : b ≤ 40) (hc : c ≤ 40) {f : Nat → Nat} (hf : f = fun t => mR D t b c 10) : ∀ k j n : Nat, j + k = 40 → k < n → p_X12_trade_43 gvn gd n gne (nI c) x2 (nI (an f j)) (nI (f (an f j))) (nI (j + 1)) = some (Sum.inl (if x2 = 0 then nI (an f 40) else nI (f (an f 40))), gne) := by
  intro k
  induction k with
  | zero =>
    intro j n hj hn
    obtain ⟨n, rfl⟩ : ∃ m, n = m + 1 := ⟨n - 1, by omega⟩
    have hj : j = 40 := by omega
    subst hj
    unfold p_X12_trade_43
    rw [if_pos (lt_t (c := 40) (by decide) (by decide))]
    by_cases hx : x2 = 0
    · rw [if_pos hx, if_pos hx]
    · rw [if_neg hx, if_neg hx]
  | succ k ih =>
    intro j n hj hn
    obtain ⟨n, rfl⟩ : ∃ m, n = m + 1 := ⟨n - 1, by omega⟩
    have hi := ih (j + 1) n (by omega) (by omega)
    have hle := an_le f j
    have b1 : f (j + 1) ≤ 200000000 := by rw [hf]; exact mR_le ho (by omega) hb hc 10 (by omega)
    have b2 : f (an f j) ≤ 200000000 := by
      have := mR_le ho (t := an f j) (by omega) hb hc 10 (by omega)
      rw [hf] at this ⊢; exact this
    have e1 : p_X6_misreadIn gne (nI (j + 1)) (nI b) (nI c) = some (nI (f (j + 1))) := by rw [hf]; exact c_misread h ho (by omega) hb hc
    unfold p_X12_trade_43 p_X12_trade_83
    rw [if_neg (lt_f (c := 40) (by omega) (by decide)), hB, e1, some_bind', nI_1]
    rw [an_s] at hi
    by_cases hcc : f (an f j) ≤ f (j + 1)
    · rw [if_pos hcc] at hi
      rw [if_pos (nI_le hcc (by omega))]
      exact hi
    · rw [if_neg hcc] at hi
      rw [if_neg (nI_ge (by omega) (by omega))]
      exact hi
theorem m_trade_loop {O : Nat} {gvm : TM} {gla : TA} {D : MD} {gth x2 : Int32} (h : LA gla D) (ho : OD O D) {b c : Nat} (hB : gvm.2.2.1 = nI b) (hb : b ≤ 40) (hc : c ≤ 40) {f : Nat → Nat} (hf : f = fun t => mR D t b c 10) : ∀ k j n : Nat, j + k = 40 → k < n → p_X13_trade_47 gvm n gth gla (nI c) x2 (nI (an f j)) (nI (j + 1)) = some ((if x2 = 0 then nI (an f 40) else nI (f (an f 40))), gth, gla) := by
  have em : ∀ t, t ≤ 40 → p_X13_misread gvm gla (nI t) (nI c) = some (nI (f t)) := fun t ht => by rw [hf]; exact m_misread h ho hB ht hb hc
  intro k
  induction k with
  | zero =>
    intro j n hj hn
    obtain ⟨n, rfl⟩ : ∃ m, n = m + 1 := ⟨n - 1, by omega⟩
    have hj : j = 40 := by omega
    subst hj
    unfold p_X13_trade_47
    rw [if_pos (lt_t (c := 40) (by decide) (by decide)), em _ (an_le f 40), some_bind']
    by_cases hx : x2 = 0
    · rw [if_pos hx, if_pos hx]
    · rw [if_neg hx, if_neg hx]
  | succ k ih =>
    intro j n hj hn
    obtain ⟨n, rfl⟩ : ∃ m, n = m + 1 := ⟨n - 1, by omega⟩
    have hi := ih (j + 1) n (by omega) (by omega)
    have hle := an_le f j
    have b1 : f (j + 1) ≤ 200000000 := by rw [hf]; exact mR_le ho (by omega) hb hc 10 (by omega)
    have b2 : f (an f j) ≤ 200000000 := by
      have := mR_le ho (t := an f j) (by omega) hb hc 10 (by omega)
      rw [hf] at this ⊢; exact this
    unfold p_X13_trade_47 p_X13_trade_73
    rw [if_neg (lt_f (c := 40) (by omega) (by decide)), em _ (by omega), some_bind', em _ (by omega), some_bind', nI_1]
    rw [an_s] at hi
    by_cases hcc : f (an f j) ≤ f (j + 1)
    · rw [if_pos hcc] at hi
      rw [if_pos (nI_le hcc (by omega))]
      exact hi
    · rw [if_neg hcc] at hi
      rw [if_neg (nI_ge (by omega) (by omega))]
      exact hi
theorem q_trade {gvn : TV} {gdn : TD} {gcn : TR} {gvm : TM} {grc : TRm} {S : MS} (hc : CS gvn gdn gcn S) (hr : RS gvm grc S) (ho : OS S) (gth x1 x2 : Int32) (gne : TN) (gla : TA) : ∃ v gne' r t la, p_X12_trade gvn gdn gne x1 x2 = some (v, gne') ∧ p_X13_trade gth gvm gla x1 x2 = some (r, t, la) ∧ Ag2 v r t := by
  have h5 := ho.1.1
  have h40 := ho.1.2.1
  unfold p_X12_trade p_X13_trade p_X13_trade_15 p_X13_trade_20
  have hmain : x2 = 0 ∨ x2 = 1 → ∃ v gne' r t la, ((p_X12_needBase x1).bind fun v3 => xb v3.1 (fun _r => ((p_X6_fill gne gdn).bind fun v5 => ((p_X6_misreadIn v5 0 gvn.2.1 x1).bind fun v7 => p_X12_trade_43 gvn gdn fu v5 x1 x2 0 v7 1))) (fun k => some (Sum.inr k, gne))) = some (v, gne') ∧ ((p_X13_isBase 0 x1 2).bind fun v4 => (if v4.1 = 0 then some (0, (v4.2, gla)) else ((p_X13_lay gvm gla).bind fun v7 => p_X13_trade_47 gvm fu v4.2 v7 x1 x2 0 1))) = some (r, t, la) ∧ Ag2 v r t := by
    intro _
    rcases g_base x1 0 rfl with ⟨c, hcc, rfl, e3, e4⟩ | ⟨e3, e4⟩
    · obtain ⟨g', f1, f2⟩ := c_fill hc.2.1 ho.2.1 h5 gne
      obtain ⟨la, l1, l2⟩ := m_lay hr.2.1 ho.2.1 gla
      have m0 : p_X6_misreadIn g' 0 (nI (vB S.1)) (nI c) = _ := c_misread (t := 0) f2 ho.2.1 (by omega) h40 hcc
      have a1 := c_trade_loop (gvn := gvn) (gd := gdn) (x2 := x2) f2 ho.2.1 hc.1.2.1 h40 hcc rfl 40 0 fu (by omega) (fu_lt (by decide))
      have a2 := m_trade_loop (gvm := gvm) (gth := 0) (x2 := x2) l2 ho.2.1 hr.1.2.1 h40 hcc rfl 40 0 fu (by omega) (fu_lt (by decide))
      rw [e3, some_bind', xb_l, e4, some_bind', if_neg n10, f1, some_bind', hc.1.2.1, m0, some_bind', l1, some_bind']
      exact ⟨_, _, _, _, _, a1, a2, Or.inl ⟨rfl, rfl⟩⟩
    · rw [e3, e4]; exact ⟨_, _, _, _, _, rfl, rfl, Or.inr (Or.inr ⟨rfl, rfl⟩)⟩
  rcases g_what1 x2 with ⟨hx, e3⟩ | ⟨hx, e3⟩ | ⟨hx, hx2, e3⟩
  · rw [e3, some_bind', xb_l, if_pos hx, show p_X13_right 0 1 1 = some (1, 0) from rfl, some_bind', if_neg n10]
    exact hmain (Or.inl hx)
  · rw [e3, some_bind', xb_l, if_neg (by rw [hx]; decide), if_pos hx, show p_X13_right 0 1 1 = some (1, 0) from rfl, some_bind', if_neg n10]
    exact hmain (Or.inr hx)
  · rw [e3, some_bind', xb_r, if_neg hx, if_neg hx2]
    exact ⟨_, _, _, _, _, rfl, rfl, Or.inr (Or.inl ⟨rfl, rfl⟩)⟩
-- sum
def rdF (D : MD) (b d k : Nat) : Nat := if k < dM D d then (if b ≤ dF D d (dM D d - 1 - k) then b - 1 else dF D d (dM D d - 1 - k)) else 0
theorem rdF_lt (D : MD) {b : Nat} (hb : 2 ≤ b) (d k : Nat) : rdF D b d k < b := by unfold rdF; repeat' split
                                                                                   all_goals omega
theorem c_read {O : Nat} {gd : TD} {D : MD} (h : DC gd D) (ho : OD O D) {d b k : Nat} (hd : d < 10) (hh : dH D d = true) (hb : 2 ≤ b) (hb2 : b ≤ 40) (hk : k < 6) : p_X1_read gd (nI d) (nI k) (nI b) = some (nI (rdF D b d k)) := by
  have h5 := ho.2.2 d hd hh
  unfold p_X1_read rdF
  rw [c_len h ho.2.1 hd, some_bind', if_pos hh, pred_nI (by omega), pred_nI (by omega)]
  by_cases hk2 : k < dM D d
  · have hf := h5.2.2.1 (dM D d - 1 - k) (by omega)
    rw [pk_sub (by omega), c_fig h ho hd hh (by omega), some_bind', if_pos hk2]
    by_cases hf2 : b ≤ dF D d (dM D d - 1 - k)
    · rw [if_pos (nI_lt (by omega) (by omega)), if_pos hf2]
    · rw [if_neg (nI_nlt (by omega) (by omega)), if_neg hf2]
  · rw [if_neg hk2, c_fig_out h ho hd (Or.inl (pk_sneg (by omega) (by omega))), some_bind', if_neg (nI_pos (by omega))]; rfl
theorem m_last {O : Nat} {gvm : TM} {D : MD} (h : DM gvm D) (ho : OD O D) {d b k : Nat} (hB : gvm.2.2.1 = nI b) (hd : d < 10) (hh : dH D d = true) (hb : 2 ≤ b) (hb2 : b ≤ 40) (hk : k < 6) : p_X13_lastOf gvm (nI d) (nI k) = some (nI (rdF D b d k)) := by
  have h5 := ho.2.2 d hd hh
  have hm := (h.2 d hd).2 hh
  unfold p_X13_lastOf rdF
  rw [if_pos (ix_nI hd (by decide)), cl_nI (by omega), hm.2.2.1]
  by_cases hk2 : k < dM D d
  · have hf := h5.2.2.1 (dM D d - 1 - k) (by omega)
    rw [if_pos (nI_lt hk2 (by omega)), if_pos (ix_nI hd (by decide)), fig_at', pred_nI (by omega), pk_sub (by omega), if_pos (ix_nI (by omega) (by decide)), cl_nI (by omega), show 5 * d + dM D d - 1 - k = 5 * d + (dM D d - 1 - k) by omega, hm.2.2.2 _ (by omega), hB, if_pos hk2]
    by_cases hf2 : b ≤ dF D d (dM D d - 1 - k)
    · rw [if_pos (nI_le hf2 (by omega)), if_pos hf2, pred_nI (by omega)]
    · rw [if_neg (nI_ge (by omega) (by omega)), if_neg hf2]
  · rw [if_neg (nI_nlt (by omega) (by omega)), if_neg hk2]; rfl
theorem e59 {k16 : (Int32 × Int32 × TA) → Int32 → Int32 → Int32 → Int32 → Int32 → Option (Int32 × Int32 × TA)} {gd : TD} {L C j v w b : Nat} {f : TA} {xa xc : Int32} (hj : j < 6) (h : w * b ≤ v) (hv : v < 1000) (hb : b ≤ 40) : p_X1_add_59 k16 gd (nI L, nI C, f) xa xc (nI b) (nI j) (nI v) (nI w) = k16 (nI (if v - w * b = 0 then L else j + 1), nI (C + w), upd f j (nI (v - w * b))) xa xc (nI b) (nI w) (nI (j + 1)) := by
  unfold p_X1_add_59 p_X1_add_105
  rw [if_pos (ix_nI hj (by decide)), if_pos (ix_nI hj (by decide)), cl_nI (by omega)]
  simp only [pk_us, pk_mul, pk_sub h, nI_add, nI_1]
  by_cases hz : v - w * b = 0
  · rw [if_pos (eq_t (c := 0) hz), if_pos hz]
  · rw [if_neg (eq_f (c := 0) hz (by omega) (by decide)), if_neg hz]
theorem e96 {k56 : Int32 → TA → Int32 → Int32 → Int32 → Int32 → Int32 → Int32 → Int32 → Option (Int32 × Int32 × TA)} {gvm : TM} {gth x3 : Int32} {L C j v w b : Nat} {f : TA} {xa xc : Int32} (hB : gvm.2.2.1 = nI b) (hj : j < 6) (h : w * b ≤ v) (hv : v < 1000) (hb : b ≤ 40) : p_X13_sum_96 k56 gvm gth f xa xc x3 (nI C) (nI L) (nI j) (nI v) (nI w) = k56 gth (upd f j (nI (v - w * b))) xa xc x3 (nI w) (nI (C + w)) (nI (if v - w * b = 0 then L else j + 1)) (nI (j + 1)) := by
  unfold p_X13_sum_96 p_X13_sum_138
  rw [if_pos (ix_nI hj (by decide)), if_pos (ix_nI hj (by decide)), cl_nI (by omega)]
  simp only [hB, pk_us, pk_mul, pk_sub h, nI_add, nI_1]
  by_cases hz : v - w * b = 0
  · rw [if_pos (ler_t (c := 0) (by omega) (by decide)), if_pos hz]
  · rw [if_neg (ler_f (c := 0) (by omega) (by omega)), if_neg hz]
theorem q_sum_loop {O : Nat} {gd : TD} {gvm : TM} {D : MD} {gth x3 : Int32} (h : DC gd D) (hm : DM gvm D) (ho : OD O D) {a c b : Nat} (hB : gvm.2.2.1 = nI b) (ha : a < 10) (hha : dH D a = true) (hc : c < 10) (hhc : dH D c = true) (hb : 2 ≤ b) (hb2 : b ≤ 40) : ∀ (k j n m L C y : Nat) (f g : TA), j + k = 6 → k < n → k < m → (∀ i, i < j → f i = g i) → y ≤ 1 → 1 ≤ L → L ≤ 6 → ∃ (L' : Nat) (C' y' : Int32) (f' g' : TA), p_X1_add_16 gd n (nI L, nI C, f) (nI a) (nI c) (nI b) (nI y) (nI j) = some (nI L', C', f') ∧ p_X13_sum_56 gvm m gth g (nI a) (nI c) x3 (nI y) (nI C) (nI L) (nI j) = p_X13_sum_56 gvm 1 gth g' (nI a) (nI c) x3 y' C' (nI L') (nI 6) ∧ (∀ i, i < 6 → f' i = g' i) ∧ 1 ≤ L' ∧ L' ≤ 6 := by
  intro k
  induction k with
  | zero =>
    intro j n m L C y f g hj hn hm2 hfg hy hL hL6
    obtain ⟨n, rfl⟩ : ∃ a, n = a + 1 := ⟨n - 1, by omega⟩
    obtain ⟨m, rfl⟩ : ∃ a, m = a + 1 := ⟨m - 1, by omega⟩
    have hj : j = 6 := by omega
    subst hj
    refine ⟨L, nI C, nI y, f, g, ?_, ?_, hfg, hL, hL6⟩
    · unfold p_X1_add_16
      rw [if_pos (le_t (c := 6) (Nat.le_refl _) (by decide))]
    · unfold p_X13_sum_56
      rw [if_pos (lt_t (c := 5) (by decide) (by decide)), if_pos (lt_t (c := 5) (by decide) (by decide))]
  | succ k ih =>
    intro j n m L C y f g hj hn hm2 hfg hy hL hL6
    obtain ⟨n, rfl⟩ : ∃ a, n = a + 1 := ⟨n - 1, by omega⟩
    obtain ⟨m, rfl⟩ : ∃ a, m = a + 1 := ⟨m - 1, by omega⟩
    have r1 := rdF_lt D hb a j
    have r2 := rdF_lt D hb c j
    obtain ⟨v, hv⟩ : ∃ v, v = rdF D b a j + rdF D b c j + y := ⟨_, rfl⟩
    obtain ⟨w, hw⟩ : ∃ w : Nat, w = if v < b then 0 else 1 := ⟨_, rfl⟩
    have hwb : v - w * b < b ∧ w * b ≤ v ∧ w ≤ 1 := by rw [hw]; split <;> omega
    have e1 : p_X1_add_16 gd (n + 1) (nI L, nI C, f) (nI a) (nI c) (nI b) (nI y) (nI j) = p_X1_add_16 gd n (nI (if v - w * b = 0 then L else j + 1), nI (C + w), upd f j (nI (v - w * b))) (nI a) (nI c) (nI b) (nI w) (nI (j + 1)) := by
      conv => lhs; unfold p_X1_add_16
      rw [if_neg (le_f (c := 6) (by omega) (by decide)), c_read h ho ha hha hb hb2 (by omega), some_bind', c_read h ho hc hhc hb hb2 (by omega), some_bind', nI_add, nI_add, ← hv]
      by_cases hvb : v < b
      · rw [if_pos (nI_lt hvb (by omega))]
        rw [if_pos hvb] at hw
        subst hw
        exact e59 (w := 0) (by omega) (by omega) (by omega) (by omega)
      · rw [if_neg (nI_nlt (by omega) (by omega))]
        rw [if_neg hvb] at hw
        subst hw
        exact e59 (w := 1) (by omega) (by omega) (by omega) (by omega)
    have e2 : p_X13_sum_56 gvm (m + 1) gth g (nI a) (nI c) x3 (nI y) (nI C) (nI L) (nI j) = p_X13_sum_56 gvm m gth (upd g j (nI (v - w * b))) (nI a) (nI c) x3 (nI w) (nI (C + w)) (nI (if v - w * b = 0 then L else j + 1)) (nI (j + 1)) := by
      conv => lhs; unfold p_X13_sum_56
      rw [if_neg (lt_f (c := 5) (by omega) (by decide)), m_last hm ho hB ha hha hb hb2 (by omega), some_bind', m_last hm ho hB hc hhc hb hb2 (by omega), some_bind', nI_add, nI_add, ← hv]
      by_cases hvb : v < b
      · rw [if_pos (by rw [hB]; exact nI_lt hvb (by omega))]
        rw [if_pos hvb] at hw
        subst hw
        exact e96 (w := 0) hB (by omega) (by omega) (by omega) (by omega)
      · rw [if_neg (by rw [hB]; exact nI_nlt (by omega) (by omega))]
        rw [if_neg hvb] at hw
        subst hw
        exact e96 (w := 1) hB (by omega) (by omega) (by omega) (by omega)
    rw [e1, e2]
    refine ih (j + 1) n m _ _ w _ _ (by omega) (by omega) (by omega) (fun i hi => ?_) hwb.2.2 ?_ ?_
    · by_cases e : i = j
      · subst e; rw [pk_us, pk_us]
      · rw [pk_un e, pk_un e]; exact hfg i (by omega)
    · split <;> omega
    · split <;> omega
theorem q_sum {gvn : TV} {gdn : TD} {gcn : TR} {gvm : TM} {grc : TRm} {S : MS} (hc : CS gvn gdn gcn S) (hr : RS gvm grc S) (ho : OS S) (gth x1 x2 x3 : Int32) (gcs : Int32 × Int32 × TA) (gwr : TA) : ∃ v gcs' r t wr, p_X12_sum gvn gdn gcs x1 x2 x3 = some (v, gcs') ∧ p_X13_sum gth gvm gwr x1 x2 x3 = some (r, t, wr) ∧ Ag2 v r t := by
  have h40 := ho.1.2.1
  unfold p_X12_sum p_X13_sum
  rcases g_door hc.2.1 hr.2.1 ho.2.1 x1 with ⟨a, ha, hha, rfl, e1, e2⟩ | ⟨e1, e2⟩
  · rw [e1, some_bind', xb_l, e2, some_bind', if_neg n10]
    rcases g_door hc.2.1 hr.2.1 ho.2.1 x2 with ⟨c, hcc, hhc, rfl, e3, e4⟩ | ⟨e3, e4⟩
    · rw [e3, some_bind', xb_l, e4, some_bind', if_neg n10, hc.1.2.1, hr.1.2.1]
      unfold p_X13_sum_35
      by_cases hb : 2 ≤ vB S.1
      · rw [if_pos (le_t (c := 2) hb (by omega)), if_neg (ltr_f (c := 2) hb (by omega)), show p_X13_right 0 1 2 = some (1, 0) from rfl, some_bind', if_neg n10]
        obtain ⟨L, C, y, f, g, a1, a2, a3, a4, a5⟩ := q_sum_loop (gth := 0) (x3 := x3) hc.2.1 hr.2.1 ho.2.1 hr.1.2.1 ha hha hcc hhc hb h40 6 0 fu fu 1 0 0 gcs.2.2 gwr (by omega) (fu_lt (by decide)) (fu_lt (by decide)) (fun i hi => absurd hi (by omega)) (by omega) (by omega) (by omega)
        have a1 : p_X1_add gcs gdn (nI a) (nI c) (nI (vB S.1)) = _ := a1
        have a2 : p_X13_sum_56 gvm fu 0 gwr (nI a) (nI c) x3 0 0 1 0 = _ := a2
        rw [a1, some_bind', a2]
        unfold p_X13_sum_56 p_X13_sum_176 p_X13_sum_177
        rw [if_pos (lt_t (c := 5) (by decide) (by decide))]
        by_cases i1 : x3 = -1
        · rw [if_pos i1, if_pos i1]; exact ⟨_, _, _, _, _, rfl, rfl, Or.inl ⟨rfl, rfl⟩⟩
        · rw [if_neg i1, if_neg i1]
          by_cases i2 : x3 = -2
          · rw [if_pos i2, if_pos i2]; exact ⟨_, _, _, _, _, rfl, rfl, Or.inl ⟨rfl, rfl⟩⟩
          · rw [if_neg i2, if_neg i2]
            by_cases i3 : x3 < 0
            · rw [if_pos i3, if_pos i3]; exact ⟨_, _, _, _, _, rfl, rfl, Or.inr (Or.inl ⟨rfl, rfl⟩)⟩
            · rw [if_neg i3, if_neg i3]
              obtain ⟨q, hq, rfl⟩ := nI_of i3
              by_cases i4 : q < L
              · rw [if_pos (nI_lt i4 (by omega)), if_neg (nI_ge i4 (by omega)), show p_X13_right 0 1 1 = some (1, 0) from rfl, some_bind', if_neg n10]
                unfold p_X1_figureAt
                rw [pred_nI (by omega), pk_sub (by omega), if_neg (nI_pos (by omega)), if_neg (le_f (c := 6) (by omega) (by decide)), if_pos (ix_nI (by omega) (by decide)), if_pos (ix_nI (by omega) (by decide)), cl_nI (by omega), some_bind']
                exact ⟨_, _, _, _, _, rfl, rfl, Or.inl ⟨congrArg Sum.inl (a3 (L - 1 - q) (by omega)), rfl⟩⟩
              · rw [if_neg (nI_nlt (by omega) (by omega)), if_pos (nI_le (by omega) (by omega))]
                exact ⟨_, _, _, _, _, rfl, rfl, Or.inr (Or.inl ⟨rfl, rfl⟩)⟩
      · rw [if_neg (le_f (c := 2) (by omega) (by decide)), if_pos (ltr_t (c := 2) (by omega) (by decide))]
        exact ⟨_, _, _, _, _, rfl, rfl, Or.inr (Or.inr ⟨rfl, rfl⟩)⟩
    · rw [e3, e4]; exact ⟨_, _, _, _, _, rfl, rfl, Or.inr (Or.inl ⟨rfl, rfl⟩)⟩
  · rw [e1, e2]; exact ⟨_, _, _, _, _, rfl, rfl, Or.inr (Or.inl ⟨rfl, rfl⟩)⟩
