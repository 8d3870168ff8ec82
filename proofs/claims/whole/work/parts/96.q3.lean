-- voids
def vd (D : MD) (d : Nat) : Nat → Option Nat
  | 0 => none
  | j + 1 => if j + 1 < 2 then none else if dW D d (j + 1) = 0 then some (j + 1) else vd D d j
theorem vd_le (D : MD) (d : Nat) : ∀ j b, vd D d j = some b → 2 ≤ b ∧ b ≤ j := by
  intro j
  induction j with
  | zero => intro b h; simp [vd] at h
  | succ j ih =>
    intro b h
    unfold vd at h
    by_cases h1 : j + 1 < 2
    · rw [if_pos h1] at h; cases h
    · rw [if_neg h1] at h
      by_cases h2 : dW D d (j + 1) = 0
      · rw [if_pos h2] at h; cases h; omega
      · rw [if_neg h2] at h; have := ih b h; omega
theorem nI_m1 {j : Nat} : nI (j + 1) + -1 = nI j := pk_m1 j
def wb (p : Nat → Bool) : Nat → Int32
  | 0 => 0
  | k + 1 => if p k then wb p k ||| (1 <<< (nI k &&& 31)) else wb p k
theorem wb_s (p : Nat → Bool) (k : Nat) : wb p (k + 1) = if p k then wb p k ||| (1 <<< (nI k &&& 31)) else wb p k := rfl
theorem wb_cut {p : Nat → Bool} {O : Nat} (h : ∀ k, O ≤ k → p k = false) : ∀ m, wb p (O + m) = wb p O := by
  intro m
  induction m with
  | zero => rfl
  | succ m ih =>
    show (if p (O + m) then _ else wb p (O + m)) = _
    rw [if_neg (by rw [h _ (by omega)]; decide), ih]
theorem c_void_loop {O : Nat} {gvn : TV} {gd : TD} {D : MD} (h : DC gd D) (ho : OD O D) {d : Nat} (hd : d < 10) : ∀ j n : Nat, j ≤ 40 → j < n → p_X12_fewestToVoid_25 gvn gd n (nI d) (nI j) = some (match vd D d j with | none => -1 | some b => gvn.2.1 - nI b) := by
  intro j
  induction j with
  | zero =>
    intro n _ hn
    obtain ⟨n, rfl⟩ : ∃ m, n = m + 1 := ⟨n - 1, by omega⟩
    unfold p_X12_fewestToVoid_25
    rw [if_pos (by decide)]; rfl
  | succ j ih =>
    intro n hj hn
    obtain ⟨n, rfl⟩ : ∃ m, n = m + 1 := ⟨n - 1, by omega⟩
    unfold p_X12_fewestToVoid_25 vd
    by_cases h1 : j + 1 < 2
    · rw [if_pos (ltr_t (c := 2) h1 (by decide)), if_pos h1]
    · rw [if_neg (ltr_f (c := 2) (by omega) (by omega)), if_neg h1, c_worth h ho hd (by omega), some_bind']
      by_cases h2 : dW D d (j + 1) = 0
      · rw [if_pos (eq_t (c := 0) h2), if_pos h2]
      · rw [if_neg (eq_f (c := 0) h2 (dW_i ho hd (by omega)) (by decide)), if_neg h2, nI_m1]
        exact ih n (by omega) (by omega)
theorem c_with_loop {gv : TV} {V : MV} (h : VC gv V) (ho : OV V) {w : Nat} (hw : w ≤ 40) : ∀ k j n : Nat, j + k = 5 → k < n → p_X9_ownersWith_4 gv n (nI w) (wb (fun i => decide (i < vO V ∧ w ≤ vG V i)) j) (nI j) = some (wb (fun i => decide (i < vO V ∧ w ≤ vG V i)) 5) := by
  intro k
  induction k with
  | zero =>
    intro j n hj hn
    obtain ⟨n, rfl⟩ : ∃ m, n = m + 1 := ⟨n - 1, by omega⟩
    have hj : j = 5 := by omega
    subst hj
    unfold p_X9_ownersWith_4
    rw [if_pos (le_t (c := 5) (Nat.le_refl _) (by decide))]
  | succ k ih =>
    intro j n hj hn
    obtain ⟨n, rfl⟩ : ∃ m, n = m + 1 := ⟨n - 1, by omega⟩
    have hi := ih (j + 1) n (by omega) (by omega)
    rw [wb_s] at hi
    unfold p_X9_ownersWith_4 p_X9_ownersWith_33
    rw [if_neg (le_f (c := 5) (by omega) (by decide)), c_hasOwner h ho (by omega), some_bind', nI_1]
    by_cases hh : j < vO V
    · rw [if_pos hh, if_neg n10, if_pos (ix_nI (by omega) (by decide)), cl_nI (by omega), (h.2.2 j hh).1]
      have hg := OV_g ho hh
      by_cases hg2 : vG V j < w
      · rw [if_pos (nI_lt hg2 (by omega))]
        rw [if_neg (by simp; omega)] at hi
        exact hi
      · rw [if_neg (nI_nlt (by omega) (by omega))]
        rw [if_pos (by simp; omega)] at hi
        exact hi
    · rw [if_neg hh, if_pos rfl]
      rw [if_neg (by simp; omega)] at hi
      exact hi
theorem m_with_loop {gvm : TM} {V : MV} {gth x2 : Int32} (h : VM gvm V) (ho : OV V) {b : Nat} (hb : b ≤ vB V) : ∀ k j n : Nat, j + k = vO V → k < n → p_X13_voids_76 gvm n gth x2 (nI b) (wb (fun i => decide (i < vO V ∧ vB V - b ≤ vG V i)) j) (nI j) = some (if x2 = 0 then nI (vB V - b) else wb (fun i => decide (i < vO V ∧ vB V - b ≤ vG V i)) (vO V), gth) := by
  have h5 := ho.1
  have h40 := ho.2.1
  intro k
  induction k with
  | zero =>
    intro j n hj hn
    obtain ⟨n, rfl⟩ : ∃ m, n = m + 1 := ⟨n - 1, by omega⟩
    have hj : j = vO V := by omega
    subst hj
    unfold p_X13_voids_76
    rw [h.1, if_pos (nI_le (Nat.le_refl _) (by omega)), h.2.1, pk_sub hb]
    by_cases hx : x2 = 0
    · rw [if_pos hx, if_pos hx]
    · rw [if_neg hx, if_neg hx]
  | succ k ih =>
    intro j n hj hn
    obtain ⟨n, rfl⟩ : ∃ m, n = m + 1 := ⟨n - 1, by omega⟩
    have hi := ih (j + 1) n (by omega) (by omega)
    rw [wb_s] at hi
    have hg := OV_g ho (show j < vO V by omega)
    unfold p_X13_voids_76 p_X13_voids_111
    rw [h.1, if_neg (nI_ge (by omega) (by omega)), if_pos (ix_nI (by omega) (by decide)), cl_nI (by omega), (h.2.2.1 j (by omega)).1, h.2.1, pk_sub hb, nI_1]
    by_cases hg2 : vG V j < vB V - b
    · rw [if_pos (nI_lt hg2 (by omega)), Int32.or_zero]
      rw [if_neg (by simp; omega)] at hi
      exact hi
    · rw [if_neg (nI_nlt (by omega) (by omega))]
      rw [if_pos (by simp; omega)] at hi
      exact hi
theorem m_void_loop {gvm : TM} {V : MV} {D : MD} {gth x2 : Int32} (hv : VM gvm V) (hov : OV V) (h : DM gvm D) (ho : OD (vO V) D) {d : Nat} (hd : d < 10) (hh : dH D d = true) : ∀ j n : Nat, j ≤ vB V → j < n → p_X13_voids_53 gvm n gth (nI d) x2 (nI j) = some (match vd D d j with | none => -1 | some b => (if x2 = 0 then nI (vB V - b) else wb (fun i => decide (i < vO V ∧ vB V - b ≤ vG V i)) (vO V)), gth) := by
  have h40 := hov.2.1
  have h5 := hov.1
  intro j
  induction j with
  | zero =>
    intro n _ hn
    obtain ⟨n, rfl⟩ : ∃ m, n = m + 1 := ⟨n - 1, by omega⟩
    unfold p_X13_voids_53
    rw [if_pos (by decide)]; rfl
  | succ j ih =>
    intro n hj hn
    obtain ⟨n, rfl⟩ : ∃ m, n = m + 1 := ⟨n - 1, by omega⟩
    unfold p_X13_voids_53 vd
    by_cases h1 : j + 1 < 2
    · rw [if_pos (ltr_t (c := 2) h1 (by decide)), if_pos h1]
    · rw [if_neg (ltr_f (c := 2) (by omega) (by omega)), if_neg h1, m_worth h ho hd hh (by omega), some_bind']
      by_cases h2 : dW D d (j + 1) = 0
      · rw [if_pos (eq_t (c := 0) h2), if_pos h2]
        exact m_with_loop hv hov hj (vO V) 0 fu (by omega) (fu_lt (by omega))
      · rw [if_neg (eq_f (c := 0) h2 (dW_i ho hd (by omega)) (by decide)), if_neg h2, nI_m1]
        exact ih n (by omega) (by omega)
theorem q_voids {gvn : TV} {gdn : TD} {gcn : TR} {gvm : TM} {grc : TRm} {S : MS} (hc : CS gvn gdn gcn S) (hr : RS gvm grc S) (ho : OS S) (gth x1 x2 : Int32) : ∃ v r t, p_X12_voids gvn gdn x1 x2 = some (v, ()) ∧ p_X13_voids gth gvm x1 x2 = some (r, t) ∧ Ag1 1 v r t := by
  have h40 := ho.1.2.1
  have h5 := ho.1.1
  unfold p_X12_voids p_X13_voids
  rcases g_door hc.2.1 hr.2.1 ho.2.1 x1 with ⟨d, hd, hh, rfl, e1, e2⟩ | ⟨e1, e2⟩
  · rw [e1, some_bind', xb_l, e2, some_bind', if_neg n10]
    unfold p_X13_voids_23 p_X13_voids_28 p_X12_voids_25
    have hmain : x2 = 0 ∨ x2 = 1 → ∃ v r t, ((p_X12_fewestToVoid gvn gdn (nI d)).bind fun v5 => (if x2 = 0 then some (Sum.inl v5, ()) else (if v5 = -1 then some (Sum.inl v5, ()) else ((p_X9_ownersWith gvn v5).bind fun v9 => some (Sum.inl v9, ()))))) = some (v, ()) ∧ (if gvm.2.1 = 0 then p_X13_voids_53 gvm fu 0 (nI d) x2 (gvm.2.2.1 - 1) else some (-1, 0)) = some (r, t) ∧ Ag1 1 v r t := by
      intro hx
      unfold p_X12_fewestToVoid
      rw [hc.2.1.1, hr.2.1.1, hc.1.2.1, hr.1.2.1]
      by_cases hL : dL S.2.1 = 0
      · rw [if_pos (eq_t (c := 0) hL), if_pos (eq_t (c := 0) hL)]
        by_cases hB : vB S.1 = 0
        · rw [hB, show fu = 999999 + 1 from rfl]
          unfold p_X12_fewestToVoid_25 p_X13_voids_53
          rw [if_pos (by decide), if_pos (by decide), some_bind', if_pos rfl]
          refine ⟨.inl (-1), _, _, ?_, rfl, Or.inl ⟨rfl, rfl⟩⟩
          split <;> rfl
        · rw [pred_nI (by omega), c_void_loop hc.2.1 ho.2.1 hd (vB S.1 - 1) fu (by omega) (fu_lt (by omega)), m_void_loop hr.1 ho.1 hr.2.1 ho.2.1 hd hh (vB S.1 - 1) fu (by omega) (fu_lt (by omega)), some_bind', hc.1.2.1]
          cases hv : vd S.2.1 d (vB S.1 - 1) with
          | none =>
            refine ⟨.inl (-1), -1, 0, ?_, rfl, Or.inl ⟨rfl, rfl⟩⟩
            simp only [if_pos]
            split <;> rfl
          | some b =>
            have hb := vd_le _ _ _ _ hv
            simp only []
            rw [pk_sub (show b ≤ vB S.1 by omega)]
            rcases hx with hx | hx
            · rw [if_pos hx, if_pos hx]; exact ⟨_, _, _, rfl, rfl, Or.inl ⟨rfl, rfl⟩⟩
            · rw [hx, if_neg n10, if_neg n10, if_neg (fun e => by
                have e2 := congrArg Int32.toInt e
                rw [nI_toInt (by omega)] at e2
                have h1 : (-1 : Int32).toInt = -1 := by decide
                omega)]
              have hl := c_with_loop hc.1 ho.1 (w := vB S.1 - b) (by omega) 5 0 fu (by omega) (fu_lt (by decide))
              have hl : p_X9_ownersWith gvn (nI (vB S.1 - b)) = _ := hl
              rw [hl]
              refine ⟨_, _, _, rfl, rfl, Or.inl ⟨?_, rfl⟩⟩
              have hcut := wb_cut (p := fun i => decide (i < vO S.1 ∧ vB S.1 - b ≤ vG S.1 i)) (O := vO S.1) (fun k hk => by simp; omega) (5 - vO S.1)
              rw [show vO S.1 + (5 - vO S.1) = 5 by omega] at hcut
              rw [hcut]
      · have hL2 := ho.2.1.1
        rw [if_neg (eq_f (c := 0) hL (by omega) (by decide)), if_neg (eq_f (c := 0) hL (by omega) (by decide)), some_bind', if_pos rfl]
        refine ⟨.inl (-1), _, _, ?_, rfl, Or.inl ⟨rfl, rfl⟩⟩
        split <;> rfl
    rcases g_what1 x2 with ⟨hx, e3⟩ | ⟨hx, e3⟩ | ⟨hx, hx2, e3⟩
    · rw [e3, some_bind', xb_l, if_pos hx, show p_X13_right 0 1 1 = some (1, 0) from rfl, some_bind', if_neg n10]
      exact hmain (Or.inl hx)
    · rw [e3, some_bind', xb_l, if_neg (by rw [hx]; decide), if_pos hx, show p_X13_right 0 1 1 = some (1, 0) from rfl, some_bind', if_neg n10]
      exact hmain (Or.inr hx)
    · rw [e3, some_bind', xb_r, if_neg hx, if_neg hx2]
      exact ⟨_, _, _, rfl, rfl, Or.inr ⟨rfl, rfl⟩⟩
  · rw [e1, e2]; exact ⟨_, _, _, rfl, rfl, Or.inr ⟨rfl, rfl⟩⟩
-- copies
theorem m_copies_loop {n : Nat} (hn : n < 2147483648) (f : TA) : ∀ (k j m : Nat) (g : TA), j + k = n → k < m → (∀ i, i < j → g i = f i) → ∃ g', p_X13_copies_2 n n f m g (nI j) = some g' ∧ ∀ i, i < n → g' i = f i := by
  intro k
  induction k with
  | zero =>
    intro j m g hj hm hg
    obtain ⟨m, rfl⟩ : ∃ a, m = a + 1 := ⟨m - 1, by omega⟩
    have hj : j = n := by omega
    subst hj
    refine ⟨g, ?_, hg⟩
    unfold p_X13_copies_2
    rw [if_pos (show Int32.ofNat j ≤ nI j from nI_le (Nat.le_refl _) hn)]
  | succ k ih =>
    intro j m g hj hm hg
    obtain ⟨m, rfl⟩ : ∃ a, m = a + 1 := ⟨m - 1, by omega⟩
    obtain ⟨g', h1, h2⟩ := ih (j + 1) m (upd g j (f j)) (by omega) (by omega) (fun i hi => by
      by_cases e : i = j
      · subst e; exact pk_us
      · rw [pk_un e]; exact hg i (by omega))
    refine ⟨g', ?_, h2⟩
    unfold p_X13_copies_2
    rw [if_neg (show ¬ Int32.ofNat n ≤ nI j from nI_ge (by omega) hn), if_pos (ix_nI (by omega) hn), cl_nI (by omega), nI_1, if_pos (ix_nI (by omega) hn)]
    exact h1
theorem m_copies {n : Nat} (hn : n < 1000000) (f g : TA) : ∃ g', p_X13_copies n n f g = some g' ∧ ∀ i, i < n → g' i = f i := m_copies_loop (by omega) f n 0 fu g (by omega) (fu_lt hn) (fun i hi => absurd hi (by omega))
theorem RS_cong {gvm gvm' : TM} {grc grc' : TRm} {S : MS} (h : RS gvm grc S) (ho : OS S) (e1 : gvm'.1 = gvm.1) (e2 : gvm'.2.1 = gvm.2.1) (e3 : gvm'.2.2.1 = gvm.2.2.1) (e4 : ∀ k, k < 5 → gvm'.2.2.2.1 k = gvm.2.2.2.1 k) (e5 : ∀ k, k < 5 → gvm'.2.2.2.2.1 k = gvm.2.2.2.2.1 k) (e6 : ∀ k, k < 5 → gvm'.2.2.2.2.2.1 k = gvm.2.2.2.2.2.1 k) (e7 : ∀ k, k < 25 → gvm'.2.2.2.2.2.2.1 k = gvm.2.2.2.2.2.2.1 k) (e8 : ∀ k, k < 10 → gvm'.2.2.2.2.2.2.2.1 k = gvm.2.2.2.2.2.2.2.1 k) (e9 : ∀ k, k < 10 → gvm'.2.2.2.2.2.2.2.2.1 k = gvm.2.2.2.2.2.2.2.2.1 k) (e10 : ∀ k, k < 10 → gvm'.2.2.2.2.2.2.2.2.2.1 k = gvm.2.2.2.2.2.2.2.2.2.1 k) (e11 : ∀ k, k < 10 → gvm'.2.2.2.2.2.2.2.2.2.2.1 k = gvm.2.2.2.2.2.2.2.2.2.2.1 k) (e12 : ∀ k, k < 50 → gvm'.2.2.2.2.2.2.2.2.2.2.2 k = gvm.2.2.2.2.2.2.2.2.2.2.2 k) (r1 : grc'.1 = grc.1) (r2 : ∀ k, k < 36 → grc'.2 k = grc.2 k) : RS gvm' grc' S := by
  have h5 := ho.1.1
  have h12 := ho.2.2.1
  refine ⟨⟨e1.trans h.1.1, e3.trans h.1.2.1, fun i hi => ?_, fun i j hi hj => ?_⟩, ⟨e2.trans h.2.1.1, fun d hd => ⟨?_, fun hh => ?_⟩⟩, ⟨r1.trans h.2.2.1, fun r hr => ?_⟩⟩
  · rw [e4 i (by omega), e5 i (by omega), e6 i (by omega)]; exact h.1.2.2.1 i hi
  · rw [e7 _ (by omega)]; exact h.1.2.2.2 i j hi hj
  · rw [e8 d hd]; exact (h.2.1.2 d hd).1
  · have hm := (ho.2.1.2.2 d hd hh).2.1
    rw [e9 d hd, e10 d hd, e11 d hd]
    refine ⟨((h.2.1.2 d hd).2 hh).1, ((h.2.1.2 d hd).2 hh).2.1, ((h.2.1.2 d hd).2 hh).2.2.1, fun k hk => ?_⟩
    rw [e12 _ (by omega)]; exact ((h.2.1.2 d hd).2 hh).2.2.2 k hk
  · rw [r2 _ (by omega), r2 _ (by omega), r2 _ (by omega)]; exact h.2.2.2 r hr
theorem cpy0 (f g : TA) (n k : Nat) (h : k < n) : va_cpy f g 0 0 n k = f k := by
  rw [pk_cpy_in (Nat.zero_le _) (by omega)]; congr 1; omega
theorem c_copyFrom {gv0 gv1 : TV} {gd0 gd1 : TD} {gc0 gc1 : TR} {S : MS} (h : CS gv1 gd1 gc1 S) (ho : OS S) : ∃ gv' gd' gc', p_X9_copyFrom gv0 gd0 gc0 gv1 gd1 gc1 = some (gv', gd', gc') ∧ CS gv' gd' gc' S := by
  have h5 := ho.1.1
  have h12 := ho.2.2.1
  refine ⟨_, _, _, rfl, ⟨h.1.1, h.1.2.1, fun i hi => ?_⟩, ⟨h.2.1.1, h.2.1.2.1, fun d hd hh => ?_⟩, ⟨h.2.2.1, fun r hr => ?_⟩⟩
  · show va_cpy _ _ 0 0 5 i = _ ∧ va_cpy _ _ 0 0 5 i = _ ∧ va_cpy _ _ 0 0 5 i = _ ∧ va_cpy _ _ 0 0 5 i = _ ∧ va_cpy _ _ 0 0 5 i = _
    rw [cpy0 _ _ _ _ (by omega), cpy0 _ _ _ _ (by omega), cpy0 _ _ _ _ (by omega), cpy0 _ _ _ _ (by omega), cpy0 _ _ _ _ (by omega)]
    exact h.1.2.2 i hi
  · have hm := (ho.2.1.2.2 d hd hh).2.1
    show va_cpy _ _ 0 0 10 d = _ ∧ va_cpy _ _ 0 0 10 d = _ ∧ va_cpy _ _ 0 0 10 d = _ ∧ ∀ k, k < _ → va_cpy _ _ 0 0 50 (d * 5 + k) = _
    rw [cpy0 _ _ _ _ hd, cpy0 _ _ _ _ hd, cpy0 _ _ _ _ hd]
    refine ⟨(h.2.1.2.2 d hd hh).1, (h.2.1.2.2 d hd hh).2.1, (h.2.1.2.2 d hd hh).2.2.1, fun k hk => ?_⟩
    rw [cpy0 _ _ _ _ (by omega)]
    exact (h.2.1.2.2 d hd hh).2.2.2 k hk
  · show va_cpy _ _ 0 0 12 r = _ ∧ va_cpy _ _ 0 0 12 r = _ ∧ va_cpy _ _ 0 0 12 r = _
    rw [cpy0 _ _ _ _ (by omega), cpy0 _ _ _ _ (by omega), cpy0 _ _ _ _ (by omega)]
    exact h.2.2.2 r hr
-- the image
def IMm (gvm gim : TM) : TM := (gvm.1, gvm.2.1, gim.2.1, gim.2.2.2.1, gvm.2.2.2.2.1, gim.2.2.2.2.1, gim.2.2.2.2.2.1, gim.2.2.2.2.2.2.1, gim.2.2.2.2.2.2.2.1, gim.2.2.2.2.2.2.2.2.1, gim.2.2.2.2.2.2.2.2.2.1, gim.2.2.2.2.2.2.2.2.2.2.1)
def IMr (gim : TM) : TRm := (gim.2.2.1, gim.2.2.2.2.2.2.2.2.2.2.2)
theorem q_image {gg : TG} {gvn gvk : TV} {gdn gdk : TD} {gcn gck : TR} {gvm gim : TM} {grc : TRm} {S : MS} (hc : CS gvn gdn gcn S) (hr : RS gvm grc S) (ho : OS S) (gth : Int32) : ∃ gvk' gdk' gck' gim', p_X12_image gg gvn gdn gcn gvk gdk gck = some ((gg.1, gg.2.1, gg.2.2.1, gg.2.2.2.1, gg.2.2.2.2.1, 1), gvk', gdk', gck') ∧ p_X13_image gth gvm grc gim = some (0, gim') ∧ gim'.1 = 1 ∧ CS gvk' gdk' gck' S ∧ RS (IMm gvm gim') (IMr gim') S := by
  obtain ⟨gvk', gdk', gck', h1, h2⟩ := c_copyFrom (gv0 := gvk) (gd0 := gdk) (gc0 := gck) hc ho
  obtain ⟨a1, b1, c1⟩ := m_copies (n := 5) (by decide) gvm.2.2.2.1 gim.2.2.2.1
  obtain ⟨a2, b2, c2⟩ := m_copies (n := 5) (by decide) gvm.2.2.2.2.2.1 gim.2.2.2.2.1
  obtain ⟨a3, b3, c3⟩ := m_copies (n := 25) (by decide) gvm.2.2.2.2.2.2.1 gim.2.2.2.2.2.1
  obtain ⟨a4, b4, c4⟩ := m_copies (n := 10) (by decide) gvm.2.2.2.2.2.2.2.1 gim.2.2.2.2.2.2.1
  obtain ⟨a5, b5, c5⟩ := m_copies (n := 10) (by decide) gvm.2.2.2.2.2.2.2.2.1 gim.2.2.2.2.2.2.2.1
  obtain ⟨a6, b6, c6⟩ := m_copies (n := 10) (by decide) gvm.2.2.2.2.2.2.2.2.2.1 gim.2.2.2.2.2.2.2.2.1
  obtain ⟨a7, b7, c7⟩ := m_copies (n := 10) (by decide) gvm.2.2.2.2.2.2.2.2.2.2.1 gim.2.2.2.2.2.2.2.2.2.1
  obtain ⟨a8, b8, c8⟩ := m_copies (n := 50) (by decide) gvm.2.2.2.2.2.2.2.2.2.2.2 gim.2.2.2.2.2.2.2.2.2.2.1
  obtain ⟨a9, b9, c9⟩ := m_copies (n := 36) (by decide) grc.2 gim.2.2.2.2.2.2.2.2.2.2.2
  refine ⟨gvk', gdk', gck', (1, gvm.2.2.1, grc.1, a1, a2, a3, a4, a5, a6, a7, a8, a9), ?_, ?_, rfl, h2, ?_⟩
  · unfold p_X12_image; rw [h1]; rfl
  · unfold p_X13_image; rw [b1, some_bind', b2, some_bind', b3, some_bind', b4, some_bind', b5, some_bind', b6, some_bind', b7, some_bind', b8, some_bind', b9]; rfl
  · exact RS_cong hr ho rfl rfl rfl c1 (fun _ _ => rfl) c2 c3 c4 c5 c6 c7 c8 rfl c9
theorem q_restore {gg : TG} {gvn gvk : TV} {gdn gdk : TD} {gcn gck : TR} {gvm gim : TM} {grc : TRm} {S' : MS} (hg : gg.2.2.2.2.2 = 1) (hi : gim.1 = 1) (hc : CS gvk gdk gck S') (hr : RS (IMm gvm gim) (IMr gim) S') (ho : OS S') (gth : Int32) : ∃ gvn' gdn' gcn' gvm' grc', p_X12_restore gg gvn gdn gcn gvk gdk gck = some (1, gvn', gdn', gcn') ∧ p_X13_restore gth gvm grc gim = some (1, 0, gvm', grc') ∧ gvm'.1 = gvm.1 ∧ gvm'.2.1 = gvm.2.1 ∧ gvm'.2.2.2.2.1 = gvm.2.2.2.2.1 ∧ CS gvn' gdn' gcn' S' ∧ RS gvm' grc' S' := by
  obtain ⟨gvk', gdk', gck', h1, h2⟩ := c_copyFrom (gv0 := gvn) (gd0 := gdn) (gc0 := gcn) hc ho
  obtain ⟨a1, b1, c1⟩ := m_copies (n := 5) (by decide) gim.2.2.2.1 gvm.2.2.2.1
  obtain ⟨a2, b2, c2⟩ := m_copies (n := 5) (by decide) gim.2.2.2.2.1 gvm.2.2.2.2.2.1
  obtain ⟨a3, b3, c3⟩ := m_copies (n := 25) (by decide) gim.2.2.2.2.2.1 gvm.2.2.2.2.2.2.1
  obtain ⟨a4, b4, c4⟩ := m_copies (n := 10) (by decide) gim.2.2.2.2.2.2.1 gvm.2.2.2.2.2.2.2.1
  obtain ⟨a5, b5, c5⟩ := m_copies (n := 10) (by decide) gim.2.2.2.2.2.2.2.1 gvm.2.2.2.2.2.2.2.2.1
  obtain ⟨a6, b6, c6⟩ := m_copies (n := 10) (by decide) gim.2.2.2.2.2.2.2.2.1 gvm.2.2.2.2.2.2.2.2.2.1
  obtain ⟨a7, b7, c7⟩ := m_copies (n := 10) (by decide) gim.2.2.2.2.2.2.2.2.2.1 gvm.2.2.2.2.2.2.2.2.2.2.1
  obtain ⟨a8, b8, c8⟩ := m_copies (n := 50) (by decide) gim.2.2.2.2.2.2.2.2.2.2.1 gvm.2.2.2.2.2.2.2.2.2.2.2
  obtain ⟨a9, b9, c9⟩ := m_copies (n := 36) (by decide) gim.2.2.2.2.2.2.2.2.2.2.2 grc.2
  refine ⟨gvk', gdk', gck', (gvm.1, gvm.2.1, gim.2.1, a1, gvm.2.2.2.2.1, a2, a3, a4, a5, a6, a7, a8), (gim.2.2.1, a9), ?_, ?_, rfl, rfl, rfl, h2, ?_⟩
  · unfold p_X12_restore; rw [hg, if_neg n10, h1, some_bind', if_pos isZ1]
  · unfold p_X13_restore; rw [hi, if_neg n10, b1, some_bind', b2, some_bind', b3, some_bind', b4, some_bind', b5, some_bind', b6, some_bind', b7, some_bind', b8, some_bind', b9]; rfl
  · exact RS_cong hr ho rfl rfl rfl c1 (fun _ _ => rfl) c2 c3 c4 c5 c6 c7 c8 rfl c9
theorem q_restore0 {gg : TG} {gvn gvk : TV} {gdn gdk : TD} {gcn gck : TR} {gvm gim : TM} {grc : TRm} (hg : gg.2.2.2.2.2 = 0) (hi : gim.1 = 0) (gth : Int32) : p_X12_restore gg gvn gdn gcn gvk gdk gck = some (0, gvn, gdn, gcn) ∧ p_X13_restore gth gvm grc gim = some (0, 0, gvm, grc) := by
  constructor
  · unfold p_X12_restore; rw [hg, if_pos rfl, if_pos isZ0]
  · unfold p_X13_restore; rw [hi, if_pos rfl]
