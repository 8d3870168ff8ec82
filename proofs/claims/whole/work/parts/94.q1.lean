theorem or10 : ∀ B, B < 1024 → ∀ j, j < 10 → nI (B % 2 ^ j) ||| ((if B.testBit j = true then 1 else 0) <<< (nI j &&& 31)) = nI (B % 2 ^ (j + 1)) := by decide +kernel
theorem m_count_loop {gvm : TM} {D : MD} {gtd : Int32} {grf : TA} {grc : TRm} {gth x : Int32} (h : DM gvm D) (hB : dB D < 1024) : ∀ k j n : Nat, j + k = 10 → k < n → p_X13_count_26 gvm gtd grf grc n gth x (nI (dB D % 2 ^ j)) (nI j) = p_X13_count_26 gvm gtd grf grc 1 gth x (nI (dB D)) 10 := by
  intro k
  induction k with
  | zero =>
    intro j n hj hn
    obtain ⟨n, rfl⟩ : ∃ m, n = m + 1 := ⟨n - 1, by omega⟩
    have hj : j = 10 := by omega
    subst hj
    rw [Nat.mod_eq_of_lt hB]
    unfold p_X13_count_26
    rw [if_pos (le_t (c := 10) (Nat.le_refl _) (by decide)), if_pos (show (10 : Int32) ≤ 10 by decide)]
  | succ k ih =>
    intro j n hj hn
    obtain ⟨n, rfl⟩ : ∃ m, n = m + 1 := ⟨n - 1, by omega⟩
    have hi := ih (j + 1) n (by omega) (by omega)
    conv => lhs; unfold p_X13_count_26
    rw [if_neg (le_f (c := 10) (by omega) (by decide)), if_pos (ix_nI (by omega) (by decide)), cl_nI (by omega), (h.2 j (by omega)).1, or10 _ hB j (by omega), nI_1]
    exact hi
theorem what_out {x : Int32} {n : Nat} (hn : n < 2147483648) (h : x < 0 ∨ (¬ x < 0 ∧ nI n ≤ x ∧ (n : Int) ≤ x.toInt)) : ∀ k, k < n → ¬ x = (OfNat.ofNat k : Int32) := by
  intro k hk e
  have e : x = nI k := e
  subst e
  rcases h with h | h
  · exact absurd h (nI_pos (by omega))
  · have := h.2.2
    rw [nI_toInt (by omega)] at this
    omega
theorem within_out {x : Int32} {n : Nat} (hn : n < 2147483647) (h : x < 0 ∨ (¬ x < 0 ∧ nI (n + 1) ≤ x ∧ ((n + 1 : Nat) : Int) ≤ x.toInt)) : p_X13_within x 0 (nI n) = some 0 := by
  unfold p_X13_within
  rcases h with h | h
  · rw [if_pos h]
  · rw [if_neg h.1, if_pos (by rw [Int32.lt_iff_toInt_lt, nI_toInt (by omega)]; have := h.2.2; omega)]
theorem within_in {k n : Nat} (hk : k ≤ n) (hn : n < 2147483648) : p_X13_within (nI k) 0 (nI n) = some 1 := by
  unfold p_X13_within
  rw [if_neg (nI_pos (by omega)), if_neg (nI_nlt hk (by omega))]
theorem q_count {gg : TG} {gvn : TV} {gdn : TD} {gcn : TR} {gvm : TM} {grc : TRm} {S : MS} {gtd : Int32} {grf : TA} (hc : CS gvn gdn gcn S) (hr : RS gvm grc S) (ho : OS S) (h1 : gg.1 = gtd) (h2 : gg.2.2.1 = grf 0) (h3 : gg.2.2.2.1 = grf 1) (h4 : gg.2.2.2.2.1 = grf 2) (gth x : Int32) : ∃ v r t, p_X12_count gg gvn gdn gcn x = some (v, ()) ∧ p_X13_count gth gvm gtd grf grc x = some (r, t) ∧ Ag1 1 v r t := by
  have hl := m_count_loop (gtd := gtd) (grf := grf) (grc := grc) (gth := 0) (x := x) hr.2.1 ho.2.1.2.1 10 0 fu (by omega) (fu_lt (by decide))
  have hm0 : nI (dB S.2.1 % 2 ^ 0) = 0 := by rw [Nat.pow_zero, Nat.mod_one]; rfl
  rw [hm0] at hl
  have hl : p_X13_count_26 gvm gtd grf grc fu 0 x 0 0 = _ := hl
  rcases q_ix x 10 (by decide) with h | h | ⟨j, hj, rfl⟩
  · refine ⟨.inr 1, 0, 1, ?_, ?_, Or.inr ⟨rfl, rfl⟩⟩
    · have hw := what_out (n := 10) (by decide) (Or.inl h)
      unfold p_X12_count
      rw [if_neg (hw 0 (by decide)), if_neg (hw 1 (by decide)), if_neg (hw 2 (by decide)), if_neg (hw 3 (by decide)), if_neg (hw 4 (by decide)), if_neg (hw 5 (by decide)), if_neg (hw 6 (by decide)), if_neg (hw 7 (by decide)), if_neg (hw 8 (by decide)), if_neg (hw 9 (by decide))]
    · unfold p_X13_count
      rw [show p_X13_within x 0 9 = some 0 from within_out (n := 9) (by decide) (Or.inl h)]; rfl
  · refine ⟨.inr 1, 0, 1, ?_, ?_, Or.inr ⟨rfl, rfl⟩⟩
    · have hw := what_out (n := 10) (by decide) (Or.inr h)
      unfold p_X12_count
      rw [if_neg (hw 0 (by decide)), if_neg (hw 1 (by decide)), if_neg (hw 2 (by decide)), if_neg (hw 3 (by decide)), if_neg (hw 4 (by decide)), if_neg (hw 5 (by decide)), if_neg (hw 6 (by decide)), if_neg (hw 7 (by decide)), if_neg (hw 8 (by decide)), if_neg (hw 9 (by decide))]
    · unfold p_X13_count
      rw [show p_X13_within x 0 9 = some 0 from within_out (n := 9) (by decide) (Or.inr h)]; rfl
  · have hw : p_X13_within (nI j) 0 9 = some 1 := within_in (n := 9) (by omega) (by decide)
    have hcnt : p_X13_count gth gvm gtd grf grc (nI j) = p_X13_count_26 gvm gtd grf grc 1 0 (nI j) (nI (dB S.2.1)) 10 := by
      unfold p_X13_count
      rw [hw, some_bind', r_ok, some_bind', if_neg n10]; exact hl
    rw [hcnt]
    unfold p_X12_count p_X13_count_26
    rw [if_pos (show (10 : Int32) ≤ 10 by decide)]
    have h : j = 0 ∨ j = 1 ∨ j = 2 ∨ j = 3 ∨ j = 4 ∨ j = 5 ∨ j = 6 ∨ j = 7 ∨ j = 8 ∨ j = 9 := by omega
    rcases h with h | h | h | h | h | h | h | h | h | h <;> subst h
    · exact ⟨_, _, _, by rw [if_pos (by decide)], by rw [if_pos (by decide)], Or.inl ⟨by rw [hc.1.1, hr.1.1], rfl⟩⟩
    · exact ⟨_, _, _, by rw [if_neg (by decide), if_pos (by decide)], by rw [if_neg (by decide), if_pos (by decide)], Or.inl ⟨by rw [hc.2.1.2.1], rfl⟩⟩
    · exact ⟨_, _, _, by rw [if_neg (by decide), if_neg (by decide), if_pos (by decide)], by rw [if_neg (by decide), if_neg (by decide), if_pos (by decide)], Or.inl ⟨by rw [hc.2.1.1, hr.2.1.1], rfl⟩⟩
    · exact ⟨_, _, _, by rw [if_neg (by decide), if_neg (by decide), if_neg (by decide), if_pos (by decide)], by rw [if_neg (by decide), if_neg (by decide), if_neg (by decide), if_pos (by decide)], Or.inl ⟨by rw [hc.1.2.1, hr.1.2.1], rfl⟩⟩
    · exact ⟨_, _, _, by rw [if_neg (by decide), if_neg (by decide), if_neg (by decide), if_neg (by decide), if_pos (by decide), c_allGoats hc.1 ho.1]; rfl, by rw [if_neg (by decide), if_neg (by decide), if_neg (by decide), if_neg (by decide), if_pos (by decide), m_all hr.1 ho.1]; rfl, Or.inl ⟨rfl, rfl⟩⟩
    · exact ⟨_, _, _, by rw [if_neg (by decide), if_neg (by decide), if_neg (by decide), if_neg (by decide), if_neg (by decide), if_pos (by decide)], by rw [if_neg (by decide), if_neg (by decide), if_neg (by decide), if_neg (by decide), if_neg (by decide), if_pos (by decide)], Or.inl ⟨by rw [hc.2.2.1, hr.2.2.1], rfl⟩⟩
    · exact ⟨_, _, _, by rw [if_neg (by decide), if_neg (by decide), if_neg (by decide), if_neg (by decide), if_neg (by decide), if_neg (by decide), if_pos (by decide)], by rw [if_neg (by decide), if_neg (by decide), if_neg (by decide), if_neg (by decide), if_neg (by decide), if_neg (by decide), if_pos (by decide)], Or.inl ⟨by rw [h1], rfl⟩⟩
    · exact ⟨_, _, _, by rw [if_neg (by decide), if_neg (by decide), if_neg (by decide), if_neg (by decide), if_neg (by decide), if_neg (by decide), if_neg (by decide), if_pos (by decide)], by rw [if_neg (by decide), if_neg (by decide), if_neg (by decide), if_neg (by decide), if_neg (by decide), if_neg (by decide), if_neg (by decide), if_pos (by decide)], Or.inl ⟨by rw [h2]; rfl, rfl⟩⟩
    · exact ⟨_, _, _, by rw [if_neg (by decide), if_neg (by decide), if_neg (by decide), if_neg (by decide), if_neg (by decide), if_neg (by decide), if_neg (by decide), if_neg (by decide), if_pos (by decide)], by rw [if_neg (by decide), if_neg (by decide), if_neg (by decide), if_neg (by decide), if_neg (by decide), if_neg (by decide), if_neg (by decide), if_pos (by decide)], Or.inl ⟨by rw [h3]; rfl, rfl⟩⟩
    · exact ⟨_, _, _, by rw [if_neg (by decide), if_neg (by decide), if_neg (by decide), if_neg (by decide), if_neg (by decide), if_neg (by decide), if_neg (by decide), if_neg (by decide), if_neg (by decide), if_pos (by decide)], by rw [if_neg (by decide), if_neg (by decide), if_neg (by decide), if_neg (by decide), if_neg (by decide), if_neg (by decide), if_neg (by decide), if_pos (by decide)], Or.inl ⟨by rw [h4]; rfl, rfl⟩⟩
theorem m_owner_loop {gvm : TM} {V : MV} {gth x2 : Int32} {gla : TA} (h : VM gvm V) {o : Nat} (hq : o < 5) : ∀ k j n : Nat, j + k = 5 → k < n → p_X13_owner_39 gvm n gth gla (nI o) x2 (nI (sN (fun k => vL V k o) j)) (nI j) = p_X13_owner_39 gvm 1 gth gla (nI o) x2 (nI (sN (fun k => vL V k o) 5)) 5 := by
  intro k
  induction k with
  | zero =>
    intro j n hj hn
    obtain ⟨n, rfl⟩ : ∃ m, n = m + 1 := ⟨n - 1, by omega⟩
    have hj : j = 5 := by omega
    subst hj
    unfold p_X13_owner_39
    rw [if_pos (le_t (c := 5) (Nat.le_refl _) (by decide)), if_pos (show (5 : Int32) ≤ 5 by decide)]
  | succ k ih =>
    intro j n hj hn
    obtain ⟨n, rfl⟩ : ∃ m, n = m + 1 := ⟨n - 1, by omega⟩
    have hi := ih (j + 1) n (by omega) (by omega)
    conv => lhs; unfold p_X13_owner_39
    rw [if_neg (le_f (c := 5) (by omega) (by decide)), fig_at', if_pos (ix_nI (by omega) (by decide)), cl_nI (by omega), h.2.2.2 j o (by omega) hq, nI_add, nI_1]
    exact hi
theorem q_owner {gvn : TV} {gdn : TD} {gcn : TR} {gvm : TM} {grc : TRm} {S : MS} (hc : CS gvn gdn gcn S) (hr : RS gvm grc S) (ho : OS S) (gth x1 x2 : Int32) (gla : TA) : ∃ v r t la, p_X12_owner gvn gdn x1 x2 = some (v, ()) ∧ p_X13_owner gth gvm gla x1 x2 = some (r, t, la) ∧ Ag1 1 v r t := by
  have h5 := ho.1.1
  have hB := ho.1.2.1
  rcases g_owner hc.1 hr.1 ho.1 x1 with ⟨o, hoo, rfl, e1, e2⟩ | ⟨e1, e2⟩
  · have ho5 : o < 5 := by omega
    obtain ⟨la, hla, hLA⟩ := m_lay hr.2.1 ho.2.1 gla
    have hl := m_owner_loop (gth := 0) (x2 := x2) (gla := la) hr.1 ho5 5 0 fu (by omega) (fu_lt (by decide))
    have hl : p_X13_owner_39 gvm fu 0 la (nI o) x2 0 0 = _ := hl
    unfold p_X12_owner p_X13_owner
    rw [e1, some_bind', xb_l, e2, some_bind', if_neg n10]
    rcases q_ix x2 9 (by decide) with h | h | ⟨j, hj, rfl⟩
    · refine ⟨.inr 1, 0, 1, gla, ?_, ?_, Or.inr ⟨rfl, rfl⟩⟩
      · have hw := what_out (n := 9) (by decide) (Or.inl h)
        rw [if_neg (hw 0 (by decide)), if_neg (hw 1 (by decide)), if_neg (hw 2 (by decide)), if_neg (hw 3 (by decide)), if_neg (hw 4 (by decide)), if_neg (hw 5 (by decide)), if_neg (hw 6 (by decide)), if_neg (hw 7 (by decide)), if_neg (hw 8 (by decide))]
      · rw [show p_X13_within x2 0 8 = some 0 from within_out (n := 8) (by decide) (Or.inl h)]; rfl
    · refine ⟨.inr 1, 0, 1, gla, ?_, ?_, Or.inr ⟨rfl, rfl⟩⟩
      · have hw := what_out (n := 9) (by decide) (Or.inr h)
        rw [if_neg (hw 0 (by decide)), if_neg (hw 1 (by decide)), if_neg (hw 2 (by decide)), if_neg (hw 3 (by decide)), if_neg (hw 4 (by decide)), if_neg (hw 5 (by decide)), if_neg (hw 6 (by decide)), if_neg (hw 7 (by decide)), if_neg (hw 8 (by decide))]
      · rw [show p_X13_within x2 0 8 = some 0 from within_out (n := 8) (by decide) (Or.inr h)]; rfl
    · rw [show p_X13_within (nI j) 0 8 = some 1 from within_in (n := 8) (by omega) (by decide), some_bind', r_ok, some_bind', if_neg n10, hla, some_bind', hl]
      unfold p_X13_owner_39
      rw [if_pos (show (5 : Int32) ≤ 5 by decide), hc.1.2.1, hr.1.2.1]
      have hw := hr.1.2.2.1 o hoo
      have hi5 : ix (nI o) 5 := ix_nI ho5 (by decide)
      have hcl5 : (nI o).toNatClampNeg = o := cl_nI (by omega)
      have h : j = 0 ∨ j = 1 ∨ j = 2 ∨ j = 3 ∨ j = 4 ∨ j = 5 ∨ j = 6 ∨ j = 7 ∨ j = 8 := by omega
      rcases h with h | h | h | h | h | h | h | h | h <;> subst h
      · exact ⟨_, _, _, _, by rw [if_pos (by decide), c_goatsOf hc.1 ho.1 ho5]; rfl, by rw [if_pos (by decide), if_pos hi5], Or.inl ⟨by rw [hcl5, hw.1, if_pos hoo], rfl⟩⟩
      · exact ⟨_, _, _, _, by rw [if_neg (by decide), if_pos (by decide), c_hidesOf hc.1 ho.1 ho5]; rfl, by rw [if_neg (by decide), if_pos (by decide), if_pos hi5], Or.inl ⟨by rw [hcl5, hw.2.1, if_pos hoo], rfl⟩⟩
      · exact ⟨_, _, _, _, by rw [if_neg (by decide), if_neg (by decide), if_pos (by decide), c_hiddenBy hc.1 ho.1 ho5]; rfl, by rw [if_neg (by decide), if_neg (by decide), if_pos (by decide), if_pos hi5], Or.inl ⟨by rw [hcl5, hw.2.2, if_pos hoo], rfl⟩⟩
      · exact ⟨_, _, _, _, by rw [if_neg (by decide), if_neg (by decide), if_neg (by decide), if_pos (by decide), c_lentBy hc.1 ho.1 ho5]; rfl, by rw [if_neg (by decide), if_neg (by decide), if_neg (by decide), if_pos (by decide), m_lentBy hr.1 ho5]; rfl, Or.inl ⟨by rw [if_pos hoo], rfl⟩⟩
      · exact ⟨_, _, _, _, by rw [if_neg (by decide), if_neg (by decide), if_neg (by decide), if_neg (by decide), if_pos (by decide), c_borrowedBy hc.1 ho.1 ho5]; rfl, by rw [if_neg (by decide), if_neg (by decide), if_neg (by decide), if_neg (by decide), if_pos (by decide)], Or.inl ⟨by rw [if_pos hoo], rfl⟩⟩
      · exact ⟨_, _, _, _, by rw [if_neg (by decide), if_neg (by decide), if_neg (by decide), if_neg (by decide), if_neg (by decide), if_pos (by decide), c_owedBy hc.2.1 ho.2.1 h5 ho5 (by omega)]; rfl, by rw [if_neg (by decide), if_neg (by decide), if_neg (by decide), if_neg (by decide), if_neg (by decide), if_pos (by decide), m_oweBy hr.2.1 hLA ho.2.1 h5 ho5 (by omega)]; rfl, Or.inl ⟨by rw [iL_i], rfl⟩⟩
      · exact ⟨_, _, _, _, by rw [if_neg (by decide), if_neg (by decide), if_neg (by decide), if_neg (by decide), if_neg (by decide), if_neg (by decide), if_pos (by decide), c_owedTo hc.2.1 ho.2.1 h5 ho5 (by omega)]; rfl, by rw [if_neg (by decide), if_neg (by decide), if_neg (by decide), if_neg (by decide), if_neg (by decide), if_neg (by decide), if_pos (by decide), m_owedTo hr.2.1 hLA ho.2.1 h5 ho5 (by omega)]; rfl, Or.inl ⟨by rw [iL_i], rfl⟩⟩
      · exact ⟨_, _, _, _, by rw [if_neg (by decide), if_neg (by decide), if_neg (by decide), if_neg (by decide), if_neg (by decide), if_neg (by decide), if_neg (by decide), if_pos (by decide), c_netOf hc.2.1 ho.2.1 h5 ho5 (by omega)]; rfl, by rw [if_neg (by decide), if_neg (by decide), if_neg (by decide), if_neg (by decide), if_neg (by decide), if_neg (by decide), if_neg (by decide), if_pos (by decide), m_net hr.2.1 hLA ho.2.1 h5 ho5 (by omega)]; rfl, Or.inl ⟨by rw [iL_i], rfl⟩⟩
      · exact ⟨_, _, _, _, by rw [if_neg (by decide), if_neg (by decide), if_neg (by decide), if_neg (by decide), if_neg (by decide), if_neg (by decide), if_neg (by decide), if_neg (by decide), if_pos (by decide), nI_1, c_netOf hc.2.1 ho.2.1 h5 ho5 (by omega), some_bind', c_netOf hc.2.1 ho.2.1 h5 ho5 (by omega)]; rfl, by rw [if_neg (by decide), if_neg (by decide), if_neg (by decide), if_neg (by decide), if_neg (by decide), if_neg (by decide), if_neg (by decide), if_neg (by decide), nI_1, m_net hr.2.1 hLA ho.2.1 h5 ho5 (by omega), some_bind', m_net hr.2.1 hLA ho.2.1 h5 ho5 (by omega)]; rfl, Or.inl ⟨by rw [iL_sub, iL_i, iI_sub], rfl⟩⟩
  · exact ⟨.inr 1, 0, 1, gla, by unfold p_X12_owner; rw [e1]; rfl, by unfold p_X13_owner; rw [e2]; rfl, Or.inr ⟨rfl, rfl⟩⟩
theorem q_worth {gvn : TV} {gdn : TD} {gcn : TR} {gvm : TM} {grc : TRm} {S : MS} (hc : CS gvn gdn gcn S) (hr : RS gvm grc S) (ho : OS S) (gth x1 x2 : Int32) : ∃ v r t, p_X12_worth gdn x1 x2 = some (v, ()) ∧ p_X13_worth gth gvm x1 x2 = some (r, t) ∧ Ag2 v r t := by
  unfold p_X12_worth p_X13_worth
  rcases g_door hc.2.1 hr.2.1 ho.2.1 x1 with ⟨d, hd, hh, rfl, e1, e2⟩ | ⟨e1, e2⟩
  · rw [e1, some_bind', xb_l, e2, some_bind', if_neg n10]
    rcases g_base x2 0 rfl with ⟨b, hb, rfl, e3, e4⟩ | ⟨e3, e4⟩
    · rw [e3, some_bind', xb_l, e4, some_bind', if_neg n10, c_worth hc.2.1 ho.2.1 hd (by omega), m_worth hr.2.1 ho.2.1 hd hh (by omega)]
      exact ⟨_, _, _, rfl, rfl, Or.inl ⟨rfl, rfl⟩⟩
    · rw [e3, e4]; exact ⟨_, _, _, rfl, rfl, Or.inr (Or.inr ⟨rfl, rfl⟩)⟩
  · rw [e1, e2]; exact ⟨_, _, _, rfl, rfl, Or.inr (Or.inl ⟨rfl, rfl⟩)⟩
theorem q_tax {gvn : TV} {gdn : TD} {gcn : TR} {gvm : TM} {grc : TRm} {S : MS} (hc : CS gvn gdn gcn S) (hr : RS gvm grc S) (ho : OS S) (gth x1 : Int32) : ∃ v r t, p_X12_tax gdn x1 = some (v, ()) ∧ p_X13_tax gth gvm x1 = some (r, t) ∧ Ag1 1 v r t := by
  unfold p_X12_tax p_X13_tax
  rcases g_door hc.2.1 hr.2.1 ho.2.1 x1 with ⟨d, hd, hh, rfl, e1, e2⟩ | ⟨e1, e2⟩
  · rw [e1, some_bind', xb_l, e2, some_bind', if_neg n10]
    rw [show p_X4_worthIn gdn (nI d) 10 = _ from c_worth hc.2.1 ho.2.1 hd (b := 10) (by omega), show p_X13_worthOf gvm (nI d) 10 = _ from m_worth hr.2.1 ho.2.1 hd hh (b := 10) (by omega), some_bind', some_bind']
    unfold p_X12_dividedUp
    rw [if_pos (by decide), if_pos (by decide)]
    refine ⟨_, _, _, rfl, rfl, Or.inl ⟨?_, rfl⟩⟩
    rw [show nI (dW S.2.1 d 10) + 10 - 1 = nI (dW S.2.1 d 10) + 9 from by
      rw [show (10 : Int32) = nI 10 from rfl, show (9 : Int32) = nI 9 from rfl, nI_add, nI_add]; exact pred_nI (by omega)]
  · rw [e1, e2]; exact ⟨_, _, _, rfl, rfl, Or.inr ⟨rfl, rfl⟩⟩
