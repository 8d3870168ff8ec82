-- reading days
abbrev TDr := Nat × Int32 × Int32 × Int32 × Int32
abbrev TAc := Int32 × TA × TA
theorem w_u : ∀ x, x < 15 → ∀ y, y < 15 → wl x = wl y → (∀ i, i < 8 → i < wl x → wB x i = wB y i) → x = y := by decide +kernel
theorem isW_u {C : Nat → Nat} {n p x y : Nat} (hx : x < 15) (hy : y < 15) (h1 : isW C n p x) (h2 : isW C n p y) : x = y := by
  have e : wl x = wl y := h1.2.1.symm.trans h2.2.1
  exact w_u x hx y hy e (fun i _ hi => (h1.2.2 i hi).symm.trans (h2.2.2 i (by omega)))
theorem rx7 : ∀ k, k < 8 → rx (7 + k) = k := by decide
theorem c_kind {gtx gtt : TA} {C : Nat → Nat} {n p : Nat} (h : TX gtx gtt C n) (hp : p ≤ n) (gdr : TDr) (r : R5) : ∀ k j m : Nat, j + k = 8 → k < m → (∀ i, i < j → ¬ isW C n p (7 + i)) → (∃ i, i < 8 ∧ isW C n p (7 + i) ∧ p_X3_readKind_2 (rdC C n p r) gtx m gdr (nI j) = some (1, (i, gdr.2))) ∨ ((∀ i, i < 8 → ¬ isW C n p (7 + i)) ∧ p_X3_readKind_2 (rdC C n p r) gtx m gdr (nI j) = some (0, gdr)) := by
  intro k
  induction k with
  | zero =>
    intro j m hj hm hall
    obtain ⟨m, rfl⟩ : ∃ a, m = a + 1 := ⟨m - 1, by omega⟩
    right
    refine ⟨fun i hi => hall i (by omega), ?_⟩
    unfold p_X3_readKind_2
    rw [if_pos (le_t (c := 8) (by omega) (by omega))]
  | succ k ih =>
    intro j m hj hm hall
    obtain ⟨m, rfl⟩ : ∃ a, m = a + 1 := ⟨m - 1, by omega⟩
    unfold p_X3_readKind_2
    rw [if_neg (le_f (c := 8) (by omega) (by decide)), if_pos (ix_nI (by omega) (by decide)), cl_nI (by omega), if_pos (by omega)]
    rcases q_word h hp (x := 7 + j) (by omega) with ⟨hw, wc, _⟩ | ⟨hw, wc, _⟩
    · left
      refine ⟨j, by omega, hw, ?_⟩
      rw [wc, some_bind', if_neg n10, if_pos (ix_nI (by omega) (by decide))]
    · rw [wc, some_bind', if_pos rfl, nI_1]
      exact ih (j + 1) m (by omega) (by omega) (fun i hi => by
        by_cases e : i = j
        · subst e; exact hw
        · exact hall i (by omega))
theorem m_kind {gvm : TM} {gtx gtt : TA} {C : Nat → Nat} {n p : Nat} (h : TX gtx gtt C n) (hp : p ≤ n) {g : RDm} (hg : RRd g C n p) (gfl : Int32 × Int32) (gac : TAc) : ∀ (k j m : Nat) (x1 : Int32), j + k = 8 → k < m → (x1 = -1 ∧ (∀ i, i < j → ¬ isW C n p (7 + i)) ∨ ∃ i, i < j ∧ isW C n p (7 + i) ∧ x1 = nI i) → (∃ i, i < 8 ∧ isW C n p (7 + i) ∧ p_X13_readsDay_4 gvm gtt m gfl g gac x1 (nI j) = p_X13_readsDay_37 gvm gtt gfl g gac (nI i) 1) ∨ ((∀ i, i < 8 → ¬ isW C n p (7 + i)) ∧ p_X13_readsDay_4 gvm gtt m gfl g gac x1 (nI j) = p_X13_readsDay_37 gvm gtt gfl g gac (-1) 0) := by
  intro k
  induction k with
  | zero =>
    intro j m x1 hj hm hx
    obtain ⟨m, rfl⟩ : ∃ a, m = a + 1 := ⟨m - 1, by omega⟩
    unfold p_X13_readsDay_4
    rw [if_pos (lt_t (c := 7) (by omega) (by omega))]
    rcases hx with ⟨hx, hall⟩ | ⟨i, hi, hw, hx⟩
    · right; refine ⟨fun i hi => hall i (by omega), ?_⟩; rw [if_pos hx, hx]
    · left; refine ⟨i, by omega, hw, ?_⟩; rw [hx, if_neg (nI_ne (by omega))]
  | succ k ih =>
    intro j m x1 hj hm hx
    obtain ⟨m, rfl⟩ : ∃ a, m = a + 1 := ⟨m - 1, by omega⟩
    unfold p_X13_readsDay_4 p_X13_readsDay_20
    rw [if_neg (lt_f (c := 7) (by omega) (by decide)), nI_1]
    rcases q_word h hp (x := 7 + j) (by omega) with ⟨hw, _, wm⟩ | ⟨hw, _, wm⟩
    · have wm := wm g hg
      rw [rx7 j (by omega)] at wm
      rw [wm, some_bind', if_neg n10]
      exact ih (j + 1) m (nI j) (by omega) (by omega) (Or.inr ⟨j, by omega, hw, rfl⟩)
    · have wm := wm g hg
      rw [rx7 j (by omega)] at wm
      rw [wm, some_bind', if_pos rfl]
      refine ih (j + 1) m x1 (by omega) (by omega) ?_
      rcases hx with ⟨hx, hall⟩ | ⟨i, hi, hw2, hx⟩
      · left; exact ⟨hx, fun i hi => by
          by_cases e : i = j
          · subst e; exact hw
          · exact hall i (by omega)⟩
      · right; exact ⟨i, by omega, hw2, hx⟩
def A0 (t : TA) (j : Nat) (x : Int32) : TA := upd (upd (upd (upd (upd t (5 * j) x) (5 * j + 1) 0) (5 * j + 2) 0) (5 * j + 3) 0) (5 * j + 4) 0
theorem A0_r (t : TA) (j : Nat) (x : Int32) : A0 t j x (5 * j) = x ∧ A0 t j x (5 * j + 1) = nI 0 ∧ A0 t j x (5 * j + 2) = nI 0 ∧ A0 t j x (5 * j + 3) = nI 0 ∧ A0 t j x (5 * j + 4) = nI 0 ∧ ∀ i, i < 5 * j → A0 t j x i = t i := by
  unfold A0
  refine ⟨?_, ?_, ?_, ?_, ?_, fun i hi => ?_⟩
  · rw [pk_un (by omega), pk_un (by omega), pk_un (by omega), pk_un (by omega), pk_us]
  · rw [pk_un (by omega), pk_un (by omega), pk_un (by omega), pk_us]; rfl
  · rw [pk_un (by omega), pk_un (by omega), pk_us]; rfl
  · rw [pk_un (by omega), pk_us]; rfl
  · rw [pk_us]; rfl
  · rw [pk_un (by omega), pk_un (by omega), pk_un (by omega), pk_un (by omega), pk_un (by omega)]
theorem at5 (j : Nat) : (5 : Int32) * nI j = nI (5 * j) := by rw [show (5 : Int32) = nI 5 from rfl, pk_mul]
theorem a5_1 (j : Nat) : nI (5 * j) + 1 = nI (5 * j + 1) := nI_1 _
theorem a5_2 (j : Nat) : nI (5 * j) + 2 = nI (5 * j + 2) := by rw [show (2 : Int32) = nI 2 from rfl, nI_add]
theorem a5_3 (j : Nat) : nI (5 * j) + 3 = nI (5 * j + 3) := by rw [show (3 : Int32) = nI 3 from rfl, nI_add]
theorem a5_4 (j : Nat) : nI (5 * j) + 4 = nI (5 * j + 4) := by rw [show (4 : Int32) = nI 4 from rfl, nI_add]
theorem m_37 {gvm : TM} {gtt : TA} {gfl : Int32 × Int32} {g : RDm} {gac : TAc} {j : Nat} (hj : gac.1 = nI j) (hj2 : j < 120) (x1 t1 : Int32) : p_X13_readsDay_37 gvm gtt gfl g gac x1 t1 = ((p_X13_need gtt gfl g t1).bind fun v1 => (if x1 = 5 then p_X13_readsDay_101 gvm gtt v1.1 v1.2 (nI j, A0 gac.2.1 j x1, gac.2.2) x1 (nI (5 * j)) else (if x1 = 7 then p_X13_readsDay_101 gvm gtt v1.1 v1.2 (nI j, A0 gac.2.1 j x1, gac.2.2) x1 (nI (5 * j)) else (if x1 = 4 then p_X13_readsDay_259 gvm gtt v1.1 v1.2 (nI j, A0 gac.2.1 j x1, gac.2.2) else ((p_X13_among gtt v1.1 v1.2 gvm.1 (-1)).bind fun v11 => (if x1 = 2 then p_X13_readsDay_180 gvm gtt v11.2.1 v11.2.2 (nI j, upd (A0 gac.2.1 j x1) (5 * j + 1) v11.1, gac.2.2) x1 (nI (5 * j)) else (if x1 = 6 then p_X13_readsDay_180 gvm gtt v11.2.1 v11.2.2 (nI j, upd (A0 gac.2.1 j x1) (5 * j + 1) v11.1, gac.2.2) x1 (nI (5 * j)) else p_X13_readsDay_204 gvm gtt v11.2.1 v11.2.2 (nI j, upd (A0 gac.2.1 j x1) (5 * j + 1) v11.1, gac.2.2) x1 (nI (5 * j))))))))) := by
  unfold p_X13_readsDay_37
  rw [hj]
  simp only [at5, a5_1, a5_2, a5_3, a5_4, if_pos (ix_nI (show 5 * j < 600 by omega) (show 600 < 2147483648 by decide)), if_pos (ix_nI (show 5 * j + 1 < 600 by omega) (show 600 < 2147483648 by decide)), if_pos (ix_nI (show 5 * j + 2 < 600 by omega) (show 600 < 2147483648 by decide)), if_pos (ix_nI (show 5 * j + 3 < 600 by omega) (show 600 < 2147483648 by decide)), if_pos (ix_nI (show 5 * j + 4 < 600 by omega) (show 600 < 2147483648 by decide)), cl_nI (show 5 * j < 2147483648 by omega), cl_nI (show 5 * j + 1 < 2147483648 by omega), cl_nI (show 5 * j + 2 < 2147483648 by omega), cl_nI (show 5 * j + 3 < 2147483648 by omega), cl_nI (show 5 * j + 4 < 2147483648 by omega)]
  rfl
-- tails with a fault
theorem bad_259 {gvm : TM} {gtt : TA} {w fp : Int32} (hw : w ≠ 0) (g : RDm) (gac : TAc) : p_X13_readsDay_259 gvm gtt (w, fp) g gac = some ((w, fp), g, gac) := by
  unfold p_X13_readsDay_259 p_X13_readsDay_273
  rw [bad_need hw, bad_need hw, some_bind', bad_good hw, some_bind', if_pos rfl, ite_self]
theorem bad_253 {gvm : TM} {gtt : TA} {w fp : Int32} (hw : w ≠ 0) (g : RDm) (gac : TAc) {j : Nat} (hj : j < 120) (x : Int32) : ∃ gac', p_X13_readsDay_253 gvm gtt (w, fp) g gac (nI (5 * j + 3)) x = some ((w, fp), g, gac') := by
  unfold p_X13_readsDay_253
  rw [bad_number hw, some_bind', if_pos (ix_nI (by omega) (by decide))]
  exact ⟨_, bad_259 hw _ _⟩
theorem bad_204 {gvm : TM} {gtt : TA} {w fp : Int32} (hw : w ≠ 0) (g : RDm) (gac : TAc) {j : Nat} (hj : j < 120) (x : Int32) : ∃ gac', p_X13_readsDay_204 gvm gtt (w, fp) g gac x (nI (5 * j)) = some ((w, fp), g, gac') := by
  unfold p_X13_readsDay_204
  rw [a5_3, a5_4]
  by_cases h6 : x = 6
  · rw [if_pos h6, bad_figures hw, some_bind', if_pos (ix_nI (by omega) (by decide))]
    exact ⟨_, bad_259 hw _ _⟩
  · rw [if_neg h6]
    by_cases h3 : x = 3
    · rw [if_pos h3]; exact bad_253 hw g gac hj 0
    · rw [if_neg h3]; exact bad_253 hw g gac hj 1
theorem bad_180 {gvm : TM} {gtt : TA} {w fp : Int32} (hw : w ≠ 0) (g : RDm) (gac : TAc) {j : Nat} (hj : j < 120) (x : Int32) : ∃ gac', p_X13_readsDay_180 gvm gtt (w, fp) g gac x (nI (5 * j)) = some ((w, fp), g, gac') := by
  unfold p_X13_readsDay_180
  rw [a5_1, a5_2, if_pos (ix_nI (by omega) (by decide)), bad_among hw, some_bind', if_pos (ix_nI (by omega) (by decide))]
  exact bad_204 hw g _ hj x
theorem bad_101 {gvm : TM} {gtt : TA} {w fp : Int32} (hw : w ≠ 0) (g : RDm) (gac : TAc) {j : Nat} (hj : j < 120) (x : Int32) : ∃ gac', p_X13_readsDay_101 gvm gtt (w, fp) g gac x (nI (5 * j)) = some ((w, fp), g, gac') := by
  unfold p_X13_readsDay_101
  rw [a5_1, a5_2, bad_among hw, some_bind', if_pos (ix_nI (by omega) (by decide))]
  by_cases h7 : x = 7
  · rw [if_pos h7, if_pos (ix_nI (by omega) (by decide)), bad_among hw, some_bind', if_pos (ix_nI (by omega) (by decide))]
    exact ⟨_, bad_259 hw _ _⟩
  · rw [if_neg h7]
    exact ⟨_, bad_259 hw _ _⟩
/-- the class reads a day from p to q -/
def DO (gtx : TA) (C : Nat → Nat) (n O p q k a b m ml s0 : Nat) : Prop := ∀ (gdr : TDr) (r : R5), ∃ gdr' r', p_X3_readDay gdr (rdC C n p r) gtx (nI O) = some (1, gdr', rdC C n q r') ∧ gdr'.1 = k ∧ gdr'.2.2.2.2 = gdr.2.2.2.2 ∧ r'.1 = r.1 ∧ r'.2.1 = r.2.1 ∧ (k ≠ 4 → gdr'.2.1 = nI a) ∧ (k = 2 ∨ k = 6 ∨ k = 7 → gdr'.2.2.1 = nI b) ∧ (k ≤ 3 → gdr'.2.2.2.1 = nI m) ∧ (k = 6 → r'.2.2.2.1 = nI ml ∧ r'.2.2.2.2 = nI s0)
/-- what a day's numbers are -/
def DF (C : Nat → Nat) (n O k a b m ml s0 : Nat) : Prop := k < 8 ∧ (k ≤ 3 ∨ k = 6 → a < O) ∧ (k = 2 ∨ k = 6 → b < O ∧ a ≠ b) ∧ (k = 5 ∨ k = 7 → a < 10) ∧ (k = 7 → b < 10 ∧ a ≠ b) ∧ (k ≤ 3 → m ≤ 20) ∧ (k = 6 → 1 ≤ ml ∧ ml ≤ 5 ∧ s0 + ml ≤ n ∧ ∀ i, i < ml → isL (C (s0 + i)) = true ∨ isD (C (s0 + i)) = true)
/-- the reference's record of day j -/
def AC (C : Nat → Nat) (gac : TAc) (j k a b m ml s0 : Nat) : Prop := gac.2.1 (5 * j) = nI k ∧ gac.2.1 (5 * j + 1) = nI a ∧ gac.2.1 (5 * j + 2) = nI b ∧ gac.2.1 (5 * j + 3) = nI m ∧ gac.2.1 (5 * j + 4) = nI ml ∧ (k = 6 → ∀ i, i < ml → gac.2.2 (5 * j + i) = nI (fg (C (s0 + i))))
def ROK (gvm : TM) (gtt : TA) (C : Nat → Nat) (n p q k a b m ml s0 : Nat) : Prop := ∀ (g : RDm) (fp : Int32) (gac : TAc) (j : Nat), RRd g C n p → gac.1 = nI j → j < 120 → ∃ g' gac', p_X13_readsDay gvm gtt (0, fp) g gac = some ((0, fp), g', gac') ∧ RRd g' C n q ∧ gac'.1 = nI (j + 1) ∧ AC C gac' j k a b m ml s0 ∧ ∀ i, i < 5 * j → gac'.2.1 i = gac.2.1 i ∧ gac'.2.2 i = gac.2.2 i
def DBad (gtx : TA) (C : Nat → Nat) (n O p : Nat) (w : Int32) (s : Nat) : Prop := ∀ (gdr : TDr) (r : R5), ∃ gdr' gr', p_X3_readDay gdr (rdC C n p r) gtx (nI O) = some (0, gdr', gr') ∧ Rfs gr' w s
def RBad (gvm : TM) (gtt : TA) (C : Nat → Nat) (n p : Nat) (w : Int32) (s : Nat) : Prop := ∀ (g : RDm) (fp : Int32) (gac : TAc) (j : Nat), RRd g C n p → gac.1 = nI j → j < 120 → ∃ g' gac', p_X13_readsDay gvm gtt (0, fp) g gac = some ((w, nI s), g', gac')
-- the class behind the kind
theorem c_rd {gtx gtt : TA} {C : Nat → Nat} {n p k O : Nat} (h : TX gtx gtt C n) (hp : p ≤ n) (hk : k < 8) (hw : isW C n p (7 + k)) (gdr : TDr) (r : R5) : p_X3_readDay gdr (rdC C n p r) gtx (nI O) = ((p_X3_readAllOf (k, gdr.2) (rdC C n (tE C n p) r) gtx (dq_owners.2.2.2.getD k 0) (nI O)).bind fun v7 => (if v7.1 = 0 then some (0, v7.2) else (if v7.2.1.1 < 8 then ((p_X3_readAllOf v7.2.1 v7.2.2 gtx (dq_doors.2.2.2.getD v7.2.1.1 0) 10).bind fun v11 => (if v11.1 = 0 then some (0, v11.2) else (if v11.2.1.1 < 8 then (if (dq_leastNumber.2.2.2.getD v11.2.1.1 0) = (-1 : Int32) then p_X3_readDay_72 gtx v11.2.1 v11.2.2 else ((p_X3_readAmount v11.2.1 v11.2.2 gtx).bind fun v16 => (if v16.1 = 0 then some (0, v16.2) else p_X3_readDay_72 gtx v16.2.1 v16.2.2))) else none))) else none))) := by
  have hkd : p_X3_readKind gdr (rdC C n p r) gtx = some (1, (k, gdr.2)) := by
    rcases c_kind h hp gdr r 8 0 fu (by omega) (fu_lt (by decide)) (fun i hi => by omega) with ⟨i, hi, hwi, e⟩ | ⟨hall, _⟩
    · have : 7 + i = 7 + k := isW_u (by omega) (by omega) hwi hw
      rw [show i = k by omega] at e; exact e
    · exact absurd hw (hall k hk)
  unfold p_X3_readDay
  rw [hkd, some_bind', if_neg n10, show p_X7_step (rdC C n p r) gtx = some (rdC C n (tE C n p) r) from c_next h hp r r, some_bind', if_pos hk]
theorem m_rd {gvm : TM} {gtx gtt : TA} {C : Nat → Nat} {n p k j : Nat} (h : TX gtx gtt C n) (hp : p ≤ n) (hk : k < 8) (hw : isW C n p (7 + k)) {g : RDm} (hg : RRd g C n p) (fp : Int32) {gac : TAc} (hj : gac.1 = nI j) (hj2 : j < 120) : ∃ g1, RRd g1 C n (tE C n p) ∧ p_X13_readsDay gvm gtt (0, fp) g gac = (if nI k = 5 then p_X13_readsDay_101 gvm gtt (0, fp) g1 (nI j, A0 gac.2.1 j (nI k), gac.2.2) (nI k) (nI (5 * j)) else (if nI k = 7 then p_X13_readsDay_101 gvm gtt (0, fp) g1 (nI j, A0 gac.2.1 j (nI k), gac.2.2) (nI k) (nI (5 * j)) else (if nI k = 4 then p_X13_readsDay_259 gvm gtt (0, fp) g1 (nI j, A0 gac.2.1 j (nI k), gac.2.2) else ((p_X13_among gtt (0, fp) g1 gvm.1 (-1)).bind fun v11 => (if nI k = 2 then p_X13_readsDay_180 gvm gtt v11.2.1 v11.2.2 (nI j, upd (A0 gac.2.1 j (nI k)) (5 * j + 1) v11.1, gac.2.2) (nI k) (nI (5 * j)) else (if nI k = 6 then p_X13_readsDay_180 gvm gtt v11.2.1 v11.2.2 (nI j, upd (A0 gac.2.1 j (nI k)) (5 * j + 1) v11.1, gac.2.2) (nI k) (nI (5 * j)) else p_X13_readsDay_204 gvm gtt v11.2.1 v11.2.2 (nI j, upd (A0 gac.2.1 j (nI k)) (5 * j + 1) v11.1, gac.2.2) (nI k) (nI (5 * j)))))))) := by
  obtain ⟨g1, s1, s2⟩ := m_next h hp hg
  refine ⟨g1, s2, ?_⟩
  have e : p_X13_readsDay gvm gtt (0, fp) g gac = p_X13_readsDay_37 gvm gtt (0, fp) g gac (nI k) 1 := by
    rcases m_kind (gvm := gvm) h hp hg (0, fp) gac 8 0 fu (-1) (by omega) (fu_lt (by decide)) (Or.inl ⟨rfl, fun i hi => by omega⟩) with ⟨i, hi, hwi, e⟩ | ⟨hall, _⟩
    · have : 7 + i = 7 + k := isW_u (by omega) (by omega) hwi hw
      rw [show i = k by omega] at e; exact e
    · exact absurd hw (hall k hk)
  have hn : p_X13_need gtt (0, fp) g 1 = some ((0, fp), g1) := by
    unfold p_X13_need
    rw [good0, some_bind', if_neg n10, if_neg n10, s1]; rfl
  rw [e, m_37 hj hj2, hn, some_bind']
-- the ends
theorem c_72 (gtx : TA) (gdr : TDr) (gr : RD) (hk : gdr.1 < 8) (h6 : gdr.1 ≠ 6) : p_X3_readDay_72 gtx gdr gr = p_X3_readDay_92 gtx gdr gr := by
  unfold p_X3_readDay_72
  rw [if_pos hk, if_pos]
  have h : ∀ k, k < 8 → k ≠ 6 → (dq_row.2.2.2.getD k 0) = 0 := by decide
  exact h _ hk h6
theorem q_dend {gvm : TM} {gtx gtt : TA} {C : Nat → Nat} {n q : Nat} (h : TX gtx gtt C n) (hq : q ≤ n) : (q < tE C n q ∧ tE C n q ≤ n ∧ (∀ gdr r, p_X3_readDay_92 gtx gdr (rdC C n q r) = some (1, gdr, rdC C n (tE C n q) r)) ∧ ∀ g fp gac, RRd g C n q → ∃ g', p_X13_readsDay_259 gvm gtt (0, fp) g gac = some ((0, fp), g', (gac.1 + 1, gac.2)) ∧ RRd g' C n (tE C n q)) ∨ ((∀ gdr r, ∃ gr', p_X3_readDay_92 gtx gdr (rdC C n q r) = some (0, gdr, gr') ∧ Rfs gr' 1 (tS C n q)) ∧ ∀ g fp gac, RRd g C n q → p_X13_readsDay_259 gvm gtt (0, fp) g gac = some ((1, nI (tS C n q)), g, gac)) := by
  have hb := tk_b C hq
  rcases q_stop h hq with ⟨hk, hlt, hc, hm⟩ | ⟨hc, hm⟩
  · left
    refine ⟨by omega, hb.2.2.1, fun gdr r => ?_, fun g fp gac hg => ?_⟩
    · unfold p_X3_readDay_92
      rw [hc r, some_bind', if_neg n10]
    · obtain ⟨h4, g', s1, s2⟩ := hm g fp hg
      refine ⟨g', ?_, s2⟩
      unfold p_X13_readsDay_259 p_X13_readsDay_273
      rw [if_pos h4, s1, some_bind', good0, some_bind', if_neg n10]
  · right
    refine ⟨fun gdr r => ?_, fun g fp gac hg => ?_⟩
    · obtain ⟨gr', a1, a2⟩ := hc r
      refine ⟨gr', ?_, a2⟩
      unfold p_X3_readDay_92
      rw [a1, some_bind', if_pos rfl]
    · obtain ⟨h4, s1⟩ := hm g fp hg
      unfold p_X13_readsDay_259 p_X13_readsDay_273
      rw [if_neg h4, s1, some_bind', bad_good (by decide), some_bind', if_pos rfl]
-- a day, kind by kind
def Rem (gtx : TA) (gdr : TDr) (gr : RD) : Option (Int32 × TDr × RD) := (if gdr.1 < 8 then ((p_X3_readAllOf gdr gr gtx (dq_doors.2.2.2.getD gdr.1 0) 10).bind fun v11 => (if v11.1 = 0 then some (0, v11.2) else (if v11.2.1.1 < 8 then (if (dq_leastNumber.2.2.2.getD v11.2.1.1 0) = (-1 : Int32) then p_X3_readDay_72 gtx v11.2.1 v11.2.2 else ((p_X3_readAmount v11.2.1 v11.2.2 gtx).bind fun v16 => (if v16.1 = 0 then some (0, v16.2) else p_X3_readDay_72 gtx v16.2.1 v16.2.2))) else none))) else none)
theorem c_rd' {gtx gtt : TA} {C : Nat → Nat} {n p k O : Nat} (h : TX gtx gtt C n) (hp : p ≤ n) (hk : k < 8) (hw : isW C n p (7 + k)) (gdr : TDr) (r : R5) : p_X3_readDay gdr (rdC C n p r) gtx (nI O) = ((p_X3_readAllOf (k, gdr.2) (rdC C n (tE C n p) r) gtx (dq_owners.2.2.2.getD k 0) (nI O)).bind fun v7 => (if v7.1 = 0 then some (0, v7.2) else Rem gtx v7.2.1 v7.2.2)) := c_rd h hp hk hw gdr r
def lo3 (k : Nat) : Nat := if k = 3 then 0 else 1
theorem lo3_q : ∀ k, k < 4 → dq_leastNumber.2.2.2.getD k 0 = nI (lo3 k) ∧ dq_doors.2.2.2.getD k 0 = 0 ∧ ¬ dq_leastNumber.2.2.2.getD k 0 = -1 := by decide
theorem q_amt {gvm : TM} {gtx gtt : TA} {C : Nat → Nat} {n q k : Nat} (h : TX gtx gtt C n) (hq : q ≤ n) (hk : k < 4) : (∃ q2 m, q < q2 ∧ q2 ≤ n ∧ m ≤ 20 ∧ (∀ (gdr : TDr) r, gdr.1 = k → Rem gtx gdr (rdC C n q r) = some (1, (gdr.1, gdr.2.1, gdr.2.2.1, nI m, gdr.2.2.2.2), rdC C n q2 (r.1, r.2.1, nI m, r.2.2.2))) ∧ ∀ g fp (gac : TAc) j, RRd g C n q → j < 120 → ∃ g', p_X13_readsDay_204 gvm gtt (0, fp) g gac (nI k) (nI (5 * j)) = some ((0, fp), g', (gac.1 + 1, upd gac.2.1 (5 * j + 3) (nI m), gac.2.2)) ∧ RRd g' C n q2) ∨ ∃ w s, w ≠ 0 ∧ (∀ (gdr : TDr) r, gdr.1 = k → ∃ gdr' gr', Rem gtx gdr (rdC C n q r) = some (0, gdr', gr') ∧ Rfs gr' w s) ∧ ∀ g fp (gac : TAc) j, RRd g C n q → j < 120 → ∃ g' gac', p_X13_readsDay_204 gvm gtt (0, fp) g gac (nI k) (nI (5 * j)) = some ((w, nI s), g', gac') := by
  have hb := tk_b C hq
  have hq3 := lo3_q k hk
  have hlo : lo3 k < 1000 := by unfold lo3; split <;> omega
  have hR : ∀ (gdr : TDr) r, gdr.1 = k → Rem gtx gdr (rdC C n q r) = ((p_X7_takeNumber (rdC C n q r) gtx (nI (lo3 k)) 20).bind fun v2 => (if v2.1 = 0 then some (0, (gdr, v2.2)) else p_X3_readDay_92 gtx (gdr.1, gdr.2.1, gdr.2.2.1, v2.2.2.2.2.2.2.2.1, gdr.2.2.2.2) v2.2)) := by
    intro gdr r hg
    unfold Rem p_X3_readAllOf p_X3_readAmount
    rw [hg, if_pos (by omega), hq3.2.1, if_pos rfl, some_bind', if_neg n10]
    simp only [hg]
    rw [if_pos (by omega), if_neg hq3.2.2, if_pos (by omega), hq3.1]
    cases ht : p_X7_takeNumber (rdC C n q r) gtx (nI (lo3 k)) 20 with
    | none => rfl
    | some v =>
      rw [some_bind', some_bind']
      by_cases hz : v.1 = 0
      · rw [if_pos hz, if_pos hz]; rfl
      · rw [if_neg hz, if_neg hz, some_bind', if_neg n10]
        exact c_72 gtx _ _ (show k < 8 by omega) (show k ≠ 6 by omega)
  have hM : ∀ g fp (gac : TAc) j, j < 120 → p_X13_readsDay_204 gvm gtt (0, fp) g gac (nI k) (nI (5 * j)) = ((p_X13_number gtt (0, fp) g (nI (lo3 k)) 20).bind fun v1 => p_X13_readsDay_259 gvm gtt v1.2.1 v1.2.2 (gac.1, upd gac.2.1 (5 * j + 3) v1.1, gac.2.2)) := by
    intro g fp gac j hj
    unfold p_X13_readsDay_204 p_X13_readsDay_253
    rw [if_neg (eq_f (c := 6) (by omega) (by omega) (by decide)), a5_3]
    simp only [if_pos (ix_nI (show 5 * j + 3 < 600 by omega) (show 600 < 2147483648 by decide)), cl_nI (show 5 * j + 3 < 2147483648 by omega)]
    unfold lo3
    by_cases e : k = 3
    · rw [if_pos (eq_t (c := 3) e), if_pos e]; rfl
    · rw [if_neg (eq_f (c := 3) e (by omega) (by decide)), if_neg e]; rfl
  rcases q_number h hq (lo := lo3 k) (hi := 20) hlo (by omega) with ⟨n1, n2, n3, hc, hm⟩ | ⟨w, hw, hc, hm⟩
  · have hq2 := hb.2.2.1
    rcases q_dend (gvm := gvm) h hq2 with ⟨d1, d2, dc, dm⟩ | ⟨dc, dm⟩
    · left
      refine ⟨tE C n (tE C n q), tV C n q, by omega, d2, n2, fun gdr r hg => ?_, fun g fp gac j hg hj => ?_⟩
      · rw [hR gdr r hg, show p_X7_takeNumber (rdC C n q r) gtx (nI (lo3 k)) 20 = _ from hc r, some_bind', if_neg n10]
        exact dc _ _
      · obtain ⟨g1, a1, a2⟩ := hm g fp hg
        have a1 : p_X13_number gtt (0, fp) g (nI (lo3 k)) 20 = _ := a1
        obtain ⟨g2, b1, b2⟩ := dm g1 fp (gac.1, upd gac.2.1 (5 * j + 3) (nI (tV C n q)), gac.2.2) a2
        refine ⟨g2, ?_, b2⟩
        rw [hM g fp gac j hj, a1, some_bind']
        exact b1
    · right
      refine ⟨1, tS C n (tE C n q), by decide, fun gdr r hg => ?_, fun g fp gac j hg hj => ?_⟩
      · rw [hR gdr r hg, show p_X7_takeNumber (rdC C n q r) gtx (nI (lo3 k)) 20 = _ from hc r, some_bind', if_neg n10]
        obtain ⟨gr', z1, z2⟩ := dc (gdr.1, gdr.2.1, gdr.2.2.1, nI (tV C n q), gdr.2.2.2.2) (r.1, r.2.1, nI (tV C n q), r.2.2.2)
        exact ⟨_, gr', z1, z2⟩
      · obtain ⟨g1, a1, a2⟩ := hm g fp hg
        have a1 : p_X13_number gtt (0, fp) g (nI (lo3 k)) 20 = _ := a1
        rw [hM g fp gac j hj, a1, some_bind']
        exact ⟨_, _, dm g1 fp _ a2⟩
  · right
    refine ⟨w, tS C n q, hw, fun gdr r hg => ?_, fun g fp gac j hg hj => ?_⟩
    · obtain ⟨gr', z1, z2⟩ := hc r
      rw [hR gdr r hg, show p_X7_takeNumber (rdC C n q r) gtx (nI (lo3 k)) 20 = _ from z1, some_bind', if_pos rfl]
      exact ⟨_, gr', rfl, z2⟩
    · obtain ⟨v, a1⟩ := hm g fp hg
      have a1 : p_X13_number gtt (0, fp) g (nI (lo3 k)) 20 = _ := a1
      rw [hM g fp gac j hj, a1, some_bind']
      exact ⟨_, _, bad_259 hw _ _⟩
def QD (gvm : TM) (gtx gtt : TA) (C : Nat → Nat) (n O p : Nat) : Prop := (∃ q k a b m ml s0, p + 5 ≤ q ∧ q ≤ n ∧ DO gtx C n O p q k a b m ml s0 ∧ DF C n O k a b m ml s0 ∧ ROK gvm gtt C n p q k a b m ml s0) ∨ ∃ w s, w ≠ 0 ∧ DBad gtx C n O p w s ∧ RBad gvm gtt C n p w s
theorem kw_len {C : Nat → Nat} {n p k : Nat} (hp : p ≤ n) (hk : k < 8) (hw : isW C n p (7 + k)) : p + 3 ≤ tE C n p ∧ (k = 4 → p + 6 ≤ tE C n p) := by
  have hb := tk_b C hp
  have h1 := (w_b (7 + k) (by omega)).1
  have h2 := hw.2.1
  refine ⟨by omega, fun e => ?_⟩
  subst e
  have : wl (7 + 4) = 6 := rfl
  omega
theorem q_day1 {gvm : TM} {gtx gtt : TA} {C : Nat → Nat} {n p k O : Nat} (h : TX gtx gtt C n) (hp : p ≤ n) (hO : O ≤ 5) (hv : gvm.1 = nI O) (hk : k = 0 ∨ k = 1 ∨ k = 3) (hw : isW C n p (7 + k)) : QD gvm gtx gtt C n O p := by
  have hb := tk_b C hp
  have hk8 : k < 8 := by omega
  have hl := (kw_len hp hk8 hw).1
  have hown : dq_owners.2.2.2.getD k 0 = 1 := by rcases hk with e | e | e <;> subst e <;> rfl
  have hp2 := hb.2.2.1
  have hb2 := tk_b C hp2
  have hM : ∀ (g : RDm) (fp : Int32) (gac : TAc) (j : Nat), RRd g C n p → gac.1 = nI j → j < 120 → ∃ g1, RRd g1 C n (tE C n p) ∧ p_X13_readsDay gvm gtt (0, fp) g gac = ((p_X13_among gtt (0, fp) g1 (nI O) (-1)).bind fun v11 => p_X13_readsDay_204 gvm gtt v11.2.1 v11.2.2 (nI j, upd (A0 gac.2.1 j (nI k)) (5 * j + 1) v11.1, gac.2.2) (nI k) (nI (5 * j))) := by
    intro g fp gac j hg hj hj2
    obtain ⟨g1, a1, a2⟩ := m_rd (gvm := gvm) h hp hk8 hw hg fp hj hj2
    refine ⟨g1, a1, ?_⟩
    rw [a2, if_neg (eq_f (c := 5) (by omega) (by omega) (by decide)), if_neg (eq_f (c := 7) (by omega) (by omega) (by decide)), if_neg (eq_f (c := 4) (by omega) (by omega) (by decide)), hv]
    simp only [if_neg (eq_f (c := 2) (d := k) (by omega) (by omega) (by decide)), if_neg (eq_f (c := 6) (d := k) (by omega) (by omega) (by decide))]
  have hC : ∀ gdr r, p_X3_readDay gdr (rdC C n p r) gtx (nI O) = ((p_X7_takeOneOf (rdC C n (tE C n p) r) gtx (nI O) (-1)).bind fun v2 => (if v2.1 = 0 then some (0, ((k, gdr.2), v2.2)) else Rem gtx (k, v2.2.2.2.2.2.2.2.1, gdr.2.2) v2.2)) := by
    intro gdr r
    rw [c_rd' h hp hk8 hw, hown]
    unfold p_X3_readAllOf
    rw [if_neg n10]
    cases ht : p_X7_takeOneOf (rdC C n (tE C n p) r) gtx (nI O) (-1) with
    | none => rfl
    | some v =>
      rw [some_bind', some_bind']
      by_cases hz : v.1 = 0
      · rw [if_pos hz, if_pos hz]; rfl
      · rw [if_neg hz, if_neg hz, if_pos rfl]; rfl
  rcases q_among h hp2 (many := O) (-1) (by omega) with ⟨a1, a2, a3, ac, am⟩ | ⟨w, hw0, ac, am⟩
  · rcases q_amt (gvm := gvm) (k := k) h hb2.2.2.1 (by omega) with ⟨q2, m, q3, q4, m20, qc, qm⟩ | ⟨w, s, hw0, qc, qm⟩
    · left
      refine ⟨q2, k, tV C n (tE C n p), 0, m, 0, 0, by omega, q4, fun gdr r => ?_, ⟨hk8, fun _ => a1, fun e => by omega, fun e => by omega, fun e => by omega, fun _ => m20, fun e => by omega⟩, fun g fp gac j hg hj hj2 => ?_⟩
      · rw [hC, ac r, some_bind', if_neg n10, qc _ _ rfl]
        exact ⟨_, _, rfl, rfl, rfl, rfl, rfl, fun _ => rfl, fun e => by omega, fun _ => rfl, fun e => by omega⟩
      · obtain ⟨g1, x1, x2⟩ := hM g fp gac j hg hj hj2
        obtain ⟨g2, y1, y2⟩ := am g1 fp x1
        obtain ⟨g3, z1, z2⟩ := qm g2 fp (nI j, upd (A0 gac.2.1 j (nI k)) (5 * j + 1) (nI (tV C n (tE C n p))), gac.2.2) j y2 hj2
        have hA := A0_r gac.2.1 j (nI k)
        rw [x2, y1, some_bind', z1]
        refine ⟨_, _, rfl, z2, nI_1 _, ⟨?_, ?_, ?_, ?_, ?_, fun e => by omega⟩, fun i hi => ⟨?_, rfl⟩⟩
        · exact (pk_un (by omega)).trans ((pk_un (by omega)).trans hA.1)
        · exact (pk_un (by omega)).trans pk_us
        · exact (pk_un (by omega)).trans ((pk_un (by omega)).trans hA.2.2.1)
        · exact pk_us
        · exact (pk_un (by omega)).trans ((pk_un (by omega)).trans hA.2.2.2.2.1)
        · exact (pk_un (by omega)).trans ((pk_un (by omega)).trans (hA.2.2.2.2.2 i hi))
    · right
      refine ⟨w, s, hw0, fun gdr r => ?_, fun g fp gac j hg hj hj2 => ?_⟩
      · rw [hC, ac r, some_bind', if_neg n10]
        exact qc _ _ rfl
      · obtain ⟨g1, x1, x2⟩ := hM g fp gac j hg hj hj2
        obtain ⟨g2, y1, y2⟩ := am g1 fp x1
        rw [x2, y1, some_bind']
        exact qm g2 fp _ j y2 hj2
  · right
    refine ⟨w, tS C n (tE C n p), hw0, fun gdr r => ?_, fun g fp gac j hg hj hj2 => ?_⟩
    · obtain ⟨gr', z1, z2⟩ := ac r
      rw [hC, z1, some_bind', if_pos rfl]
      exact ⟨_, gr', rfl, z2⟩
    · obtain ⟨g1, x1, x2⟩ := hM g fp gac j hg hj hj2
      obtain ⟨v, y1⟩ := am g1 fp x1
      rw [x2, y1, some_bind']
      obtain ⟨gac', b1⟩ := bad_204 (gvm := gvm) (gtt := gtt) (fp := nI (tS C n (tE C n p))) hw0 g1 (nI j, upd (A0 gac.2.1 j (nI k)) (5 * j + 1) v, gac.2.2) hj2 (nI k)
      exact ⟨_, _, b1⟩
