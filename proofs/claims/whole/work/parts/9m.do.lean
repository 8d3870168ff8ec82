-- doing days
def DS (gv : TV) (gd : TD) (gvm : TM) (V : MV) (D : MD) : Prop := VC gv V ∧ DC gd D ∧ VM gvm V ∧ DM gvm D ∧ OV V ∧ OD (vO V) D
def Sm3 (gvm gvm' : TM) : Prop := gvm'.1 = gvm.1 ∧ gvm'.2.1 = gvm.2.1 ∧ gvm'.2.2.2.2.1 = gvm.2.2.2.2.1
def up1 (f : Nat → Nat) (a x : Nat) : Nat → Nat := fun i => if i = a then x else f i
theorem up1_s (f : Nat → Nat) (a x : Nat) : up1 f a x a = x := if_pos rfl
theorem up1_n (f : Nat → Nat) {a i : Nat} (x : Nat) (h : i ≠ a) : up1 f a x i = f i := if_neg h
theorem sN_up1 (f : Nat → Nat) {a : Nat} (x : Nat) : ∀ O, sN (up1 f a x) O + (if a < O then f a else 0) = sN f O + (if a < O then x else 0) := by
  intro O
  induction O with
  | zero => rfl
  | succ O ih =>
    simp only [sN]
    by_cases e : O = a
    · subst e
      rw [if_neg (by omega), if_neg (by omega)] at ih
      rw [up1_s, if_pos (by omega), if_pos (by omega)]; omega
    · rw [up1_n f x e]
      by_cases c : a < O
      · rw [if_pos c, if_pos c] at ih
        rw [if_pos (by omega), if_pos (by omega)]; omega
      · rw [if_neg c, if_neg c] at ih
        rw [if_neg (by omega), if_neg (by omega)]; omega
theorem m_free_loop {gvm : TM} {D : MD} (h : DM gvm D) : ∀ k j m : Nat, j + k = 10 → k < m → p_X13_freeDoor_2 gvm m (nI j) = some (match fr D k j with | none => -1 | some f => nI f) := by
  intro k
  induction k with
  | zero =>
    intro j m hj hm
    obtain ⟨m, rfl⟩ : ∃ a, m = a + 1 := ⟨m - 1, by omega⟩
    unfold p_X13_freeDoor_2
    rw [if_pos (le_t (c := 10) (by omega) (by omega))]; rfl
  | succ k ih =>
    intro j m hj hm
    obtain ⟨m, rfl⟩ : ∃ a, m = a + 1 := ⟨m - 1, by omega⟩
    unfold p_X13_freeDoor_2
    rw [if_neg (le_f (c := 10) (by omega) (by decide)), if_pos (ix_nI (by omega) (by decide)), cl_nI (by omega), (h.2 j (by omega)).1, nI_1]
    by_cases hh : dH D j = true
    · rw [if_neg (fun c => by rw [(has0 _).1 c] at hh; exact absurd hh (by decide)), ih (j + 1) m (by omega) (by omega), show fr D (k + 1) j = fr D k (j + 1) from if_pos hh]
    · rw [if_pos ((has0 _).2 (by simpa using hh)), show fr D (k + 1) j = some j from if_neg hh]
theorem m_free {gvm : TM} {D : MD} (h : DM gvm D) : ∃ v, p_X13_freeDoor gvm = some v ∧ (fr D 10 0 = none → v = -1) ∧ ∀ f, fr D 10 0 = some f → v = nI f := by
  refine ⟨_, m_free_loop h 10 0 fu (by omega) (fu_lt (by decide)), fun e => by rw [e], fun f e => by rw [e]⟩
/-- the reference's day, its record read -/
theorem m_does {gvm : TM} {gac : TAc} {C : Nat → Nat} {j k a b m ml s0 : Nat} {v4 : Int32} (hj : j < 120) (hA : AC C gac j k a b m ml s0) (hf : p_X13_freeDoor gvm = some v4) (hk : k < 8) : p_X13_does gvm gac (nI j) = (if nI k = 0 then ((p_X13_all gvm).bind fun v8 => (if v8 + nI m ≤ 40 then (if ix (nI a) 5 then (if ix (nI a) 5 then some (1, (gvm.1, gvm.2.1, gvm.2.2.1, upd gvm.2.2.2.1 (nI a).toNatClampNeg (gvm.2.2.2.1 (nI a).toNatClampNeg + nI m), gvm.2.2.2.2)) else none) else none) else some (0, gvm))) else (if nI k = 1 then (if ix (nI a) 5 then ((p_X13_lentBy gvm (nI a)).bind fun v15 => (if ix (nI a) 5 then (if nI m ≤ ((gvm.2.2.2.1 (nI a).toNatClampNeg - v15) - gvm.2.2.2.2.2.1 (nI a).toNatClampNeg) then (if ix (nI a) 5 then (if ix (nI a) 5 then some (1, (gvm.1, gvm.2.1, gvm.2.2.1, upd gvm.2.2.2.1 (nI a).toNatClampNeg (gvm.2.2.2.1 (nI a).toNatClampNeg - nI m), gvm.2.2.2.2)) else none) else none) else some (0, gvm)) else none)) else none) else (if nI k = 2 then (if ix (nI a) 5 then ((p_X13_lentBy gvm (nI a)).bind fun v23 => (if ix (nI a) 5 then (if nI m ≤ ((gvm.2.2.2.1 (nI a).toNatClampNeg - v23) - gvm.2.2.2.2.2.1 (nI a).toNatClampNeg) then (if ix (5 * nI a + nI b) 25 then (if ix (5 * nI a + nI b) 25 then some (1, (gvm.1, gvm.2.1, gvm.2.2.1, gvm.2.2.2.1, gvm.2.2.2.2.1, gvm.2.2.2.2.2.1, upd gvm.2.2.2.2.2.2.1 (5 * nI a + nI b).toNatClampNeg (gvm.2.2.2.2.2.2.1 (5 * nI a + nI b).toNatClampNeg + nI m), gvm.2.2.2.2.2.2.2)) else none) else none) else some (0, gvm)) else none)) else none) else (if nI k = 3 then (if ix (nI a) 5 then (if gvm.2.2.2.2.1 (nI a).toNatClampNeg < nI m then some (0, gvm) else (if ix (nI a) 5 then ((p_X13_lentBy gvm (nI a)).bind fun v33 => (if nI m ≤ (gvm.2.2.2.1 (nI a).toNatClampNeg - v33) then (if ix (nI a) 5 then some (1, (gvm.1, gvm.2.1, gvm.2.2.1, gvm.2.2.2.1, gvm.2.2.2.2.1, upd gvm.2.2.2.2.2.1 (nI a).toNatClampNeg (nI m), gvm.2.2.2.2.2.2)) else none) else some (0, gvm))) else none)) else none) else (if nI k = 4 then ((p_X13_all gvm).bind fun v38 => p_X13_does_249 gac fu (gvm.1, gvm.2.1, v38, gvm.2.2.2) 0) else (if nI k = 5 then (if ix (nI a) 10 then (if gvm.2.2.2.2.2.2.2.1 (nI a).toNatClampNeg = 0 then some (0, gvm) else (if ix (nI a) 10 then some (1, (gvm.1, gvm.2.1, gvm.2.2.1, gvm.2.2.2.1, gvm.2.2.2.2.1, gvm.2.2.2.2.2.1, gvm.2.2.2.2.2.2.1, upd gvm.2.2.2.2.2.2.2.1 (nI a).toNatClampNeg 0, gvm.2.2.2.2.2.2.2.2)) else none)) else none) else (if nI k = 6 then (if v4 = -1 then some (0, gvm) else (if ix v4 10 then p_X13_does_357 gac fu (gvm.1, gvm.2.1, gvm.2.2.1, gvm.2.2.2.1, gvm.2.2.2.2.1, gvm.2.2.2.2.2.1, gvm.2.2.2.2.2.2.1, upd gvm.2.2.2.2.2.2.2.1 v4.toNatClampNeg 1, upd gvm.2.2.2.2.2.2.2.2.1 v4.toNatClampNeg (nI a), upd gvm.2.2.2.2.2.2.2.2.2.1 v4.toNatClampNeg (nI b), upd gvm.2.2.2.2.2.2.2.2.2.2.1 v4.toNatClampNeg (nI ml), gvm.2.2.2.2.2.2.2.2.2.2.2) (nI j) v4 0 else none)) else ((p_X13_isSwap gvm (nI a) (nI b)).bind fun v51 => (if v51 = 0 then some (0, gvm) else (if ix (nI a) 10 then (if ix (nI b) 10 then some (1, (gvm.1, gvm.2.1, gvm.2.2.1, gvm.2.2.2.1, gvm.2.2.2.2.1, gvm.2.2.2.2.2.1, gvm.2.2.2.2.2.2.1, gvm.2.2.2.2.2.2.2.1, gvm.2.2.2.2.2.2.2.2.1, upd (upd gvm.2.2.2.2.2.2.2.2.2.1 (nI a).toNatClampNeg (gvm.2.2.2.2.2.2.2.2.2.1 (nI b).toNatClampNeg)) (nI b).toNatClampNeg (gvm.2.2.2.2.2.2.2.2.2.1 (nI a).toNatClampNeg), gvm.2.2.2.2.2.2.2.2.2.2)) else none) else none)))))))))) := by
  unfold p_X13_does
  rw [hf, some_bind']
  simp only [at5, a5_1, a5_2, a5_3, a5_4, if_pos (ix_nI (show 5 * j < 600 by omega) (show 600 < 2147483648 by decide)), if_pos (ix_nI (show 5 * j + 1 < 600 by omega) (show 600 < 2147483648 by decide)), if_pos (ix_nI (show 5 * j + 2 < 600 by omega) (show 600 < 2147483648 by decide)), if_pos (ix_nI (show 5 * j + 3 < 600 by omega) (show 600 < 2147483648 by decide)), if_pos (ix_nI (show 5 * j + 4 < 600 by omega) (show 600 < 2147483648 by decide)), cl_nI (show 5 * j < 2147483648 by omega), cl_nI (show 5 * j + 1 < 2147483648 by omega), cl_nI (show 5 * j + 2 < 2147483648 by omega), cl_nI (show 5 * j + 3 < 2147483648 by omega), cl_nI (show 5 * j + 4 < 2147483648 by omega), hA.1, hA.2.1, hA.2.2.1, hA.2.2.2.1, hA.2.2.2.2.1]
  by_cases h10 : ix v4 10
  · simp only [if_pos h10]
    by_cases ha : ix (nI a) 10
    · by_cases hb : ix (nI b) 10
      · simp only [if_pos ha, if_pos hb]
      · simp only [if_pos ha, if_neg hb]
    · simp only [if_neg ha]
  · simp only [if_neg h10]
    by_cases ha : ix (nI a) 10
    · by_cases hb : ix (nI b) 10
      · simp only [if_pos ha, if_pos hb]
      · simp only [if_pos ha, if_neg hb]
    · simp only [if_neg ha]
theorem c_atHand {gv : TV} {V : MV} (h : VC gv V) (ho : OV V) {a : Nat} (ha : a < vO V) : p_X9_atHand gv (nI a) = some (nI (vG V a - sN (vL V a) 5 - vH V a)) := by
  have h5 := ho.1
  have hs := (ho.2.2.2 a ha).2
  unfold p_X9_atHand
  rw [c_goatsOf h ho (by omega), some_bind', c_lentBy h ho (by omega), some_bind', c_hiddenBy h ho (by omega), some_bind', if_pos ha, if_pos ha, if_pos ha, pk_sub (by omega), pk_sub (by omega)]
def QDo (gv : TV) (gd : TD) (gvm : TM) (cl : Option (Int32 × TV × TD)) (rf : Option (Int32 × TM)) : Prop := (∃ V' D' gv' gd' gvm', cl = some (1, gv', gd') ∧ rf = some (1, gvm') ∧ DS gv' gd' gvm' V' D' ∧ Sm3 gvm gvm') ∨ (cl = some (0, gv, gd) ∧ rf = some (0, gvm))
theorem q_bear {gv : TV} {gd : TD} {gvm : TM} {V : MV} {D : MD} (h : DS gv gd gvm V D) {a m : Nat} (ha : a < vO V) (hm : m ≤ 20) : QDo gv gd gvm ((p_X9_bear gv (nI a) (nI m)).bind fun v4 => (if isZ v4.1 then some (v4.1, (v4.2, gd)) else none)) ((p_X13_all gvm).bind fun v8 => (if v8 + nI m ≤ 40 then (if ix (nI a) 5 then (if ix (nI a) 5 then some (1, (gvm.1, gvm.2.1, gvm.2.2.1, upd gvm.2.2.2.1 (nI a).toNatClampNeg (gvm.2.2.2.1 (nI a).toNatClampNeg + nI m), gvm.2.2.2.2)) else none) else none) else some (0, gvm))) := by
  obtain ⟨h1, h2, h3, h4, h5, h6⟩ := h
  have o5 := h5.1
  have o40 := h5.2.2.1
  unfold p_X9_bear
  rw [c_hasOwner h1 h5 (by omega), some_bind', if_pos ha, if_neg n10, c_allGoats h1 h5, some_bind', m_all h3 h5, some_bind', nI_add]
  have hix : ix (nI a) 5 := ix_nI (by omega) (by decide)
  by_cases hc : sN (vG V) (vO V) + m ≤ 40
  · left
    have hs := sN_up1 (vG V) (a := a) (vG V a + m) (vO V)
    rw [if_pos ha, if_pos ha] at hs
    rw [if_pos (ler_t (c := 40) hc (by decide)), if_pos (ler_t (c := 40) hc (by decide)), if_pos hix, if_pos hix, if_pos hix, if_pos hix, some_bind', if_pos isZ1, cl_nI (by omega), (h1.2.2 a ha).1, (h3.2.2.1 a ha).1, nI_add]
    refine ⟨(vO V, vB V, up1 (vG V) a (vG V a + m), V.2.2.2), D, _, _, _, rfl, rfl, ⟨⟨h1.1, h1.2.1, fun i hi => ?_⟩, h2, ⟨h3.1, h3.2.1, fun i hi => ?_, h3.2.2.2⟩, h4, ⟨o5, h5.2.1, ?_, fun i hi => ?_⟩, h6⟩, rfl, rfl, rfl⟩
    · show upd gv.2.2.1 a (nI (vG V a + m)) i = nI (up1 (vG V) a (vG V a + m) i) ∧ _
      refine ⟨?_, (h1.2.2 i hi).2⟩
      by_cases e : i = a
      · subst e; rw [pk_us, up1_s]
      · rw [pk_un e, up1_n _ _ e]; exact (h1.2.2 i hi).1
    · show upd gvm.2.2.2.1 a (nI (vG V a + m)) i = nI (up1 (vG V) a (vG V a + m) i) ∧ _
      refine ⟨?_, (h3.2.2.1 i hi).2⟩
      by_cases e : i = a
      · subst e; rw [pk_us, up1_s]
      · rw [pk_un e, up1_n _ _ e]; exact (h3.2.2.1 i hi).1
    · show sN (up1 (vG V) a (vG V a + m)) (vO V) ≤ 40; omega
    · show vC V i ≤ 5 ∧ sN (vL V i) 5 + vH V i ≤ up1 (vG V) a (vG V a + m) i
      have q := h5.2.2.2 i hi
      refine ⟨q.1, ?_⟩
      by_cases e : i = a
      · subst e; rw [up1_s]; omega
      · rw [up1_n _ _ e]; exact q.2
  · right
    rw [if_neg (ler_f (c := 40) (by omega) (by omega)), if_neg (ler_f (c := 40) (by omega) (by omega))]
    exact ⟨rfl, rfl⟩
theorem q_eat {gv : TV} {gd : TD} {gvm : TM} {V : MV} {D : MD} (h : DS gv gd gvm V D) {a m : Nat} (ha : a < vO V) (hm : m ≤ 20) : QDo gv gd gvm ((p_X9_eat gv (nI a) (nI m)).bind fun v4 => (if isZ v4.1 then some (v4.1, (v4.2, gd)) else none)) (if ix (nI a) 5 then ((p_X13_lentBy gvm (nI a)).bind fun v15 => (if ix (nI a) 5 then (if nI m ≤ ((gvm.2.2.2.1 (nI a).toNatClampNeg - v15) - gvm.2.2.2.2.2.1 (nI a).toNatClampNeg) then (if ix (nI a) 5 then (if ix (nI a) 5 then some (1, (gvm.1, gvm.2.1, gvm.2.2.1, upd gvm.2.2.2.1 (nI a).toNatClampNeg (gvm.2.2.2.1 (nI a).toNatClampNeg - nI m), gvm.2.2.2.2)) else none) else none) else some (0, gvm)) else none)) else none) := by
  obtain ⟨h1, h2, h3, h4, h5, h6⟩ := h
  have o5 := h5.1
  have o40 := h5.2.2.1
  have og := OV_g h5 ha
  have os := (h5.2.2.2 a ha).2
  unfold p_X9_eat
  have hix : ix (nI a) 5 := ix_nI (by omega) (by decide)
  rw [c_hasOwner h1 h5 (by omega), some_bind', if_pos ha, if_neg n10, c_atHand h1 h5 ha, some_bind', if_pos hix, if_pos hix, if_pos hix, m_lentBy h3 (by omega), some_bind', if_pos hix, if_pos hix, if_pos hix, cl_nI (by omega), (h1.2.2 a ha).1, (h3.2.2.1 a ha).1, (h3.2.2.1 a ha).2.2, pk_sub (show sN (vL V a) 5 ≤ vG V a by omega), pk_sub (show vH V a ≤ vG V a - sN (vL V a) 5 by omega)]
  by_cases hc : m ≤ vG V a - sN (vL V a) 5 - vH V a
  · left
    have hs := sN_up1 (vG V) (a := a) (vG V a - m) (vO V)
    rw [if_pos ha, if_pos ha] at hs
    rw [if_pos (nI_le hc (by omega)), if_pos (nI_le hc (by omega)), some_bind', if_pos isZ1, pk_sub (by omega)]
    refine ⟨(vO V, vB V, up1 (vG V) a (vG V a - m), V.2.2.2), D, _, _, _, rfl, rfl, ⟨⟨h1.1, h1.2.1, fun i hi => ?_⟩, h2, ⟨h3.1, h3.2.1, fun i hi => ?_, h3.2.2.2⟩, h4, ⟨o5, h5.2.1, ?_, fun i hi => ?_⟩, h6⟩, rfl, rfl, rfl⟩
    · show upd gv.2.2.1 a (nI (vG V a - m)) i = nI (up1 (vG V) a (vG V a - m) i) ∧ _
      refine ⟨?_, (h1.2.2 i hi).2⟩
      by_cases e : i = a
      · subst e; rw [pk_us, up1_s]
      · rw [pk_un e, up1_n _ _ e]; exact (h1.2.2 i hi).1
    · show upd gvm.2.2.2.1 a (nI (vG V a - m)) i = nI (up1 (vG V) a (vG V a - m) i) ∧ _
      refine ⟨?_, (h3.2.2.1 i hi).2⟩
      by_cases e : i = a
      · subst e; rw [pk_us, up1_s]
      · rw [pk_un e, up1_n _ _ e]; exact (h3.2.2.1 i hi).1
    · show sN (up1 (vG V) a (vG V a - m)) (vO V) ≤ 40; omega
    · show vC V i ≤ 5 ∧ sN (vL V i) 5 + vH V i ≤ up1 (vG V) a (vG V a - m) i
      have q := h5.2.2.2 i hi
      refine ⟨q.1, ?_⟩
      by_cases e : i = a
      · subst e; rw [up1_s]; omega
      · rw [up1_n _ _ e]; exact q.2
  · right
    rw [if_neg (nI_ge (by omega) (by omega)), if_neg (nI_ge (by omega) (by omega))]
    exact ⟨rfl, rfl⟩
theorem q_lend {gv : TV} {gd : TD} {gvm : TM} {V : MV} {D : MD} (h : DS gv gd gvm V D) {a b m : Nat} (ha : a < vO V) (hb : b < vO V) (hm : m ≤ 20) : QDo gv gd gvm ((p_X9_lend gv (nI a) (nI b) (nI m)).bind fun v4 => (if isZ v4.1 then some (v4.1, (v4.2, gd)) else none)) (if ix (nI a) 5 then ((p_X13_lentBy gvm (nI a)).bind fun v23 => (if ix (nI a) 5 then (if nI m ≤ ((gvm.2.2.2.1 (nI a).toNatClampNeg - v23) - gvm.2.2.2.2.2.1 (nI a).toNatClampNeg) then (if ix (5 * nI a + nI b) 25 then (if ix (5 * nI a + nI b) 25 then some (1, (gvm.1, gvm.2.1, gvm.2.2.1, gvm.2.2.2.1, gvm.2.2.2.2.1, gvm.2.2.2.2.2.1, upd gvm.2.2.2.2.2.2.1 (5 * nI a + nI b).toNatClampNeg (gvm.2.2.2.2.2.2.1 (5 * nI a + nI b).toNatClampNeg + nI m), gvm.2.2.2.2.2.2.2)) else none) else none) else some (0, gvm)) else none)) else none) := by
  obtain ⟨h1, h2, h3, h4, h5, h6⟩ := h
  have o5 := h5.1
  have o40 := h5.2.2.1
  have og := OV_g h5 ha
  have os := (h5.2.2.2 a ha).2
  unfold p_X9_lend
  have hix : ix (nI a) 5 := ix_nI (by omega) (by decide)
  have hixb : ix (nI b) 5 := ix_nI (by omega) (by decide)
  rw [c_hasOwner h1 h5 (by omega), some_bind', if_pos ha, if_neg n10, c_hasOwner h1 h5 (by omega), some_bind', if_pos hb, if_neg n10, c_atHand h1 h5 ha, some_bind', if_pos hix, if_pos hix, if_pos hixb, if_pos hixb, if_pos hix, m_lentBy h3 (by omega), some_bind', if_pos hix, fig_at', if_pos (ix_nI (by omega) (by decide)), if_pos (ix_nI (by omega) (by decide)), cl_nI (show a < 2147483648 by omega), cl_nI (show b < 2147483648 by omega), cl_nI (show 5 * a + b < 2147483648 by omega), (h1.2.2 a ha).2.2.2.1, (h1.2.2 b hb).2.2.2.2, (h3.2.2.1 a ha).1, (h3.2.2.1 a ha).2.2, pk_sub (show sN (vL V a) 5 ≤ vG V a by omega), pk_sub (show vH V a ≤ vG V a - sN (vL V a) 5 by omega), h3.2.2.2 a b (by omega) (by omega)]
  by_cases hc : m ≤ vG V a - sN (vL V a) 5 - vH V a
  · left
    obtain ⟨L, hL⟩ : ∃ L : Nat → Nat → Nat, L = fun i => if i = a then up1 (vL V a) b (vL V a b + m) else vL V i := ⟨_, rfl⟩
    have La : L a = up1 (vL V a) b (vL V a b + m) := by rw [hL]; exact if_pos rfl
    have Li : ∀ i, i ≠ a → L i = vL V i := fun i hi => by rw [hL]; exact if_neg hi
    have s1 := sN_up1 (vL V a) (a := b) (vL V a b + m) 5
    rw [if_pos (by omega), if_pos (by omega)] at s1
    have c1 : (fun k => L k b) = up1 (fun k => vL V k b) a (vL V a b + m) := by
      funext k
      by_cases e : k = a
      · subst e; rw [La, up1_s, up1_s]
      · rw [Li k e, up1_n _ _ e]
    have s2 := sN_up1 (fun k => vL V k b) (a := a) (vL V a b + m) 5
    rw [if_pos (by omega), if_pos (by omega)] at s2
    have c2 : ∀ i, i ≠ b → ∀ k, L k i = vL V k i := fun i hi k => by
      by_cases e : k = a
      · subst e; rw [La, up1_n _ _ hi]
      · rw [Li k e]
    rw [if_pos (nI_le hc (by omega)), if_pos (nI_le hc (by omega)), some_bind', if_pos isZ1, nI_add, nI_add, nI_add]
    refine ⟨(vO V, vB V, vG V, vC V, vH V, L), D, _, _, _, rfl, rfl, ⟨⟨h1.1, h1.2.1, fun i hi => ?_⟩, h2, ⟨h3.1, h3.2.1, h3.2.2.1, fun i k hi hk => ?_⟩, h4, ⟨o5, h5.2.1, o40, fun i hi => ?_⟩, h6⟩, rfl, rfl, rfl⟩
    · have q := h1.2.2 i hi
      refine ⟨q.1, q.2.1, q.2.2.1, ?_, ?_⟩
      · show upd gv.2.2.2.2.2.1 a (nI (sN (vL V a) 5 + m)) i = nI (sN (L i) 5)
        by_cases e : i = a
        · subst e; rw [pk_us, La]; congr 1; omega
        · rw [pk_un e, Li i e]; exact q.2.2.2.1
      · show upd gv.2.2.2.2.2.2 b (nI (sN (fun k => vL V k b) 5 + m)) i = nI (sN (fun k => L k i) 5)
        by_cases e : i = b
        · subst e; rw [pk_us, c1]; congr 1; omega
        · rw [pk_un e, q.2.2.2.2, show (fun k => L k i) = fun k => vL V k i from funext (c2 i e)]
    · show upd gvm.2.2.2.2.2.2.1 (5 * a + b) (nI (vL V a b + m)) (5 * i + k) = nI (L i k)
      by_cases e : i = a
      · subst e
        rw [La]
        by_cases e2 : k = b
        · subst e2; rw [pk_us, up1_s]
        · rw [pk_un (by omega), up1_n _ _ e2]; exact h3.2.2.2 i k hi hk
      · rw [pk_un (by omega), Li i e]; exact h3.2.2.2 i k hi hk
    · show vC V i ≤ 5 ∧ sN (L i) 5 + vH V i ≤ vG V i
      have q := h5.2.2.2 i hi
      refine ⟨q.1, ?_⟩
      by_cases e : i = a
      · subst e; rw [La]; omega
      · rw [Li i e]; exact q.2
  · right
    rw [if_neg (nI_ge (by omega) (by omega)), if_neg (nI_ge (by omega) (by omega))]
    exact ⟨rfl, rfl⟩
theorem q_hide {gv : TV} {gd : TD} {gvm : TM} {V : MV} {D : MD} (h : DS gv gd gvm V D) {a m : Nat} (ha : a < vO V) (hm : m ≤ 20) : QDo gv gd gvm ((p_X9_hide gv (nI a) (nI m)).bind fun v4 => (if isZ v4.1 then some (v4.1, (v4.2, gd)) else none)) (if ix (nI a) 5 then (if gvm.2.2.2.2.1 (nI a).toNatClampNeg < nI m then some (0, gvm) else (if ix (nI a) 5 then ((p_X13_lentBy gvm (nI a)).bind fun v33 => (if nI m ≤ (gvm.2.2.2.1 (nI a).toNatClampNeg - v33) then (if ix (nI a) 5 then some (1, (gvm.1, gvm.2.1, gvm.2.2.1, gvm.2.2.2.1, gvm.2.2.2.2.1, upd gvm.2.2.2.2.2.1 (nI a).toNatClampNeg (nI m), gvm.2.2.2.2.2.2)) else none) else some (0, gvm))) else none)) else none) := by
  obtain ⟨h1, h2, h3, h4, h5, h6⟩ := h
  have o5 := h5.1
  have og := OV_g h5 ha
  have os := (h5.2.2.2 a ha).2
  have oc := (h5.2.2.2 a ha).1
  unfold p_X9_hide
  have hix : ix (nI a) 5 := ix_nI (by omega) (by decide)
  rw [c_hasOwner h1 h5 (by omega), some_bind', if_pos ha, if_neg n10, if_pos hix, if_pos hix, if_pos hix, if_pos hix, if_pos hix, if_pos hix, if_pos hix, m_lentBy h3 (by omega), some_bind', cl_nI (by omega), (h1.2.2 a ha).2.1, (h1.2.2 a ha).1, (h1.2.2 a ha).2.2.2.1, (h3.2.2.1 a ha).1, (h3.2.2.1 a ha).2.1, pk_sub (show sN (vL V a) 5 ≤ vG V a by omega)]
  by_cases hc : vC V a < m
  · right
    rw [if_pos (nI_lt hc (by omega)), if_pos (nI_lt hc (by omega))]
    exact ⟨rfl, rfl⟩
  · rw [if_neg (nI_nlt (by omega) (by omega)), if_neg (nI_nlt (by omega) (by omega))]
    by_cases hd : m ≤ vG V a - sN (vL V a) 5
    · left
      rw [if_pos (nI_le hd (by omega)), if_pos (nI_le hd (by omega)), some_bind', if_pos isZ1]
      refine ⟨(vO V, vB V, vG V, vC V, up1 (vH V) a m, vL V), D, _, _, _, rfl, rfl, ⟨⟨h1.1, h1.2.1, fun i hi => ?_⟩, h2, ⟨h3.1, h3.2.1, fun i hi => ?_, h3.2.2.2⟩, h4, ⟨o5, h5.2.1, h5.2.2.1, fun i hi => ?_⟩, h6⟩, rfl, rfl, rfl⟩
      · have q := h1.2.2 i hi
        refine ⟨q.1, q.2.1, ?_, q.2.2.2⟩
        show upd gv.2.2.2.2.1 a (nI m) i = nI (up1 (vH V) a m i)
        by_cases e : i = a
        · subst e; rw [pk_us, up1_s]
        · rw [pk_un e, up1_n _ _ e]; exact q.2.2.1
      · have q := h3.2.2.1 i hi
        refine ⟨q.1, q.2.1, ?_⟩
        show upd gvm.2.2.2.2.2.1 a (nI m) i = nI (up1 (vH V) a m i)
        by_cases e : i = a
        · subst e; rw [pk_us, up1_s]
        · rw [pk_un e, up1_n _ _ e]; exact q.2.2
      · show vC V i ≤ 5 ∧ sN (vL V i) 5 + up1 (vH V) a m i ≤ vG V i
        have q := h5.2.2.2 i hi
        refine ⟨q.1, ?_⟩
        by_cases e : i = a
        · subst e; rw [up1_s]; omega
        · rw [up1_n _ _ e]; exact q.2
    · right
      rw [if_neg (nI_ge (by omega) (by omega)), if_neg (nI_ge (by omega) (by omega))]
      exact ⟨rfl, rfl⟩
