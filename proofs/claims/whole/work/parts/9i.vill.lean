-- chalking a door
def addD (D : MD) (f a b m : Nat) (F : Nat → Nat) : MD := (dL D, dB D ||| 2 ^ f, fun d => if d = f then m else dM D d, fun d k => if d = f then F k else dF D d k, fun d => if d = f then a else dP D d, fun d => if d = f then b else dQ D d)
theorem or1 : ∀ B, B < 1024 → ∀ f, f < 10 → nI B ||| (1 <<< (nI f &&& 31)) = nI (B ||| 2 ^ f) := by decide +kernel
theorem addD_H (D : MD) (f a b m : Nat) (F : Nat → Nat) (d : Nat) : dH (addD D f a b m F) d = (dH D d || decide (d = f)) := by
  show (dB D ||| 2 ^ f).testBit d = _
  rw [Nat.testBit_or, Nat.testBit_two_pow]
  congr 1
  exact decide_eq_decide.2 eq_comm
theorem addD_B {D : MD} (h : dB D < 1024) {f : Nat} (hf : f < 10) : dB D ||| 2 ^ f < 1024 := Nat.or_lt_two_pow (n := 10) h (Nat.pow_lt_pow_right (by decide) hf)
theorem addD_O {O : Nat} {D : MD} (h : OD O D) {f a b m : Nat} {F : Nat → Nat} (hf : f < 10) (hm : 1 ≤ m) (hm2 : m ≤ 5) (hF : ∀ k, k < m → F k ≤ 35) (ha : a < O) (hb : b < O) (hab : a ≠ b) : OD O (addD D f a b m F) := by
  refine ⟨h.1, addD_B h.2.1 hf, fun d hd hh => ?_⟩
  rw [addD_H] at hh
  by_cases e : d = f
  · subst e
    show 1 ≤ (if d = d then m else _) ∧ (if d = d then m else _) ≤ 5 ∧ (∀ k, k < (if d = d then m else _) → (if d = d then F k else _) ≤ 35) ∧ (if d = d then a else _) < O ∧ (if d = d then b else _) < O ∧ (if d = d then a else _) ≠ (if d = d then b else _)
    simp only [if_pos]
    exact ⟨hm, hm2, hF, ha, hb, hab⟩
  · rw [decide_eq_false e, Bool.or_false] at hh
    have := h.2.2 d hd hh
    show 1 ≤ (if d = f then m else _) ∧ (if d = f then m else _) ≤ 5 ∧ (∀ k, k < (if d = f then m else _) → (if d = f then F k else _) ≤ 35) ∧ (if d = f then a else _) < O ∧ (if d = f then b else _) < O ∧ (if d = f then a else _) ≠ (if d = f then b else _)
    simp only [if_neg e]
    exact this
def fr (D : MD) : Nat → Nat → Option Nat
  | 0, _ => none
  | k + 1, j => if dH D j then fr D k (j + 1) else some j
theorem fr_some {D : MD} : ∀ k j f, fr D k j = some f → j ≤ f ∧ f < j + k ∧ dH D f = false := by
  intro k
  induction k with
  | zero => intro j f h; cases h
  | succ k ih =>
    intro j f h
    unfold fr at h
    by_cases hh : dH D j = true
    · rw [if_pos hh] at h; have := ih _ _ h; exact ⟨by omega, by omega, this.2.2⟩
    · rw [if_neg hh] at h; cases h; exact ⟨by omega, by omega, by simpa using hh⟩
theorem fg_b {c : Nat} (h : isL c = true ∨ isD c = true) : fg c ≤ 35 := by
  unfold fg
  rcases h with h | h
  · have := isL_b h; rw [isL_D h]; simp; omega
  · have := isD_b h; rw [h]; simp; omega
theorem c_rowFig {gtx gtt : TA} {C : Nat → Nat} {n q m s0 i : Nat} (h : TX gtx gtt C n) {r : R5} (hm : r.2.2.2.1 = nI m) (hs : r.2.2.2.2 = nI s0) (hsm : s0 + m ≤ n) (hc : ∀ i, i < m → isL (C (s0 + i)) = true ∨ isD (C (s0 + i)) = true) (hm5 : m ≤ 5) (hi : i < 5) : p_X7_rowFigure (rdC C n q r) gtx (nI i) = some (nI (if i < m then fg (C (s0 + i)) else 0)) := by
  have h6 := h.1
  unfold p_X7_rowFigure
  rw [if_neg (nI_pos (by omega)), show (rdC C n q r).2.2.2.2.2.2.2.1 = nI m from hm, show (rdC C n q r).2.2.2.2.2.2.2.2 = nI s0 from hs]
  by_cases him : i < m
  · rw [if_pos (nI_lt him (by omega)), if_pos him, nI_add, show p_X7_signAt (rdC C n q r) gtx (nI (s0 + i)) = some (sb (C (s0 + i))) from c_sign h (by omega) _, some_bind', cb_L _ (h.2 _ (by omega)).1, some_bind']
    unfold fg
    rcases hc i him with hl | hd
    · have := isL_b hl
      rw [if_pos hl, if_neg n10, isL_D hl, if_neg (by decide), cb_nI _ (by omega), show (97 : Int32) = nI 97 from rfl, pk_sub (by omega), show (10 : Int32) = nI 10 from rfl, nI_add, show C (s0 + i) - 97 + 10 = C (s0 + i) - 87 by omega]
    · have := isD_b hd
      rw [isD_L hd, show (if false = true then (1 : Int32) else 0) = 0 from rfl, if_pos rfl, hd, if_pos rfl, cb_nI _ (by omega), show (48 : Int32) = nI 48 from rfl, pk_sub (by omega)]
  · rw [if_neg (nI_nlt (by omega) (by omega)), if_neg him]; rfl
theorem c_chalk_62 {gtx : TA} {gr : RD} {f : Nat} {F : Nat → Nat} (hf : f < 10) (hF : ∀ i, i < 5 → p_X7_rowFigure gr gtx (nI i) = some (nI (F i))) : ∀ (k j m : Nat) (gd : TD), j + k = 5 → k < m → (∀ i, i < j → gd.2.2.2.2.2 (f * 5 + i) = nI (F i)) → ∃ t, p_X4_chalk_62 gr gtx m gd (nI f) (nI j) = some (1, (gd.1, gd.2.1, gd.2.2.1, gd.2.2.2.1, gd.2.2.2.2.1, t)) ∧ (∀ i, i < 5 → t (f * 5 + i) = nI (F i)) ∧ ∀ i, (i < f * 5 ∨ f * 5 + 5 ≤ i) → t i = gd.2.2.2.2.2 i := by
  intro k
  induction k with
  | zero =>
    intro j m gd hj hm hg
    obtain ⟨m, rfl⟩ : ∃ b, m = b + 1 := ⟨m - 1, by omega⟩
    refine ⟨gd.2.2.2.2.2, ?_, fun i hi => hg i (by omega), fun _ _ => rfl⟩
    unfold p_X4_chalk_62
    rw [if_pos (le_t (c := 5) (by omega) (by omega))]
  | succ k ih =>
    intro j m gd hj hm hg
    obtain ⟨m, rfl⟩ : ∃ b, m = b + 1 := ⟨m - 1, by omega⟩
    obtain ⟨t, a1, a2, a3⟩ := ih (j + 1) m (gd.1, gd.2.1, gd.2.2.1, gd.2.2.2.1, gd.2.2.2.2.1, upd gd.2.2.2.2.2 (f * 5 + j) (nI (F j))) (by omega) (by omega) (fun i hi => by
      by_cases e : i = j
      · subst e; exact pk_us
      · exact (pk_un (by omega)).trans (hg i (by omega)))
    refine ⟨t, ?_, a2, fun i hi => (a3 i hi).trans (pk_un (by omega))⟩
    unfold p_X4_chalk_62
    rw [if_neg (le_f (c := 5) (by omega) (by decide)), hF j (by omega), some_bind', fig_at, if_pos (ix_nI (by omega) (by decide)), cl_nI (by omega), nI_1]
    exact a1
theorem c_chalk_3 {O : Nat} {gtx : TA} {gr : RD} {gd : TD} {D : MD} {a b m : Nat} {F : Nat → Nat} (h : DC gd D) (ho : OD O D) (hm : gr.2.2.2.2.2.2.2.1 = nI m) (hm5 : m ≤ 5) (hF : ∀ i, i < 5 → p_X7_rowFigure gr gtx (nI i) = some (nI (F i))) : ∀ k j q : Nat, j + k = 10 → k < q → (fr D k j = none → p_X4_chalk_3 gr gtx q gd (nI a) (nI b) (nI j) = some (0, gd)) ∧ ∀ f, fr D k j = some f → ∃ gd', p_X4_chalk_3 gr gtx q gd (nI a) (nI b) (nI j) = some (1, gd') ∧ DC gd' (addD D f a b m F) := by
  intro k
  induction k with
  | zero =>
    intro j q hj hq
    obtain ⟨q, rfl⟩ : ∃ b, q = b + 1 := ⟨q - 1, by omega⟩
    refine ⟨fun _ => ?_, fun f e => by cases e⟩
    unfold p_X4_chalk_3
    rw [if_pos (le_t (c := 10) (by omega) (by omega))]
  | succ k ih =>
    intro j q hj hq
    obtain ⟨q, rfl⟩ : ∃ b, q = b + 1 := ⟨q - 1, by omega⟩
    have hj10 : j < 10 := by omega
    by_cases hh : dH D j = true
    · have hfr : fr D (k + 1) j = fr D k (j + 1) := if_pos hh
      have hcl : p_X4_chalk_3 gr gtx (q + 1) gd (nI a) (nI b) (nI j) = p_X4_chalk_3 gr gtx q gd (nI a) (nI b) (nI (j + 1)) := by
        conv => lhs; unfold p_X4_chalk_3
        rw [if_neg (le_f (c := 10) hj10 (by decide)), c_has h ho.2.1 hj10, some_bind', if_pos hh, if_neg n10, nI_1]
      rw [hfr, hcl]
      exact ih (j + 1) q (by omega) (by omega)
    · have hfr : fr D (k + 1) j = some j := if_neg hh
      have hcl : p_X4_chalk_3 gr gtx (q + 1) gd (nI a) (nI b) (nI j) = p_X4_chalk_62 gr gtx fu (gd.1, gd.2.1 ||| (1 <<< (nI j &&& 31)), upd gd.2.2.1 j (nI a), upd gd.2.2.2.1 j (nI b), upd gd.2.2.2.2.1 j gr.2.2.2.2.2.2.2.1, gd.2.2.2.2.2) (nI j) 0 := by
        conv => lhs; unfold p_X4_chalk_3
        rw [if_neg (le_f (c := 10) hj10 (by decide)), c_has h ho.2.1 hj10, some_bind', if_neg hh, if_pos rfl, if_pos (ix_nI hj10 (by decide)), if_pos (ix_nI hj10 (by decide)), if_pos (ix_nI hj10 (by decide)), cl_nI (by omega)]
      rw [hfr, hcl]
      refine ⟨(fun e => by cases e), fun f e => ?_⟩
      cases e
      obtain ⟨t, a1, a2, a3⟩ := c_chalk_62 (gtx := gtx) (gr := gr) (f := j) (F := F) hj10 hF 5 0 fu (gd.1, gd.2.1 ||| (1 <<< (nI j &&& 31)), upd gd.2.2.1 j (nI a), upd gd.2.2.2.1 j (nI b), upd gd.2.2.2.2.1 j gr.2.2.2.2.2.2.2.1, gd.2.2.2.2.2) (by omega) (fu_lt (by decide)) (fun i hi => by omega)
      refine ⟨_, a1, h.1, ?_, fun d hd hhd => ?_⟩
      · show gd.2.1 ||| _ = nI (dB D ||| 2 ^ j)
        rw [h.2.1, or1 _ ho.2.1 j hj10]
      · show upd gd.2.2.1 j (nI a) d = nI (if d = j then a else dP D d) ∧ upd gd.2.2.2.1 j (nI b) d = nI (if d = j then b else dQ D d) ∧ upd gd.2.2.2.2.1 j gr.2.2.2.2.2.2.2.1 d = nI (if d = j then m else dM D d) ∧ ∀ k, k < (if d = j then m else dM D d) → t (d * 5 + k) = nI (if d = j then F k else dF D d k)
        rw [addD_H] at hhd
        by_cases e : d = j
        · subst e
          rw [pk_us, pk_us, pk_us]
          simp only [if_pos]
          exact ⟨trivial, trivial, hm, fun k hk => a2 k (by omega)⟩
        · rw [pk_un e, pk_un e, pk_un e]
          simp only [if_neg e]
          rw [decide_eq_false e, Bool.or_false] at hhd
          have hd5 := h.2.2 d hd hhd
          have hm5 := (ho.2.2 d hd hhd).2.1
          exact ⟨hd5.1, hd5.2.1, hd5.2.2.1, fun k hk => by rw [a3 _ (by omega)]; exact hd5.2.2.2 k hk⟩
theorem c_chalk {O : Nat} {gtx gtt : TA} {C : Nat → Nat} {n q s0 : Nat} {gd : TD} {D : MD} {a b m : Nat} {r : R5} (ht : TX gtx gtt C n) (h : DC gd D) (ho : OD O D) (hm : r.2.2.2.1 = nI m) (hs : r.2.2.2.2 = nI s0) (hsm : s0 + m ≤ n) (hc : ∀ i, i < m → isL (C (s0 + i)) = true ∨ isD (C (s0 + i)) = true) (hm5 : m ≤ 5) : (fr D 10 0 = none → p_X4_chalk gd (rdC C n q r) gtx (nI a) (nI b) = some (0, gd)) ∧ ∀ f, fr D 10 0 = some f → ∃ gd', p_X4_chalk gd (rdC C n q r) gtx (nI a) (nI b) = some (1, gd') ∧ DC gd' (addD D f a b m (fun i => if i < m then fg (C (s0 + i)) else 0)) :=
  c_chalk_3 h ho hm hm5 (fun i hi => c_rowFig ht hm hs hsm hc hm5 hi) 10 0 fu (by omega) (fu_lt (by decide))
-- the village that is being read
abbrev TNv := Int32 × Int32 × Int32 × Int32 × Int32 × TA × TA × TA × TA × TA × TA
def VI (gv : TV) (gd : TD) (gvr : Int32 × Int32) (gnv : TNv) (V : MV) (D : MD) (nd : Nat) (lt : Bool) : Prop :=
  (VC gv V ∧ DC gd D ∧ OV V ∧ OD (vO V) D ∧ (∀ d, d < 10 → dH D d = decide (d < nd)) ∧ nd ≤ 10 ∧ vB V = 0 ∧ (∀ i, vH V i = 0) ∧ (∀ i j, vL V i j = 0)) ∧ gvr = ((if lt then 1 else 0), nI nd) ∧ gnv.1 = nI (vO V) ∧ gnv.2.1 = nI nd ∧ gnv.2.2.1 = nI (dL D) ∧ gnv.2.2.2.1 = nI (sN (vG V) (vO V)) ∧ gnv.2.2.2.2.1 = (if lt then 1 else 0) ∧ (∀ i, i < vO V → gnv.2.2.2.2.2.1 i = nI (vG V i) ∧ gnv.2.2.2.2.2.2.1 i = nI (vC V i)) ∧ ∀ d, d < nd → gnv.2.2.2.2.2.2.2.1 d = nI (dP D d) ∧ gnv.2.2.2.2.2.2.2.2.1 d = nI (dQ D d) ∧ gnv.2.2.2.2.2.2.2.2.2.1 d = nI (dM D d) ∧ ∀ k, k < dM D d → gnv.2.2.2.2.2.2.2.2.2.2 (5 * d + k) = nI (dF D d k)
theorem bad_384 {gtt : TA} {w fp : Int32} (hw : w ≠ 0) (g : RDm) (gnv : TNv) : p_X13_line_384 gtt (w, fp) g gnv = some ((w, fp), g, gnv) := by
  unfold p_X13_line_384 p_X13_line_398
  rw [bad_need hw, bad_need hw, ite_self]; rfl
theorem bad_135 {gtt : TA} {w fp : Int32} (hw : w ≠ 0) (g : RDm) (gnv : TNv) : p_X13_line_135 gtt (w, fp) g gnv = some ((w, fp), g, gnv) := by
  unfold p_X13_line_135
  rw [bad_good hw, some_bind', if_pos rfl, bad_384 hw]
/-- what a line comes to on both sides -/
def LN (gtx gtt : TA) (C : Nat → Nat) (n p : Nat) (cl : Option (Int32 × (Int32 × Int32) × RD × TV × TD)) (rf : Option ((Int32 × Int32) × RDm × TNv)) (r : R5) (fp : Int32) : Prop :=
  (∃ q r' gv' gd' gvr' g' gnv' V' D' nd' lt', p < q ∧ q ≤ n ∧ cl = some (1, gvr', rdC C n q r', gv', gd') ∧ r'.1 = r.1 ∧ r'.2.1 = r.2.1 ∧ rf = some ((0, fp), g', gnv') ∧ RRd g' C n q ∧ VI gv' gd' gvr' gnv' V' D' nd' lt') ∨ ∃ w s gvr' gr' gv' gd' g' gnv', w ≠ 0 ∧ cl = some (0, gvr', gr', gv', gd') ∧ Rfs gr' w s ∧ rf = some ((w, nI s), g', gnv')
theorem q_lstop {gtx gtt : TA} {C : Nat → Nat} {n p q : Nat} (h : TX gtx gtt C n) (hpq : p ≤ q) (hq : q ≤ n) (r r' : R5) (fp : Int32) (he : r'.1 = r.1 ∧ r'.2.1 = r.2.1) {g : RDm} (hg : RRd g C n q) {gv : TV} {gd : TD} {gvr : Int32 × Int32} {gnv : TNv} {V : MV} {D : MD} {nd : Nat} {lt : Bool} (hv : VI gv gd gvr gnv V D nd lt) {cl : Option (Int32 × (Int32 × Int32) × RD × TV × TD)} (hcl : cl = ((p_X7_takeStop (rdC C n q r') gtx).bind fun v => some (v.1, gvr, v.2, gv, gd))) : LN gtx gtt C n p cl (p_X13_line_384 gtt (0, fp) g gnv) r fp := by
  have hb := tk_b C hq
  subst hcl
  unfold p_X13_line_384 p_X13_line_398
  rcases q_stop h hq with ⟨hk, hlt, hc, hm⟩ | ⟨hc, hm⟩
  · obtain ⟨h4, g', s1, s2⟩ := hm g fp hg
    left
    rw [if_pos h4, s1, hc r']
    exact ⟨tE C n q, r', gv, gd, gvr, g', gnv, V, D, nd, lt, by omega, by omega, rfl, he.1, he.2, rfl, s2, hv⟩
  · obtain ⟨h4, s1⟩ := hm g fp hg
    obtain ⟨gr', a1, a2⟩ := hc r'
    right
    rw [if_neg h4, s1, a1]
    exact ⟨1, _, _, _, _, _, _, _, by decide, rfl, a2, rfl⟩
theorem VI_lt {gv : TV} {gd : TD} {gvr : Int32 × Int32} {gnv : TNv} {V : MV} {D : MD} {nd : Nat} {lt : Bool} (h : VI gv gd gvr gnv V D nd lt) : vO V ≤ 5 ∧ sN (vG V) (vO V) ≤ 40 := ⟨h.1.2.2.1.1, h.1.2.2.1.2.2.1⟩
def addV (V : MV) (g c : Nat) : MV := (vO V + 1, 0, (fun i => if i = vO V then g else vG V i), (fun i => if i = vO V then c else vC V i), (fun _ => 0), fun _ _ => 0)
theorem sN_addV (V : MV) (g c : Nat) : sN (vG (addV V g c)) (vO (addV V g c)) = sN (vG V) (vO V) + g := by
  show sN (fun i => if i = vO V then g else vG V i) (vO V) + (if vO V = vO V then g else vG V (vO V)) = _
  rw [if_pos rfl, sN_cong (g := vG V) (vO V) (fun d hd => if_neg (by omega))]
theorem VI_owner {gv : TV} {gd : TD} {gvr : Int32 × Int32} {gnv : TNv} {V : MV} {D : MD} {nd : Nat} {lt : Bool} (h : VI gv gd gvr gnv V D nd lt) {g c : Nat} (h5 : vO V < 5) (hg : sN (vG V) (vO V) + g ≤ 40) (hc : c ≤ 5) : ∃ gv', p_X9_addOwner gv (nI g) (nI c) = some gv' ∧ VI gv' gd gvr (gnv.1 + 1, gnv.2.1, gnv.2.2.1, nI (sN (vG V) (vO V) + g), gnv.2.2.2.2.1, upd gnv.2.2.2.2.2.1 (vO V) (nI g), upd gnv.2.2.2.2.2.2.1 (vO V) (nI c), gnv.2.2.2.2.2.2.2) (addV V g c) D nd lt := by
  obtain ⟨⟨v1, v2, v3, v4, v5, v6, v7, v8, v9⟩, b1, b2, b3, b4, b5, b6, b7, b8⟩ := h
  unfold p_X9_addOwner
  rw [v1.1, if_neg (nI_pos (by omega)), if_pos (ltr_t (c := 5) h5 (by decide)), if_pos (ix_nI h5 (by decide)), if_pos (ix_nI h5 (by decide)), if_pos (ix_nI h5 (by decide)), if_pos (ix_nI h5 (by decide)), if_pos (ix_nI h5 (by decide)), cl_nI (by omega), nI_1]
  refine ⟨_, rfl, ⟨⟨rfl, by rw [v1.2.1, v7]; rfl, fun i hi => ?_⟩, v2, ⟨?_, ?_, ?_, fun i hi => ?_⟩, ⟨v4.1, v4.2.1, fun d hd hh => ?_⟩, v5, v6, rfl, fun _ => rfl, fun _ _ => rfl⟩, b1, ?_, b3, b4, ?_, b6, fun i hi => ?_, b8⟩
  · have hi : i < vO V + 1 := hi
    show upd gv.2.2.1 (vO V) (nI g) i = nI (if i = vO V then g else vG V i) ∧ upd gv.2.2.2.1 (vO V) (nI c) i = nI (if i = vO V then c else vC V i) ∧ upd gv.2.2.2.2.1 (vO V) 0 i = nI 0 ∧ upd gv.2.2.2.2.2.1 (vO V) 0 i = nI (sN (fun _ => 0) 5) ∧ upd gv.2.2.2.2.2.2 (vO V) 0 i = nI (sN (fun _ => 0) 5)
    by_cases e : i = vO V
    · subst e; rw [pk_us, pk_us, pk_us, pk_us, pk_us, if_pos rfl, if_pos rfl]; exact ⟨rfl, rfl, rfl, rfl, rfl⟩
    · rw [pk_un e, pk_un e, pk_un e, pk_un e, pk_un e, if_neg e, if_neg e]
      have q := v1.2.2 i (by omega)
      refine ⟨q.1, q.2.1, by rw [q.2.2.1, v8], by rw [q.2.2.2.1, sN_cong (g := fun _ => 0) 5 (fun d _ => v9 i d)], by rw [q.2.2.2.2, sN_cong (g := fun _ => 0) 5 (fun d _ => v9 d i)]⟩
  · show vO V + 1 ≤ 5; omega
  · show 0 ≤ 40; omega
  · rw [sN_addV]; exact hg
  · have hi : i < vO V + 1 := hi
    show (if i = vO V then c else vC V i) ≤ 5 ∧ sN (fun _ => 0) 5 + 0 ≤ _
    refine ⟨?_, Nat.zero_le _⟩
    by_cases e : i = vO V
    · rw [if_pos e]; exact hc
    · rw [if_neg e]; exact (v3.2.2.2 i (by omega)).1
  · have q := v4.2.2 d hd hh
    exact ⟨q.1, q.2.1, q.2.2.1, Nat.lt_succ_of_lt q.2.2.2.1, Nat.lt_succ_of_lt q.2.2.2.2.1, q.2.2.2.2.2⟩
  · show gnv.1 + 1 = nI (vO V + 1); rw [b2, nI_1]
  · rw [sN_addV]
  · have hi : i < vO V + 1 := hi
    show upd gnv.2.2.2.2.2.1 (vO V) (nI g) i = nI (if i = vO V then g else vG V i) ∧ upd gnv.2.2.2.2.2.2.1 (vO V) (nI c) i = nI (if i = vO V then c else vC V i)
    by_cases e : i = vO V
    · subst e; rw [pk_us, pk_us, if_pos rfl, if_pos rfl]; exact ⟨rfl, rfl⟩
    · rw [pk_un e, pk_un e, if_neg e, if_neg e]; exact b7 i (by omega)
theorem upd_same (f : TA) (k : Nat) (x y : Int32) : upd (upd f k x) k y = upd f k y := by
  funext i; unfold upd; split <;> rfl
theorem q_owner_line {gtx gtt : TA} {C : Nat → Nat} {n p : Nat} (h : TX gtx gtt C n) (hp : p ≤ n) (r : R5) (fp : Int32) {g : RDm} (hg : RRd g C n p) {gv : TV} {gd : TD} {gvr : Int32 × Int32} {gnv : TNv} {V : MV} {D : MD} {nd : Nat} {lt : Bool} (hv : VI gv gd gvr gnv V D nd lt) : LN gtx gtt C n p ((p_X10_readOwner (rdC C n p r) gtx gv).bind fun v => (if isZ v.1 then some (v.1, (gvr, v.2.1, v.2.2, gd)) else none)) (if gnv.1 = 5 then ((p_X13_wrong (0, fp) g 2).bind fun v => p_X13_line_22 gtt v g gnv) else p_X13_line_22 gtt (0, fp) g gnv) r fp := by
  have hb := tk_b C hp
  have h5 := (VI_lt hv).1
  have h40 := (VI_lt hv).2
  have hbad : ∀ {w : Int32} {s : Nat} {gr' : RD} {gv' : TV} {rf : Option ((Int32 × Int32) × RDm × TNv)}, w ≠ 0 → Rfs gr' w s → (∃ g' gnv', rf = some ((w, nI s), g', gnv')) → LN gtx gtt C n p (((some (0, (gr', gv')) : Option (Int32 × RD × TV))).bind fun v => (if isZ v.1 then some (v.1, (gvr, v.2.1, v.2.2, gd)) else none)) rf r fp := by
    intro w s gr' gv' rf hw hr hrf
    obtain ⟨g', gnv', hrf⟩ := hrf
    right
    exact ⟨w, s, gvr, gr', gv', gd, g', gnv', hw, rfl, hr, hrf⟩
  unfold p_X10_readOwner
  rw [hv.1.1.1, hv.2.2.1]
  by_cases ho5 : vO V = 5
  · rw [if_pos (eq_t (c := 5) ho5), if_neg (ltr_f (c := 5) (by omega) (by omega))]
    obtain ⟨gr', a1, a2⟩ := c_rf C n p r 2
    rw [a1, some_bind', if_pos isZ0]
    refine hbad (by decide) a2 ⟨g, gnv, ?_⟩
    unfold p_X13_wrong p_X13_line_22
    rw [if_pos rfl, some_bind', hg.2.2.2.1, bad_good (by decide)]
    rfl
  · rw [if_neg (eq_f (c := 5) ho5 (by omega) (by decide)), if_pos (ltr_t (c := 5) (by omega) (by decide))]
    have ho5 : vO V < 5 := by omega
    obtain ⟨g1, s1, s2⟩ := m_next h hp hg
    have hc1 : p_X7_step (rdC C n p r) gtx = some (rdC C n (tE C n p) r) := c_next h hp r r
    obtain ⟨hi, hhi⟩ : ∃ hi : Nat, hi = if 40 - sN (vG V) (vO V) < 20 then 40 - sN (vG V) (vO V) else 20 := ⟨_, rfl⟩
    have hhi2 : hi < 1000 ∧ sN (vG V) (vO V) + hi ≤ 40 := by rw [hhi]; split <;> omega
    have e1 : (if (40 : Int32) - nI (sN (vG V) (vO V)) < 20 then (40 : Int32) - nI (sN (vG V) (vO V)) else 20) = nI hi := by
      rw [show (40 : Int32) - nI (sN (vG V) (vO V)) = nI (40 - sN (vG V) (vO V)) from pk_sub (a := 40) h40, hhi]
      by_cases q : 40 - sN (vG V) (vO V) < 20
      · rw [if_pos q, if_pos (ltr_t (c := 20) q (by decide))]
      · rw [if_neg q, if_neg (ltr_f (c := 20) (by omega) (by omega))]; rfl
    have e2 : p_X13_line_22 gtt (0, fp) g gnv = p_X13_line_68 gtt (0, fp) g1 gnv gnv.1 0 (nI hi) := by
      unfold p_X13_line_22
      rw [good0, some_bind', if_neg n10, s1, some_bind', hv.2.2.2.2.2.1, show (40 : Int32) - nI (sN (vG V) (vO V)) = nI (40 - sN (vG V) (vO V)) from pk_sub (a := 40) h40, hhi]
      by_cases q : 40 - sN (vG V) (vO V) < 20
      · rw [if_pos q, if_pos (ler_t (c := 20) (by omega) (by decide))]
      · rw [if_neg q]
        by_cases q2 : 40 - sN (vG V) (vO V) = 20
        · rw [if_pos (ler_t (c := 20) (by omega) (by decide)), q2]
        · rw [if_neg (ler_f (c := 20) (by omega) (by omega))]; rfl
    rw [hc1, some_bind', c_allGoats hv.1.1 hv.1.2.2.1, some_bind', e1, e2]
    have hp2 := hb.2.2.1
    have hb2 := tk_b C hp2
    rcases q_number h hp2 (lo := 0) (hi := hi) (by omega) hhi2.1 with ⟨n1, n2, n3, hc, hm⟩ | ⟨w, hw, hc, hm⟩
    · obtain ⟨g2, t1, t2⟩ := hm g1 fp s2
      have hc := hc r
      have hc : p_X7_takeNumber (rdC C n (tE C n p) r) gtx 0 (nI hi) = _ := hc
      have t1 : p_X13_number gtt (0, fp) g1 0 (nI hi) = _ := t1
      have hp3 := hb2.2.2.1
      have hb3 := tk_b C hp3
      rw [hc, some_bind', if_neg n10]
      unfold p_X13_line_68
      rw [t1, some_bind', hv.2.2.1, if_pos (ix_nI ho5 (by decide)), if_pos (ix_nI ho5 (by decide)), if_pos (ix_nI ho5 (by decide)), good0, some_bind', if_neg n10, cl_nI (by omega), pk_us, hv.2.2.2.2.2.1, nI_add]
      rcases q_word h hp3 (x := 3) (by decide) with ⟨_, wc, wm⟩ | ⟨_, wc, wm⟩
      · have wm := wm g2 t2
        have wm : p_X13_is g2 9 = some 1 := wm
        obtain ⟨g3, u1, u2⟩ := m_next h hp3 t2
        rw [wc, some_bind', if_neg n10, wm, some_bind', if_neg n10, u1, some_bind', show p_X7_step (rdC C n (tE C n (tE C n p)) (r.1, r.2.1, nI (tV C n (tE C n p)), r.2.2.2)) gtx = some (rdC C n (tE C n (tE C n (tE C n p))) (r.1, r.2.1, nI (tV C n (tE C n p)), r.2.2.2)) from c_next h hp3 r _, some_bind']
        have hp4 := hb3.2.2.1
        have hb4 := tk_b C hp4
        rcases q_number h hp4 (lo := 0) (hi := 5) (by omega) (by omega) with ⟨k1, k2, k3, kc, km⟩ | ⟨w, hw, kc, km⟩
        · obtain ⟨g4, x1, x2⟩ := km g3 fp u2
          have x1 : p_X13_number gtt (0, fp) g3 0 5 = _ := x1
          have kc := kc (r.1, r.2.1, nI (tV C n (tE C n p)), r.2.2.2)
          have kc : p_X7_takeNumber (rdC C n (tE C n (tE C n (tE C n p))) (r.1, r.2.1, nI (tV C n (tE C n p)), r.2.2.2)) gtx 0 5 = _ := kc
          obtain ⟨gv', v1, v2⟩ := VI_owner hv ho5 (g := tV C n (tE C n p)) (c := tV C n (tE C n (tE C n (tE C n p)))) (by omega) k2
          rw [kc, some_bind', if_neg n10, x1, some_bind', if_pos (ix_nI ho5 (by decide)), upd_same]
          unfold p_X13_line_135
          rw [good0, some_bind', if_neg n10]
          rw [hv.2.2.1] at v2
          refine q_lstop (q := tE C n (tE C n (tE C n (tE C n p)))) h (by omega) hb4.2.2.1 r (r.1, r.2.1, nI (tV C n (tE C n (tE C n (tE C n p)))), r.2.2.2) fp ⟨rfl, rfl⟩ x2 v2 ?_
          unfold p_X10_readOwner_100
          rw [show (rdC C n (tE C n (tE C n p)) (r.1, r.2.1, nI (tV C n (tE C n p)), r.2.2.2)).2.2.2.2.2.2.1 = nI (tV C n (tE C n p)) from rfl]
          simp only []
          rw [show (rdC C n (tE C n (tE C n (tE C n (tE C n p)))) (r.1, r.2.1, nI (tV C n (tE C n (tE C n (tE C n p)))), r.2.2.2)).2.2.2.2.2.2.1 = nI (tV C n (tE C n (tE C n (tE C n p)))) from rfl, v1, some_bind']
          rcases q_stop h (p := tE C n (tE C n (tE C n (tE C n p)))) hb4.2.2.1 with ⟨_, _, sc, _⟩ | ⟨sc, _⟩
          · rw [sc]; rfl
          · obtain ⟨gr', z1, z2⟩ := sc (r.1, r.2.1, nI (tV C n (tE C n (tE C n (tE C n p)))), r.2.2.2)
            rw [z1]; rfl
        · obtain ⟨v, x1⟩ := km g3 fp u2
          have x1 : p_X13_number gtt (0, fp) g3 0 5 = _ := x1
          obtain ⟨gr', z1, z2⟩ := kc (r.1, r.2.1, nI (tV C n (tE C n p)), r.2.2.2)
          have z1 : p_X7_takeNumber (rdC C n (tE C n (tE C n (tE C n p))) (r.1, r.2.1, nI (tV C n (tE C n p)), r.2.2.2)) gtx 0 5 = _ := z1
          rw [z1, some_bind', if_pos rfl]
          exact hbad hw z2 ⟨_, _, by rw [x1, some_bind', if_pos (ix_nI ho5 (by decide))]; exact bad_135 hw _ _⟩
      · have wm := wm g2 t2
        have wm : p_X13_is g2 9 = some 0 := wm
        obtain ⟨gv', v1, v2⟩ := VI_owner hv ho5 (g := tV C n (tE C n p)) (c := 0) (by omega) (by omega)
        rw [wc, some_bind', if_pos rfl, wm, some_bind', if_pos rfl]
        unfold p_X13_line_135
        rw [good0, some_bind', if_neg n10]
        rw [hv.2.2.1] at v2
        refine q_lstop (q := tE C n (tE C n p)) h (by omega) hb2.2.2.1 r (r.1, r.2.1, nI (tV C n (tE C n p)), r.2.2.2) fp ⟨rfl, rfl⟩ t2 v2 ?_
        unfold p_X10_readOwner_100
        rw [show (rdC C n (tE C n (tE C n p)) (r.1, r.2.1, nI (tV C n (tE C n p)), r.2.2.2)).2.2.2.2.2.2.1 = nI (tV C n (tE C n p)) from rfl, show p_X9_addOwner gv (nI (tV C n (tE C n p))) 0 = _ from v1, some_bind']
        rcases q_stop h (p := tE C n (tE C n p)) hb2.2.2.1 with ⟨_, _, sc, _⟩ | ⟨sc, _⟩
        · rw [sc]; rfl
        · obtain ⟨gr', z1, z2⟩ := sc (r.1, r.2.1, nI (tV C n (tE C n p)), r.2.2.2)
          rw [z1]; rfl
    · obtain ⟨v, t1⟩ := hm g1 fp s2
      have t1 : p_X13_number gtt (0, fp) g1 0 (nI hi) = _ := t1
      obtain ⟨gr', z1, z2⟩ := hc r
      have z1 : p_X7_takeNumber (rdC C n (tE C n p) r) gtx 0 (nI hi) = _ := z1
      rw [z1, some_bind', if_pos rfl]
      refine hbad hw z2 ?_
      unfold p_X13_line_68
      rw [t1, some_bind', hv.2.2.1, if_pos (ix_nI ho5 (by decide)), if_pos (ix_nI ho5 (by decide)), if_pos (ix_nI ho5 (by decide)), bad_good hw, some_bind', if_pos rfl]
      exact ⟨_, _, bad_135 hw _ _⟩
theorem frN {D : MD} {nd : Nat} (h : ∀ d, d < 10 → dH D d = decide (d < nd)) (hn : nd < 10) : fr D 10 0 = some nd := by
  have : ∀ k j, j + k = 10 → j ≤ nd → fr D k j = some nd := by
    intro k
    induction k with
    | zero => intro j h1 h2; omega
    | succ k ih =>
      intro j h1 h2
      unfold fr
      rw [h j (by omega)]
      by_cases e : j = nd
      · subst e; rw [if_neg (by simp)]
      · rw [if_pos (decide_eq_true (by omega))]; exact ih (j + 1) (by omega) (by omega)
  exact this 10 0 (by omega) (by omega)
theorem VI_door {gv : TV} {gd gd' : TD} {x : Int32} {gnv : TNv} {V : MV} {D : MD} {nd a b m : Nat} {lt : Bool} {F : Nat → Nat} {t : TA} (h : VI gv gd (x, nI nd) gnv V D nd lt) (hd : DC gd' (addD D nd a b m F)) (hn : nd < 10) (hm : 1 ≤ m) (hm5 : m ≤ 5) (hF : ∀ k, k < m → F k ≤ 35) (ha : a < vO V) (hb : b < vO V) (hab : a ≠ b) (ht : ∀ i, i < m → t (5 * nd + i) = nI (F i)) (ht2 : ∀ i, (i < 5 * nd ∨ 5 * nd + m ≤ i) → t i = gnv.2.2.2.2.2.2.2.2.2.2 i) : VI gv gd' (x, nI nd + 1) (gnv.1, gnv.2.1 + 1, gnv.2.2.1, gnv.2.2.2.1, gnv.2.2.2.2.1, gnv.2.2.2.2.2.1, gnv.2.2.2.2.2.2.1, upd gnv.2.2.2.2.2.2.2.1 nd (nI a), upd gnv.2.2.2.2.2.2.2.2.1 nd (nI b), upd gnv.2.2.2.2.2.2.2.2.2.1 nd (nI m), t) V (addD D nd a b m F) (nd + 1) lt := by
  obtain ⟨⟨v1, v2, v3, v4, v5, v6, v7, v8, v9⟩, b1, b2, b3, b4, b5, b6, b7, b8⟩ := h
  refine ⟨⟨v1, hd, v3, addD_O v4 hn hm hm5 hF ha hb hab, fun d hd => ?_, by omega, v7, v8, v9⟩, ?_, b2, ?_, b4, b5, b6, b7, fun d hd => ?_⟩
  · rw [addD_H, v5 d hd, ← Bool.decide_or]
    exact decide_eq_decide.2 ⟨fun e => by omega, fun e => by omega⟩
  · have b1' : x = (if lt = true then 1 else 0) := congrArg Prod.fst b1
    rw [nI_1, b1']
  · show gnv.2.1 + 1 = _; rw [b3, nI_1]
  · show upd gnv.2.2.2.2.2.2.2.1 nd (nI a) d = nI (if d = nd then a else dP D d) ∧ upd gnv.2.2.2.2.2.2.2.2.1 nd (nI b) d = nI (if d = nd then b else dQ D d) ∧ upd gnv.2.2.2.2.2.2.2.2.2.1 nd (nI m) d = nI (if d = nd then m else dM D d) ∧ ∀ k, k < (if d = nd then m else dM D d) → t (5 * d + k) = nI (if d = nd then F k else dF D d k)
    by_cases e : d = nd
    · subst e
      rw [pk_us, pk_us, pk_us, if_pos rfl, if_pos rfl, if_pos rfl]
      refine ⟨rfl, rfl, rfl, fun k hk => ?_⟩
      rw [if_pos rfl]; exact ht k hk
    · rw [pk_un e, pk_un e, pk_un e, if_neg e, if_neg e, if_neg e]
      have q := b8 d (by omega)
      have hm := (v4.2.2 d (by omega) (by rw [v5 d (by omega)]; exact decide_eq_true (by omega))).2.1
      refine ⟨q.1, q.2.1, q.2.2.1, fun k hk => ?_⟩
      rw [if_neg e, ht2 _ (by omega)]; exact q.2.2.2 k hk
theorem q_door_line {gtx gtt : TA} {C : Nat → Nat} {n p : Nat} (h : TX gtx gtt C n) (hp : p ≤ n) (r : R5) (fp : Int32) {g : RDm} (hg : RRd g C n p) {gv : TV} {gd : TD} {gvr : Int32 × Int32} {gnv : TNv} {V : MV} {D : MD} {nd : Nat} {lt : Bool} (hv : VI gv gd gvr gnv V D nd lt) : LN gtx gtt C n p ((p_X10_readDoor gvr (rdC C n p r) gtx gv gd).bind fun v => (if isZ v.1 then some (v.1, (v.2.1, v.2.2.1, gv, v.2.2.2)) else none)) (if gnv.2.1 = 10 then ((p_X13_wrong (0, fp) g 2).bind fun v => p_X13_line_178 gtt v g gnv) else p_X13_line_178 gtt (0, fp) g gnv) r fp := by
  have hb := tk_b C hp
  have h5 := (VI_lt hv).1
  have hnd := hv.1.2.2.2.2.2.1
  obtain ⟨x0, x1⟩ := gvr
  have hx1 : x1 = nI nd := congrArg Prod.snd hv.2.1
  subst hx1
  have hbad : ∀ {w : Int32} {s : Nat} {gr' : RD} {gvr' : Int32 × Int32} {gd' : TD} {rf : Option ((Int32 × Int32) × RDm × TNv)}, w ≠ 0 → Rfs gr' w s → (∃ g' gnv', rf = some ((w, nI s), g', gnv')) → LN gtx gtt C n p (((some (0, (gvr', gr', gd')) : Option (Int32 × (Int32 × Int32) × RD × TD))).bind fun v => (if isZ v.1 then some (v.1, (v.2.1, v.2.2.1, gv, v.2.2.2)) else none)) rf r fp := by
    intro w s gr' gvr' gd' rf hw hr hrf
    obtain ⟨g', gnv', hrf⟩ := hrf
    right
    exact ⟨w, s, gvr', gr', gv, gd', g', gnv', hw, rfl, hr, hrf⟩
  unfold p_X10_readDoor
  simp only []
  rw [hv.2.2.2.1, hv.1.1.1]
  by_cases ho5 : nd = 10
  · rw [if_pos (eq_t (c := 10) ho5), if_neg (ltr_f (c := 10) (by omega) (by omega))]
    obtain ⟨gr', a1, a2⟩ := c_rf C n p r 2
    rw [a1, some_bind', if_pos isZ0]
    refine hbad (by decide) a2 ⟨g, gnv, ?_⟩
    unfold p_X13_wrong p_X13_line_178
    rw [if_pos rfl, some_bind', hg.2.2.2.1, bad_good (by decide)]
    rfl
  · rw [if_neg (eq_f (c := 10) ho5 (by omega) (by decide)), if_pos (ltr_t (c := 10) (by omega) (by decide))]
    have hn10 : nd < 10 := by omega
    have hix : ix (nI nd) 10 := ix_nI hn10 (by decide)
    obtain ⟨g1, s1, s2⟩ := m_next h hp hg
    have hc1 : p_X7_step (rdC C n p r) gtx = some (rdC C n (tE C n p) r) := c_next h hp r r
    have hp2 := hb.2.2.1
    have hb2 := tk_b C hp2
    unfold p_X13_line_178
    rw [hc1, some_bind', good0, some_bind', if_neg n10, s1, some_bind', hv.2.2.1, hv.2.2.2.1, cl_nI (by omega)]
    rcases q_among h hp2 (many := vO V) (-1) (by omega) with ⟨a1, a2, a3, ac, am⟩ | ⟨w, hw, ac, am⟩
    · obtain ⟨g2, t1, t2⟩ := am g1 fp s2
      have hp3 := hb2.2.2.1
      have hb3 := tk_b C hp3
      rw [ac r, some_bind', if_neg n10, t1, some_bind', if_pos hix, if_pos hix, pk_us]
      simp only []
      rw [show (rdC C n (tE C n (tE C n p)) (r.1, r.2.1, nI (tV C n (tE C n p)), r.2.2.2)).2.2.2.2.2.2.1 = nI (tV C n (tE C n p)) from rfl]
      rcases q_among h hp3 (many := vO V) (nI (tV C n (tE C n p))) (by omega) with ⟨b1, b2, b3, bc, bm⟩ | ⟨w, hw, bc, bm⟩
      · obtain ⟨g3, u1, u2⟩ := bm g2 fp t2
        have hp4 := hb3.2.2.1
        have hb4 := tk_b C hp4
        have hab : tV C n (tE C n p) ≠ tV C n (tE C n (tE C n p)) := fun e => b2 (by rw [e])
        rw [bc (r.1, r.2.1, nI (tV C n (tE C n p)), r.2.2.2), some_bind', if_neg n10, u1, some_bind', if_pos hix]
        simp only []
        rcases q_row h hp4 (N := 50) (a := 5 * nd) (by omega) (by omega) with ⟨m, m1, m2, m3, m4, m5, rc, rm⟩ | ⟨w, hw, rc, rm⟩
        · obtain ⟨g4, t, w1, w2, w3, w4⟩ := rm g3 fp gnv.2.2.2.2.2.2.2.2.2.2 u2
          have hp5 := hb4.2.2.1
          have hb5 := tk_b C hp5
          rw [rc (r.1, r.2.1, nI (tV C n (tE C n (tE C n p))), r.2.2.2), some_bind', if_neg n10, show (5 : Int32) * nI nd = nI (5 * nd) from by rw [show (5 : Int32) = nI 5 from rfl, pk_mul], w1, some_bind', if_pos hix, good0, some_bind', if_neg n10]
          simp only []
          obtain ⟨gd', c1, c2⟩ := (c_chalk (q := tE C n (tE C n (tE C n (tE C n p)))) (a := tV C n (tE C n p)) (b := tV C n (tE C n (tE C n p))) (r := (r.1, r.2.1, nI (tV C n (tE C n (tE C n p))), nI m, nI (tS C n (tE C n (tE C n (tE C n p))) + 1))) h hv.1.2.1 hv.1.2.2.2.1 rfl rfl (by omega) m5 m2).2 nd (frN hv.1.2.2.2.2.1 hn10)
          have hvi := VI_door (t := t) hv c2 hn10 m1 m2 (fun k hk => by rw [if_pos hk]; exact fg_b (m5 k hk)) a1 b1 hab (fun i hi => by rw [if_pos hi]; exact w3 i hi) w4
          rw [hv.2.2.1, hv.2.2.2.1] at hvi
          refine q_lstop (q := tE C n (tE C n (tE C n (tE C n p)))) h (by omega) hb4.2.2.1 r (r.1, r.2.1, nI (tV C n (tE C n (tE C n p))), nI m, nI (tS C n (tE C n (tE C n (tE C n p))) + 1)) fp ⟨rfl, rfl⟩ w2 hvi ?_
          rw [show (rdC C n (tE C n (tE C n (tE C n p))) (r.1, r.2.1, nI (tV C n (tE C n (tE C n p))), r.2.2.2)).2.2.2.2.2.2.1 = nI (tV C n (tE C n (tE C n p))) from rfl, c1, some_bind']
          rcases q_stop h (p := tE C n (tE C n (tE C n (tE C n p)))) hb4.2.2.1 with ⟨_, _, sc, _⟩ | ⟨sc, _⟩
          · rw [sc]; rfl
          · obtain ⟨gr', z1, z2⟩ := sc (r.1, r.2.1, nI (tV C n (tE C n (tE C n p))), nI m, nI (tS C n (tE C n (tE C n (tE C n p))) + 1))
            rw [z1]; rfl
        · obtain ⟨v, w1⟩ := rm g3 fp gnv.2.2.2.2.2.2.2.2.2.2 u2
          obtain ⟨gr', z1, z2⟩ := rc (r.1, r.2.1, nI (tV C n (tE C n (tE C n p))), r.2.2.2)
          rw [z1, some_bind', if_pos rfl]
          refine hbad hw z2 ?_
          rw [show (5 : Int32) * nI nd = nI (5 * nd) from by rw [show (5 : Int32) = nI 5 from rfl, pk_mul], w1, some_bind', if_pos hix, bad_good hw, some_bind', if_pos rfl]
          exact ⟨_, _, bad_384 hw _ _⟩
      · obtain ⟨v, u1⟩ := bm g2 fp t2
        obtain ⟨gr', z1, z2⟩ := bc (r.1, r.2.1, nI (tV C n (tE C n p)), r.2.2.2)
        rw [z1, some_bind', if_pos rfl]
        refine hbad hw z2 ?_
        rw [u1, some_bind', if_pos hix, bad_figures hw, some_bind', if_pos hix, bad_good hw, some_bind', if_pos rfl]
        exact ⟨_, _, bad_384 hw _ _⟩
    · obtain ⟨v, t1⟩ := am g1 fp s2
      obtain ⟨gr', z1, z2⟩ := ac r
      rw [z1, some_bind', if_pos rfl]
      refine hbad hw z2 ?_
      rw [t1, some_bind', if_pos hix, if_pos hix, bad_among hw, some_bind', if_pos hix, bad_figures hw, some_bind', if_pos hix, bad_good hw, some_bind', if_pos rfl]
      exact ⟨_, _, bad_384 hw _ _⟩
theorem VI_law {gv : TV} {gd : TD} {gvr : Int32 × Int32} {gnv : TNv} {V : MV} {D : MD} {nd : Nat} {L : Nat} (h : VI gv gd gvr gnv V D nd false) (hL : L ≤ 2) : VI gv (nI L, gd.2) (1, gvr.2) (gnv.1, gnv.2.1, nI L, gnv.2.2.2.1, 1, gnv.2.2.2.2.2) V (L, D.2) nd true := by
  obtain ⟨⟨v1, v2, v3, v4, v5, v6, v7, v8, v9⟩, b1, b2, b3, b4, b5, b6, b7, b8⟩ := h
  refine ⟨⟨v1, ⟨rfl, v2.2.1, v2.2.2⟩, v3, ⟨hL, v4.2.1, v4.2.2⟩, v5, v6, v7, v8, v9⟩, ?_, b2, b3, rfl, b5, rfl, b7, b8⟩
  rw [b1]; rfl
theorem q_law_line {gtx gtt : TA} {C : Nat → Nat} {n p : Nat} (h : TX gtx gtt C n) (hp : p ≤ n) (r : R5) (fp : Int32) {g : RDm} (hg : RRd g C n p) {gv : TV} {gd : TD} {gvr : Int32 × Int32} {gnv : TNv} {V : MV} {D : MD} {nd : Nat} {lt : Bool} (hv : VI gv gd gvr gnv V D nd lt) : LN gtx gtt C n p ((p_X10_readLaw gvr (rdC C n p r) gtx gd).bind fun v => (if isZ v.1 then some (v.1, (v.2.1, v.2.2.1, gv, v.2.2.2)) else none)) (if gnv.2.2.2.2.1 = 0 then p_X13_line_298 gtt (0, fp) g gnv else ((p_X13_wrong (0, fp) g 4).bind fun v => p_X13_line_298 gtt v g gnv)) r fp := by
  have hb := tk_b C hp
  have hbad : ∀ {w : Int32} {s : Nat} {gr' : RD} {gvr' : Int32 × Int32} {gd' : TD} {rf : Option ((Int32 × Int32) × RDm × TNv)}, w ≠ 0 → Rfs gr' w s → (∃ g' gnv', rf = some ((w, nI s), g', gnv')) → LN gtx gtt C n p (((some (0, (gvr', gr', gd')) : Option (Int32 × (Int32 × Int32) × RD × TD))).bind fun v => (if isZ v.1 then some (v.1, (v.2.1, v.2.2.1, gv, v.2.2.2)) else none)) rf r fp := by
    intro w s gr' gvr' gd' rf hw hr hrf
    obtain ⟨g', gnv', hrf⟩ := hrf
    right
    exact ⟨w, s, gvr', gr', gv, gd', g', gnv', hw, rfl, hr, hrf⟩
  unfold p_X10_readLaw
  rw [hv.2.2.2.2.2.2.1, show gvr.1 = (if lt = true then 1 else 0) from congrArg Prod.fst hv.2.1]
  cases lt with
  | true =>
    rw [show (if true = true then (1 : Int32) else 0) = 1 from rfl, if_neg n10, if_neg n10]
    obtain ⟨gr', a1, a2⟩ := c_rf C n p r 4
    rw [a1, some_bind', if_pos isZ0]
    refine hbad (by decide) a2 ⟨g, gnv, ?_⟩
    unfold p_X13_wrong p_X13_line_298
    rw [if_pos rfl, some_bind', hg.2.2.2.1, bad_good (by decide)]
    rfl
  | false =>
    rw [show (if false = true then (1 : Int32) else 0) = 0 from rfl, if_pos rfl, if_pos rfl]
    obtain ⟨g1, s1, s2⟩ := m_next h hp hg
    have hc1 : p_X7_step (rdC C n p r) gtx = some (rdC C n (tE C n p) r) := c_next h hp r r
    have hp2 := hb.2.2.1
    have hb2 := tk_b C hp2
    unfold p_X13_line_298
    rw [hc1, some_bind', good0, some_bind', if_neg n10, s1, some_bind']
    have good : ∀ L, L ≤ 2 → LN gtx gtt C n p ((p_X10_readLaw_106 gtx (1, gvr.2) (rdC C n (tE C n p) r) (nI L, gd.2)).bind fun v => (if isZ v.1 then some (v.1, (v.2.1, v.2.2.1, gv, v.2.2.2)) else none)) (p_X13_line_356 gtt (0, fp) g1 (gnv.1, gnv.2.1, gnv.2.2.1, gnv.2.2.2.1, 1, gnv.2.2.2.2.2) (nI L)) r fp := by
      intro L hL
      obtain ⟨g2, t1, t2⟩ := m_next h hp2 s2
      have hc2 : p_X7_step (rdC C n (tE C n p) r) gtx = some (rdC C n (tE C n (tE C n p)) r) := c_next h hp2 r r
      unfold p_X10_readLaw_106 p_X13_line_356 p_X13_line_373 p_X13_need
      rw [hc2, some_bind', if_neg (nI_ne (by omega)), good0, some_bind', if_neg n10, if_neg n10, t1, some_bind', some_bind']
      refine q_lstop (q := tE C n (tE C n p)) h (by omega) hb2.2.2.1 r r fp ⟨rfl, rfl⟩ t2 (VI_law hv hL) ?_
      rcases q_stop h (p := tE C n (tE C n p)) hb2.2.2.1 with ⟨_, _, sc, _⟩ | ⟨sc, _⟩
      · rw [sc]; rfl
      · obtain ⟨gr', z1, z2⟩ := sc r
        rw [z1]; rfl
    rcases q_word h hp2 (x := 4) (by decide) with ⟨_, wc, wm⟩ | ⟨_, wc, wm⟩
    · rw [wc, some_bind', if_neg n10, show p_X13_is g1 12 = some 1 from wm g1 s2, some_bind', if_neg n10]
      exact good 0 (by omega)
    · rw [wc, some_bind', if_pos rfl, show p_X13_is g1 12 = some 0 from wm g1 s2, some_bind', if_pos rfl]
      rcases q_word h hp2 (x := 5) (by decide) with ⟨_, wc, wm⟩ | ⟨_, wc, wm⟩
      · rw [wc, some_bind', if_neg n10, show p_X13_is g1 13 = some 1 from wm g1 s2, some_bind', if_neg n10]
        exact good 1 (by omega)
      · rw [wc, some_bind', if_pos rfl, show p_X13_is g1 13 = some 0 from wm g1 s2, some_bind', if_pos rfl]
        rcases q_word h hp2 (x := 6) (by decide) with ⟨_, wc, wm⟩ | ⟨_, wc, wm⟩
        · rw [wc, some_bind', if_neg n10, show p_X13_is g1 14 = some 1 from wm g1 s2, some_bind', if_neg n10]
          exact good 2 (by omega)
        · rw [wc, some_bind', if_pos rfl, show p_X13_is g1 14 = some 0 from wm g1 s2, some_bind', if_pos rfl]
          obtain ⟨gr', a1, a2⟩ := c_rf C n (tE C n p) r 1
          rw [a1, some_bind', if_pos isZ0]
          refine hbad (by decide) a2 ?_
          unfold p_X13_line_356 p_X13_line_373 p_X13_need p_X13_wrong
          rw [if_pos rfl, good0, some_bind', if_neg n10, if_pos rfl, if_pos rfl, some_bind', some_bind', s2.2.2.2.1]
          exact ⟨_, _, bad_384 (by decide) _ _⟩
theorem q_line {gtx gtt : TA} {C : Nat → Nat} {n p : Nat} (h : TX gtx gtt C n) (hp : p ≤ n) (r : R5) (fp : Int32) {g : RDm} (hg : RRd g C n p) {gv : TV} {gd : TD} {gvr : Int32 × Int32} {gnv : TNv} {V : MV} {D : MD} {nd : Nat} {lt : Bool} (hv : VI gv gd gvr gnv V D nd lt) : LN gtx gtt C n p (p_X10_readLine gvr (rdC C n p r) gtx gv gd) (p_X13_line gtt (0, fp) g gnv) r fp := by
  unfold p_X10_readLine p_X13_line
  rcases q_word h hp (x := 0) (by decide) with ⟨_, wc, wm⟩ | ⟨_, wc, wm⟩
  · rw [wc, some_bind', if_neg n10, show p_X13_is g 8 = some 1 from wm g hg, some_bind', if_neg n10]
    exact q_owner_line h hp r fp hg hv
  · rw [wc, some_bind', if_pos rfl, show p_X13_is g 8 = some 0 from wm g hg, some_bind', if_pos rfl]
    rcases q_word h hp (x := 1) (by decide) with ⟨_, wc, wm⟩ | ⟨_, wc, wm⟩
    · rw [wc, some_bind', if_neg n10, show p_X13_is g 10 = some 1 from wm g hg, some_bind', if_neg n10]
      exact q_door_line h hp r fp hg hv
    · rw [wc, some_bind', if_pos rfl, show p_X13_is g 10 = some 0 from wm g hg, some_bind', if_pos rfl]
      rcases q_word h hp (x := 2) (by decide) with ⟨_, wc, wm⟩ | ⟨_, wc, wm⟩
      · rw [wc, some_bind', if_neg n10, show p_X13_is g 11 = some 1 from wm g hg, some_bind', if_neg n10]
        exact q_law_line h hp r fp hg hv
      · rw [wc, some_bind', if_pos rfl, show p_X13_is g 11 = some 0 from wm g hg, some_bind', if_pos rfl]
        right
        unfold p_X13_wrong
        rw [if_pos rfl, some_bind', bad_384 (by decide), hg.2.2.2.1]
        exact ⟨1, _, _, _, _, _, _, _, by decide, rfl, ⟨rfl, rfl⟩, rfl⟩
