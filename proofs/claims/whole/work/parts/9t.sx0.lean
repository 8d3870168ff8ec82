/-! what stands outside the world at the start, out of the premises -/
abbrev fC : List Cond := flatC (Jvm.Cond.and given_1 narrow_1)
def tmW (i : Nat) : Term := if i < 7 then .string "GoatDoors$VillageReader" ([49, 58, 63, 91, 116, 120, 122].getD i 0) else .string "GoatDoors$Day" ([68, 74, 77, 80, 83, 86, 89, 92].getD (i - 7) 0)
abbrev tmD (i : Nat) : Term := .static "GoatDoors$Day" (dayN.getD i "") "LGoatDoors$Day;"
abbrev tmK : Term := .static "GoatDoors" "DAY_KINDS" "[LGoatDoors$Day;"
abbrev tmM : Term := .static "GoatDoors$1" "$SwitchMap$GoatDoors$Day" "[I"
theorem fw_ex : ∀ i, i < 15 → Cond.exactly (tmW i) "java/lang/String" ∈ fC := by decide +kernel
theorem fw_co : ∀ i, i < 15 → Cond.eq (.field (tmW i) "java/lang/String" "coder" "B") (.int 0) ∈ fC := by decide +kernel
theorem fw_ar : ∀ i, i < 15 → Cond.arrayOf (.field (tmW i) "java/lang/String" "value" "[B") .byte ∈ fC := by decide +kernel
theorem fw_le : ∀ i, i < 15 → Cond.eq (.length (.field (tmW i) "java/lang/String" "value" "[B")) (.int (Int32.ofNat (wLen.getD i 0))) ∈ fC := by decide +kernel
abbrev elW (i j : Nat) : Cond := Cond.eq (.elem (.field (tmW i) "java/lang/String" "value" "[B") (.int (Int32.ofNat j))) (.int ((wByt.getD i []).getD j 0))
set_option maxRecDepth 20000 in
theorem fw_el0 : (fC.drop 185).take 5 = (List.range 5).map (elW 0) := by decide +kernel
set_option maxRecDepth 20000 in
theorem fw_el1 : (fC.drop 203).take 4 = (List.range 4).map (elW 1) := by decide +kernel
set_option maxRecDepth 20000 in
theorem fw_el2 : (fC.drop 211).take 3 = (List.range 3).map (elW 2) := by decide +kernel
set_option maxRecDepth 20000 in
theorem fw_el3 : (fC.drop 194).take 5 = (List.range 5).map (elW 3) := by decide +kernel
set_option maxRecDepth 20000 in
theorem fw_el4 : (fC.drop 218).take 4 = (List.range 4).map (elW 4) := by decide +kernel
set_option maxRecDepth 20000 in
theorem fw_el5 : (fC.drop 226).take 3 = (List.range 3).map (elW 5) := by decide +kernel
set_option maxRecDepth 20000 in
theorem fw_el6 : (fC.drop 233).take 8 = (List.range 8).map (elW 6) := by decide +kernel
set_option maxRecDepth 20000 in
theorem fw_el7 : (fC.drop 557).take 4 = (List.range 4).map (elW 7) := by decide +kernel
set_option maxRecDepth 20000 in
theorem fw_el8 : (fC.drop 565).take 5 = (List.range 5).map (elW 8) := by decide +kernel
set_option maxRecDepth 20000 in
theorem fw_el9 : (fC.drop 574).take 4 = (List.range 4).map (elW 9) := by decide +kernel
set_option maxRecDepth 20000 in
theorem fw_el10 : (fC.drop 582).take 6 = (List.range 6).map (elW 10) := by decide +kernel
set_option maxRecDepth 20000 in
theorem fw_el11 : (fC.drop 547).take 6 = (List.range 6).map (elW 11) := by decide +kernel
set_option maxRecDepth 20000 in
theorem fw_el12 : (fC.drop 592).take 3 = (List.range 3).map (elW 12) := by decide +kernel
set_option maxRecDepth 20000 in
theorem fw_el13 : (fC.drop 599).take 5 = (List.range 5).map (elW 13) := by decide +kernel
set_option maxRecDepth 20000 in
theorem fw_el14 : (fC.drop 608).take 4 = (List.range 4).map (elW 14) := by decide +kernel
theorem mem_dt {l : List Cond} {p n i : Nat} (h : (l.drop p).take n = (List.range n).map (elW i)) {j : Nat} (hj : j < n) : elW i j ∈ l := List.mem_of_mem_drop (List.mem_of_mem_take (by rw [h]; exact List.mem_map.mpr ⟨j, List.mem_range.mpr hj, rfl⟩))
theorem fw_el : ∀ i, i < 15 → ∀ j, j < wLen.getD i 0 → elW i j ∈ fC := by
  intro i hi
  match i, hi with
  | 0, _ => exact fun j hj => mem_dt fw_el0 hj
  | 1, _ => exact fun j hj => mem_dt fw_el1 hj
  | 2, _ => exact fun j hj => mem_dt fw_el2 hj
  | 3, _ => exact fun j hj => mem_dt fw_el3 hj
  | 4, _ => exact fun j hj => mem_dt fw_el4 hj
  | 5, _ => exact fun j hj => mem_dt fw_el5 hj
  | 6, _ => exact fun j hj => mem_dt fw_el6 hj
  | 7, _ => exact fun j hj => mem_dt fw_el7 hj
  | 8, _ => exact fun j hj => mem_dt fw_el8 hj
  | 9, _ => exact fun j hj => mem_dt fw_el9 hj
  | 10, _ => exact fun j hj => mem_dt fw_el10 hj
  | 11, _ => exact fun j hj => mem_dt fw_el11 hj
  | 12, _ => exact fun j hj => mem_dt fw_el12 hj
  | 13, _ => exact fun j hj => mem_dt fw_el13 hj
  | 14, _ => exact fun j hj => mem_dt fw_el14 hj
  | n + 15, h => exact absurd h (by omega)
theorem fw_sm : ∀ i, i < 15 → wLen.getD i 0 < 2 ^ 31 := by decide +kernel
theorem fw_ne : ∀ i, i < 15 → ∀ j, j < 15 → Int32.ofNat (wLen.getD i 0) = Int32.ofNat (wLen.getD j 0) → (∀ k, k < wLen.getD i 0 → k < wLen.getD j 0 → (wByt.getD i []).getD k 0 = (wByt.getD j []).getD k 0) → i = j := by decide +kernel
theorem fd_ex : ∀ i, i < 8 → Cond.exactly (tmD i) "GoatDoors$Day" ∈ fC := by decide +kernel
theorem fd_f : ∀ q ∈ dayF, ∀ i, i < 8 → Cond.eq (.field (tmD i) q.1 q.2.1 q.2.2.1) (.int (q.2.2.2.getD i 0)) ∈ fC := by decide +kernel
theorem fd_d : ∀ i, i < 8 → ∀ j, j < 8 → i ≠ j → Cond.not (.eq (tmD i) (tmD j)) ∈ fC ∨ Cond.not (.eq (tmD j) (tmD i)) ∈ fC := by decide +kernel
theorem fd_w : ∀ i, i < 8 → Cond.eq (.field (tmD i) "GoatDoors$Day" "word" "Ljava/lang/String;") (tmW (7 + i)) ∈ fC := by decide +kernel
theorem fd_l : ∀ i, i < 8 → Cond.laysStatic "GoatDoors$Day" (dayN.getD i "") "LGoatDoors$Day;" ∈ lw_tbl := by decide +kernel
theorem fk_e : ∀ j, j < 8 → Cond.eq (.elem tmK (.int (Int32.ofNat j))) (tmD j) ∈ fC := by decide +kernel
theorem fm_e : ∀ j, j < 8 → Cond.eq (.elem tmM (.int (Int32.ofNat j))) (.int (nI (j + 1))) ∈ fC := by decide +kernel
theorem fx_e : ∀ q ∈ exTexts, Cond.exactly (.string "GoatDoors" q.1) "java/lang/String" ∈ fC := by decide +kernel
theorem fx_r : ∀ q ∈ exTexts, Cond.stringRef "GoatDoors" q.1 q.2 ∈ lw_tbl := by decide +kernel
theorem fx_w : ∀ q ∈ wdTexts, Cond.stringRef "GoatDoors$VillageReader" q.1 q.2.1 ∈ lw_tbl ∧ q.2.2 < 15 ∧ tmW q.2.2 = .string "GoatDoors$VillageReader" q.1 := by decide +kernel
theorem fx_d : ∀ Y ∈ exD, Cond.declares (Bundle.initS Y) ∈ lw_tbl := by decide +kernel
theorem OF_inj {o n d : String} {v v' : Value} {t : Nat} {A : Nat → Prop} {U : State} {H : Heap} (h : va_OF o n d v t A U H) (h' : va_OF o n d v' t A U H) : v = v' := by
  obtain ⟨c1, k1, i1, f1, e1, a1, a2, a3, a4, a5, a6⟩ := h
  obtain ⟨c2, k2, i2, f2, e2, b1, b2, b3, b4, b5, b6⟩ := h'
  rw [a1] at b1; cases b1
  rw [a3] at b3; cases b3
  rw [a5] at b5; exact Option.some.inj b5
theorem Z_inj {C n d : String} {v v' : Value} {A : Nat → Prop} {U : State} {H : Heap} (h : va_Z C n d v A U H) (h' : va_Z C n d v' A U H) : v = v' := by
  obtain ⟨c1, k1, i1, f1, x1, e1, a1, a2, a3, a4, a5, a6, a7, a8⟩ := h
  obtain ⟨c2, k2, i2, f2, x2, e2, b1, b2, b3, b4, b5, b6, b7, b8⟩ := h'
  rw [a1] at b1; cases b1
  rw [a4] at b4; cases b4
  rw [a5] at b5; cases b5
  rw [a7] at b7; exact Option.some.inj b7
theorem T_congr {ty : FieldType} {t N : Nat} {f g : Nat → Value} {A : Nat → Prop} {U : State} {H : Heap} (hfg : ∀ j, j < N → f j = g j) (h : va_T ty t N f A U H) : va_T ty t N g A U H := by
  obtain ⟨c, h1, h2, h3, h4, h5, h6, h7⟩ := h
  exact ⟨c, h1, h2, h3, h4, h5, fun j hj => by rw [← hfg j hj]; exact h6 j hj, h7⟩
theorem w_start {args : Array Value} {s : State} (hs : ∀ c ∈ fC, c.before args s = true) {A : Nat → Prop} (hA : ∀ a : Nat, a < s.heap.size → ¬ A a) : ∃ adK adV : Nat → Nat, vk_S 15 wLen wByt adK adV A s s.heap ∧ ∀ i, i < 15 → (tmW i).eval args s none [] s = some (.ref (adK i)) := by
  have h1 : ∀ i : Nat, ∃ q : Nat × Nat, i < 15 → (tmW i).eval args s none [] s = some (.ref q.1) ∧ va_O "java/lang/String" q.1 A s s.heap ∧ va_OF "java/lang/String" "coder" "B" (.int 0) q.1 A s s.heap ∧ va_OF "java/lang/String" "value" "[B" (.ref q.2) q.1 A s s.heap ∧ va_T .byte q.2 (wLen.getD i 0) (fun j => .int ((wByt.getD i []).getD j 0)) A s s.heap := by
    intro i
    by_cases hi : i < 15
    · obtain ⟨k, v, h, he⟩ := vk_Sof (args := args) (s := s) (N := 1) (tm := fun _ => tmW i) (len := [wLen.getD i 0]) (byt := [wByt.getD i []]) (A := A)
        (fun j hj => by cases Nat.lt_one_iff.mp hj; exact fw_sm i hi) (fun _ _ => hs _ (fw_ex i hi)) (fun _ _ => hs _ (fw_co i hi)) (fun _ _ => hs _ (fw_ar i hi)) (fun j hj => by cases Nat.lt_one_iff.mp hj; exact hs _ (fw_le i hi)) (fun j hj => by cases Nat.lt_one_iff.mp hj; exact fun k hk => hs _ (fw_el i hi k hk)) (fun a b ha hb hab => absurd ((Nat.lt_one_iff.mp ha).trans (Nat.lt_one_iff.mp hb).symm) hab) hA
      exact ⟨(k 0, v 0), fun _ => ⟨he 0 (by decide), h.1 0 (by decide)⟩⟩
    · exact ⟨(0, 0), fun h => absurd h hi⟩
  obtain ⟨ad, had⟩ := Classical.axiomOfChoice h1
  refine ⟨fun i => (ad i).1, fun i => (ad i).2, ⟨fun i hi => (had i hi).2, fun i j hi hj e => ?_⟩, fun i hi => (had i hi).1⟩
  have e : (ad i).1 = (ad j).1 := e
  obtain ⟨-, -, -, v1, t1⟩ := had i hi
  obtain ⟨-, -, -, v2, t2⟩ := had j hj
  rw [← e] at v2
  have e2 : (ad i).2 = (ad j).2 := Value.ref.inj (OF_inj v1 v2)
  rw [← e2] at t2
  obtain ⟨c1, a1, a2, a3, a4, a5, a6, a7⟩ := t1
  obtain ⟨c2, b1, b2, b3, b4, b5, b6, b7⟩ := t2
  rw [a1] at b1; cases b1
  refine fw_ne i hi j hj (a5.symm.trans b5) (fun k h1 h2 => ?_)
  have h3 := (a6 k h1).symm.trans (b6 k h2)
  exact Value.int.inj (Option.some.inj h3)
theorem sx_start {args : Array Value} {s : State} (hs : ∀ c ∈ fC, c.before args s = true) (hts : ∀ w ∈ lw_tbl, w.before args s = true) : ∃ z : Nat → Nat, Sx z (lA s) s := by
  have hA : ∀ a : Nat, a < s.heap.size → ¬ lA s a := fun a h => Nat.not_le.mpr h
  obtain ⟨adK, adV, hW, hWe⟩ := w_start hs hA
  obtain ⟨ad, hE⟩ := va_Ecof (args := args) (s := s) (SC := "GoatDoors$Day") (E := "GoatDoors$Day") (d := "LGoatDoors$Day;") (nm := dayN) (F := dayF) (A := lA s) (fun i hi => hts _ (fd_l i hi)) (hts (.initialized "GoatDoors$Day") (by decide +kernel)) (fun i hi => hs _ (fd_ex i hi)) (fun q hq i hi => hs _ (fd_f q hq i hi)) (fun i j hi hj h => (fd_d i hi j hj h).imp (hs _) (hs _)) hA
  have hDe : ∀ i, i < 8 → (tmD i).eval args s none [] s = some (.ref (ad i)) := fun i hi => by
    obtain ⟨a, c, cell, k, q1, -⟩ := Cond.exactly_spec (hs _ (fd_ex i hi))
    have h9 := Z_inj (va_Zref (hts _ (fd_l i hi)) (hts (.initialized "GoatDoors$Day") (by decide +kernel)) q1 hA) (hE.1 i hi).1
    rw [q1, h9]
  obtain ⟨dk, hk1, hk2⟩ := va_Tof (args := args) (s := s) (tm := tmK) (ty := .object "GoatDoors$Day") (N := 8) (f := fun j => .ref (ad j)) (A := lA s) (by decide) (hs (.arrayOf tmK (.object "GoatDoors$Day")) (by decide +kernel)) (va_eqt (hs (.eq (.length tmK) (.int 8)) (by decide +kernel))) (fun j hj => va_eqv (hs _ (fk_e j hj)) (hDe j hj)) hA
  obtain ⟨sm, hm1, hm2⟩ := va_Tof (args := args) (s := s) (tm := tmM) (ty := .int) (N := 8) (f := fun j => .int (nI (j + 1))) (A := lA s) (by decide) (hs (.arrayOf tmM .int) (by decide +kernel)) (va_eqt (hs (.eq (.length tmM) (.int 8)) (by decide +kernel))) (fun j hj => va_eqt (hs _ (fm_e j hj))) hA
  have hX : ∀ k : Nat, ∃ a : Nat, ∀ t, (k, t) ∈ exTexts → (Term.string "GoatDoors" k).eval args s none [] s = some (.ref a) := fun k => by
    by_cases h : ∃ t, (k, t) ∈ exTexts
    · obtain ⟨t, ht⟩ := h
      obtain ⟨a, c, cell, k2, q1, -⟩ := Cond.exactly_spec (hs _ (fx_e (k, t) ht))
      exact ⟨a, fun _ _ => q1⟩
    · exact ⟨0, fun t ht => absurd ⟨t, ht⟩ h⟩
  obtain ⟨tx, htx⟩ := Classical.axiomOfChoice hX
  obtain ⟨z, hz⟩ : ∃ z : Nat → Nat, z = fun n => if n < 15 then adK n else if n < 200 then adV (n - 100) else if n < 300 then ad (n - 200) else if n = 300 then dk else if n = 301 then sm else tx (n - 400) := ⟨_, rfl⟩
  have zK : ∀ i, i < 15 → z i = adK i := fun i hi => by rw [hz]; exact if_pos hi
  have zV : ∀ i, i < 15 → z (100 + i) = adV i := fun i hi => by rw [hz]; exact (if_neg (by omega)).trans ((if_pos (by omega)).trans (congrArg adV (by omega)))
  have zD : ∀ i, i < 8 → z (200 + i) = ad i := fun i hi => by rw [hz]; exact (if_neg (by omega)).trans ((if_neg (by omega)).trans ((if_pos (by omega)).trans (congrArg ad (by omega))))
  have z0 : z 300 = dk := by rw [hz]; rfl
  have z1 : z 301 = sm := by rw [hz]; rfl
  have zT : ∀ k, z (400 + k) = tx k := fun k => by rw [hz]; exact (if_neg (by omega)).trans ((if_neg (by omega)).trans ((if_neg (by omega)).trans ((if_neg (by omega)).trans ((if_neg (by omega)).trans (congrArg tx (by omega))))))
  refine ⟨z, fun q hq => ?_, vx_Zqof (hts (.laysStatic Bundle.tN "UNASSIGNED_STACK" Bundle.steD) (by decide +kernel)) (hts (.initialized Bundle.tN) (by decide +kernel)) (hs (.isRef (.static Bundle.tN "UNASSIGNED_STACK" Bundle.steD)) (by decide +kernel)) hA, vx_Zqof (hts (.laysStatic Bundle.tN "SUPPRESSED_SENTINEL" Bundle.listD) (by decide +kernel)) (hts (.initialized Bundle.tN) (by decide +kernel)) (hs (.isRef (.static Bundle.tN "SUPPRESSED_SENTINEL" Bundle.listD)) (by decide +kernel)) hA, ?_, va_Nw.of rfl (hts (.castable "java/util/NoSuchElementException" "java/util/NoSuchElementException") (by decide +kernel)), va_Nw.of rfl (hts (.castable "java/lang/IllegalArgumentException" "java/lang/IllegalArgumentException") (by decide +kernel)), fun Y hY => va_Nw.of rfl (hts _ (fx_d Y hY)), va_Nw.of rfl (hts (.fieldLinkNest RX3 84 "GoatDoors" "DAY_KINDS" "[LGoatDoors$Day;" "GoatDoors") (by decide +kernel))⟩
  · rw [zT]
    exact vk_R.of (hts _ (fx_r q hq)) (htx q.1 q.2 hq)
  refine ⟨⟨fun i hi => ?_, fun i j hi hj e => hW.2 i j hi hj ((zK i hi).symm.trans (e.trans (zK j hj)))⟩, fun q hq => ?_, ⟨fun i hi => ?_, fun i j hi hj e => hE.2 i j hi hj ((zD i hi).symm.trans (e.trans (zD j hj)))⟩, fun i hi => ?_, ?_, ?_, ?_, ?_, va_Zof (hts (.laysStatic "java/lang/String" "COMPACT_STRINGS" "Z") (by decide +kernel)) (hts (.initialized "java/lang/String") (by decide +kernel)) (va_eqi (hs (.eq (.static "java/lang/String" "COMPACT_STRINGS" "Z") (.int 1)) (by decide +kernel))) hA, va_Zqof (hts (.laysStatic "jdk/internal/util/Preconditions" "SIOOBE_FORMATTER" "Ljava/util/function/BiFunction;") (by decide +kernel)) (hts (.initialized "jdk/internal/util/Preconditions") (by decide +kernel)) (hs (.isRef (.static "jdk/internal/util/Preconditions" "SIOOBE_FORMATTER" "Ljava/util/function/BiFunction;")) (by decide +kernel)) hA⟩
  · have h9 := hW.1 i hi
    rw [← zK i hi, ← zV i hi] at h9
    exact h9
  · obtain ⟨w1, w2, w3⟩ := fx_w q hq
    have h9 := hWe _ w2
    rw [w3] at h9
    rw [zK _ w2]
    exact vk_R.of (hts _ w1) h9
  · have h9 := hE.1 i hi
    rw [← zD i hi] at h9
    exact h9
  · rw [zD i hi, zK (7 + i) (by omega)]
    exact vk_OFof (hDe i hi) (va_eqv (hs _ (fd_w i hi)) (hWe (7 + i) (by omega))) hA
  · rw [z0]
    exact va_Zof (hts (.laysStatic "GoatDoors" "DAY_KINDS" "[LGoatDoors$Day;") (by decide +kernel)) (hts (.initialized "GoatDoors") (by decide +kernel)) hk1 hA
  · rw [z0]
    exact T_congr (fun j hj => by rw [zD j hj]) hk2
  · rw [z1]
    exact va_Zof (hts (.laysStatic "GoatDoors$1" "$SwitchMap$GoatDoors$Day" "[I") (by decide +kernel)) (hts (.initialized "GoatDoors$1") (by decide +kernel)) hm1 hA
  · rw [z1]
    exact hm2
