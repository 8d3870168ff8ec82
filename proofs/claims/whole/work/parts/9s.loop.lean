theorem lp_gt {L k : Nat} (hL : L ≤ 3072) (hk : k ≤ L) : (nI L - 6 < nI k) ↔ L < k + 6 := by
  rw [show (6 : Int32) = iI 6 from rfl, nI_iI, nI_iI, iI_sub, iI_lt (by omega) (by omega) (by omega) (by omega)]; omega
theorem lp_add (k j : Nat) : nI k + nI j = nI (k + j) := by rw [nI_iI, nI_iI, iI_add, nI_iI, Int.natCast_add]
theorem lp_in {k j L : Nat} (h : k + j < L) (hL : L ≤ 3072) : vp_in (nI k + nI j) L := by rw [lp_add]; exact vp_in_nI h (by omega)

theorem law_out {p : Program} {l : Launch} {e : Env} {s : State} {m : MethodId} {below : List Frame} {meth : Method} {c : Code} {dC : Nat → ClassId} {dI : Nat → Nat → Nat} {cy : Nat → ClassId} {z : Nat → Nat} {b L : Nat} {xs : Nat → Int32} (E : LE p l s m c dC dI cy z b L xs) (hr : meth.sig.returnType = ret) (hlocks : meth.locks = false) (a0 a1 : Nat → Nat) (b0 : Nat) (i : Int32) (cells slots : Nat) (hcl : cells ≤ 601024) (hsl : slots ≤ 7293034) : LK p l e s m below meth c dC dI cy z b a0 a1 b0 i cells slots 1666 := by
  intro gg gvn gdn gcn gvd gdd gcd gvk gdk gck gr gvr gdr gne ggm gcs gwa gtx kth kvm ktt ktd kfl krf krd knv kac kla kne kgm ksp krc kod kwr kim o H locs ls hI hP hD hS hl
  obtain ⟨hx, hb, hml, hown, hts, hXs, hbl, hK, hSx, hN, hl9⟩ := id E
  have hbA : ¬ lA s b := Nat.not_le.mpr hbl
  refine lv_iconst (v := (1 : Int32)) hx hb dL_law_1666 (by decide) ?_
  refine va_forget (fun q hq => hS.2.2 q hq) ?_
  refine W.widen (k := 601024) (n := 7293034) hcl hsl ?_
  exact lw_ret hx hb hr hlocks dL_law_1667

theorem law_head {p : Program} {l : Launch} {e : Env} {s : State} {m : MethodId} {below : List Frame} {meth : Method} {c : Code} {dC : Nat → ClassId} {dI : Nat → Nat → Nat} {cy : Nat → ClassId} {z : Nat → Nat} {b L : Nat} {xs : Nat → Int32} (E : LE p l s m c dC dI cy z b L xs) (hL : L ≤ 3072) (hr : meth.sig.returnType = ret) (hlocks : meth.locks = false) (a0 a1 : Nat → Nat) (b0 j : Nat) (hj : 6 * j ≤ L) (cells slots : Nat) (hcl : cells ≤ 601024) (hsl : slots ≤ 7293034) (kk : 6 * j + 6 ≤ L → LK p l e s m below meth c dC dI cy z b a0 a1 b0 (nI (6 * j)) cells slots 33) : LK p l e s m below meth c dC dI cy z b a0 a1 b0 (nI (6 * j)) cells slots 23 := by
  intro gg gvn gdn gcn gvd gdd gcd gvk gdk gck gr gvr gdr gne ggm gcs gwa gtx kth kvm ktt ktd kfl krf krd knv kac kla kne kgm ksp krc kod kwr kim o H locs ls hI hP hD hS hl
  obtain ⟨hx, hb, hml, hown, hts, hXs, hbl, hK, hSx, hN, hl9⟩ := id E
  have hbA : ¬ lA s b := Nat.not_le.mpr hbl
  refine lv_iload hx hb dL_law_23 (lv_at hl 4 rfl) ?_
  refine lv_aload_n hx hb dL_law_25 rfl (lv_at hl 0 rfl) ?_
  refine va_slen hx hb hXs hbl hbA hS dL_law_26 ?_
  refine lv_bipush (v := (6 : Int32)) hx hb dL_law_27 (by decide) ?_
  refine lv_isub hx hb dL_law_29 ?_
  refine lv_icmp_gt (tgt := 1666) hx hb dL_law_30 (by decide) (fun c9 => ?_) (fun c9 => ?_)
  · exact law_out E hr hlocks a0 a1 b0 _ cells slots hcl hsl gg gvn gdn gcn gvd gdd gcd gvk gdk gck gr gvr gdr gne ggm gcs gwa gtx kth kvm ktt ktd kfl krf krd knv kac kla kne kgm ksp krc kod kwr kim o H locs ls hI hP hD hS hl
  · exact kk (Nat.le_of_not_lt (fun h => c9 ((lp_gt hL hj).mpr h))) gg gvn gdn gcn gvd gdd gcd gvk gdk gck gr gvr gdr gne ggm gcs gwa gtx kth kvm ktt ktd kfl krf krd knv kac kla kne kgm ksp krc kod kwr kim o H locs ls hI hP hD hS hl

set_option maxHeartbeats 4000000 in
set_option maxRecDepth 100000 in
theorem law_turn {p : Program} {l : Launch} {e : Env} {s : State} {m : MethodId} {below : List Frame} {meth : Method} {c : Code} {dC : Nat → ClassId} {dI : Nat → Nat → Nat} {cy : Nat → ClassId} {z : Nat → Nat} {b L : Nat} {xs : Nat → Int32} (E : LE p l s m c dC dI cy z b L xs) (hL : L ≤ 3072) (a0 a1 : Nat → Nat) (b0 j : Nat) (hj : 6 * j + 6 ≤ L) (cells slots : Nat) (hcl : cells + 3 ≤ 601024) (hsl : slots + 18 ≤ 7293034) (kk : LK p l e s m below meth c dC dI cy z b a0 a1 b0 (nI (6 * j)) (cells + 3) (slots + 18) 1660) : LK p l e s m below meth c dC dI cy z b a0 a1 b0 (nI (6 * j)) cells slots 33 := by
  intro gg gvn gdn gcn gvd gdd gcd gvk gdk gck gr gvr gdr gne ggm gcs gwa gtx kth kvm ktt ktd kfl krf krd knv kac kla kne kgm ksp krc kod kwr kim o H locs ls hI hP hD hS hl
  obtain ⟨hx, hb, hml, hown, hts, hXs, hbl, hK, hSx, hN, hl9⟩ := id E
  have hbA : ¬ lA s b := Nat.not_le.mpr hbl
  have hi1 : vp_in (nI (6 * j) + (1 : Int32)) L := lp_in (k := 6 * j) (j := 1) (by omega) hL
  have hi2 : vp_in (nI (6 * j) + (2 : Int32)) L := lp_in (k := 6 * j) (j := 2) (by omega) hL
  have hi3 : vp_in (nI (6 * j) + (3 : Int32)) L := lp_in (k := 6 * j) (j := 3) (by omega) hL
  have hi4 : vp_in (nI (6 * j) + (4 : Int32)) L := lp_in (k := 6 * j) (j := 4) (by omega) hL
  have hi5 : vp_in (nI (6 * j) + (5 : Int32)) L := lp_in (k := 6 * j) (j := 5) (by omega) hL
  refine lv_aload_n hx hb dL_law_33 rfl (lv_at hl 0 rfl) ?_
  refine lv_iload hx hb dL_law_34 (lv_at hl 4 rfl) ?_
  refine va_sld hx hb hXs hbl hbA hS (vp_in_nI (by omega) (by omega)) dL_law_36 ?_
  refine lv_bipush (v := (31 : Int32)) hx hb dL_law_37 (by decide) ?_
  refine lv_iand hx hb dL_law_39 ?_
  obtain ⟨x9, hx9⟩ : ∃ y : Int32, y = xs (nI (6 * j)).toNatClampNeg &&& 31 := ⟨_, rfl⟩
  rw [← hx9]
  by_cases c0 : x9 = (0 : Int32)
  · refine lv_tableIn (off := 116) (tgt := 156) hx hb dL_law_40 (by rw [c0]; decide) (by rw [c0]; decide) (by rw [c0]; decide) (by decide) ?_
    exact lc_0 E a0 a1 b0 _ hi1 hi2 hi3 hi4 hi5 cells slots hcl hsl kk gg gvn gdn gcn gvd gdd gcd gvk gdk gck gr gvr gdr gne ggm gcs gwa gtx kth kvm ktt ktd kfl krf krd knv kac kla kne kgm ksp krc kod kwr kim o H locs ls hI hP hD hS hl
  by_cases c1 : x9 = (1 : Int32)
  · refine lv_tableIn (off := 189) (tgt := 229) hx hb dL_law_40 (by rw [c1]; decide) (by rw [c1]; decide) (by rw [c1]; decide) (by decide) ?_
    exact lc_1 E a0 a1 b0 _ hi1 hi2 hi3 hi4 hi5 cells slots hcl hsl kk gg gvn gdn gcn gvd gdd gcd gvk gdk gck gr gvr gdr gne ggm gcs gwa gtx kth kvm ktt ktd kfl krf krd knv kac kla kne kgm ksp krc kod kwr kim o H locs ls hI hP hD hS hl
  by_cases c2 : x9 = (2 : Int32)
  · refine lv_tableIn (off := 245) (tgt := 285) hx hb dL_law_40 (by rw [c2]; decide) (by rw [c2]; decide) (by rw [c2]; decide) (by decide) ?_
    exact lc_2 E a0 a1 b0 _ hi1 hi2 hi3 hi4 hi5 cells slots hcl hsl kk gg gvn gdn gcn gvd gdd gcd gvk gdk gck gr gvr gdr gne ggm gcs gwa gtx kth kvm ktt ktd kfl krf krd knv kac kla kne kgm ksp krc kod kwr kim o H locs ls hI hP hD hS hl
  by_cases c3 : x9 = (3 : Int32)
  · refine lv_tableIn (off := 301) (tgt := 341) hx hb dL_law_40 (by rw [c3]; decide) (by rw [c3]; decide) (by rw [c3]; decide) (by decide) ?_
    exact lc_3 E a0 a1 b0 _ hi1 hi2 hi3 hi4 hi5 cells slots hcl hsl kk gg gvn gdn gcn gvd gdd gcd gvk gdk gck gr gvr gdr gne ggm gcs gwa gtx kth kvm ktt ktd kfl krf krd knv kac kla kne kgm ksp krc kod kwr kim o H locs ls hI hP hD hS hl
  by_cases c4 : x9 = (4 : Int32)
  · refine lv_tableIn (off := 314) (tgt := 354) hx hb dL_law_40 (by rw [c4]; decide) (by rw [c4]; decide) (by rw [c4]; decide) (by decide) ?_
    exact lc_4 E a0 a1 b0 _ hi1 hi2 hi3 hi4 hi5 cells slots hcl hsl kk gg gvn gdn gcn gvd gdd gcd gvk gdk gck gr gvr gdr gne ggm gcs gwa gtx kth kvm ktt ktd kfl krf krd knv kac kla kne kgm ksp krc kod kwr kim o H locs ls hI hP hD hS hl
  by_cases c5 : x9 = (5 : Int32)
  · refine lv_tableIn (off := 370) (tgt := 410) hx hb dL_law_40 (by rw [c5]; decide) (by rw [c5]; decide) (by rw [c5]; decide) (by decide) ?_
    exact lc_5 E a0 a1 b0 _ hi1 hi2 hi3 hi4 hi5 cells slots hcl hsl kk gg gvn gdn gcn gvd gdd gcd gvk gdk gck gr gvr gdr gne ggm gcs gwa gtx kth kvm ktt ktd kfl krf krd knv kac kla kne kgm ksp krc kod kwr kim o H locs ls hI hP hD hS hl
  by_cases c6 : x9 = (6 : Int32)
  · refine lv_tableIn (off := 438) (tgt := 478) hx hb dL_law_40 (by rw [c6]; decide) (by rw [c6]; decide) (by rw [c6]; decide) (by decide) ?_
    exact lc_6 E a0 a1 b0 _ hi1 hi2 hi3 hi4 hi5 cells slots hcl hsl kk gg gvn gdn gcn gvd gdd gcd gvk gdk gck gr gvr gdr gne ggm gcs gwa gtx kth kvm ktt ktd kfl krf krd knv kac kla kne kgm ksp krc kod kwr kim o H locs ls hI hP hD hS hl
  by_cases c7 : x9 = (7 : Int32)
  · refine lv_tableIn (off := 506) (tgt := 546) hx hb dL_law_40 (by rw [c7]; decide) (by rw [c7]; decide) (by rw [c7]; decide) (by decide) ?_
    exact lc_7 E a0 a1 b0 _ hi1 hi2 hi3 hi4 hi5 cells slots hcl hsl kk gg gvn gdn gcn gvd gdd gcd gvk gdk gck gr gvr gdr gne ggm gcs gwa gtx kth kvm ktt ktd kfl krf krd knv kac kla kne kgm ksp krc kod kwr kim o H locs ls hI hP hD hS hl
  by_cases c8 : x9 = (8 : Int32)
  · refine lv_tableIn (off := 574) (tgt := 614) hx hb dL_law_40 (by rw [c8]; decide) (by rw [c8]; decide) (by rw [c8]; decide) (by decide) ?_
    exact lc_8 E a0 a1 b0 _ hi1 hi2 hi3 hi4 hi5 cells slots hcl hsl kk gg gvn gdn gcn gvd gdd gcd gvk gdk gck gr gvr gdr gne ggm gcs gwa gtx kth kvm ktt ktd kfl krf krd knv kac kla kne kgm ksp krc kod kwr kim o H locs ls hI hP hD hS hl
  by_cases c9 : x9 = (9 : Int32)
  · refine lv_tableIn (off := 642) (tgt := 682) hx hb dL_law_40 (by rw [c9]; decide) (by rw [c9]; decide) (by rw [c9]; decide) (by decide) ?_
    exact lc_9 E a0 a1 b0 _ hi1 hi2 hi3 hi4 hi5 cells slots hcl hsl kk gg gvn gdn gcn gvd gdd gcd gvk gdk gck gr gvr gdr gne ggm gcs gwa gtx kth kvm ktt ktd kfl krf krd knv kac kla kne kgm ksp krc kod kwr kim o H locs ls hI hP hD hS hl
  by_cases c10 : x9 = (10 : Int32)
  · refine lv_tableIn (off := 722) (tgt := 762) hx hb dL_law_40 (by rw [c10]; decide) (by rw [c10]; decide) (by rw [c10]; decide) (by decide) ?_
    exact lc_10 E a0 a1 b0 _ hi1 hi2 hi3 hi4 hi5 cells slots hcl hsl kk gg gvn gdn gcn gvd gdd gcd gvk gdk gck gr gvr gdr gne ggm gcs gwa gtx kth kvm ktt ktd kfl krf krd knv kac kla kne kgm ksp krc kod kwr kim o H locs ls hI hP hD hS hl
  by_cases c11 : x9 = (11 : Int32)
  · refine lv_tableIn (off := 778) (tgt := 818) hx hb dL_law_40 (by rw [c11]; decide) (by rw [c11]; decide) (by rw [c11]; decide) (by decide) ?_
    exact lc_11 E a0 a1 b0 _ hi1 hi2 hi3 hi4 hi5 cells slots hcl hsl kk gg gvn gdn gcn gvd gdd gcd gvk gdk gck gr gvr gdr gne ggm gcs gwa gtx kth kvm ktt ktd kfl krf krd knv kac kla kne kgm ksp krc kod kwr kim o H locs ls hI hP hD hS hl
  by_cases c12 : x9 = (12 : Int32)
  · refine lv_tableIn (off := 846) (tgt := 886) hx hb dL_law_40 (by rw [c12]; decide) (by rw [c12]; decide) (by rw [c12]; decide) (by decide) ?_
    exact lc_12 E a0 a1 b0 _ hi1 hi2 hi3 hi4 hi5 cells slots hcl hsl kk gg gvn gdn gcn gvd gdd gcd gvk gdk gck gr gvr gdr gne ggm gcs gwa gtx kth kvm ktt ktd kfl krf krd knv kac kla kne kgm ksp krc kod kwr kim o H locs ls hI hP hD hS hl
  by_cases c13 : x9 = (13 : Int32)
  · refine lv_tableIn (off := 954) (tgt := 994) hx hb dL_law_40 (by rw [c13]; decide) (by rw [c13]; decide) (by rw [c13]; decide) (by decide) ?_
    exact lc_13 E a0 a1 b0 _ hi1 hi2 hi3 hi4 hi5 cells slots hcl hsl kk gg gvn gdn gcn gvd gdd gcd gvk gdk gck gr gvr gdr gne ggm gcs gwa gtx kth kvm ktt ktd kfl krf krd knv kac kla kne kgm ksp krc kod kwr kim o H locs ls hI hP hD hS hl
  by_cases c14 : x9 = (14 : Int32)
  · refine lv_tableIn (off := 1034) (tgt := 1074) hx hb dL_law_40 (by rw [c14]; decide) (by rw [c14]; decide) (by rw [c14]; decide) (by decide) ?_
    exact lc_14 E a0 a1 b0 _ hi1 hi2 hi3 hi4 hi5 cells slots hcl hsl kk gg gvn gdn gcn gvd gdd gcd gvk gdk gck gr gvr gdr gne ggm gcs gwa gtx kth kvm ktt ktd kfl krf krd knv kac kla kne kgm ksp krc kod kwr kim o H locs ls hI hP hD hS hl
  by_cases c15 : x9 = (15 : Int32)
  · refine lv_tableIn (off := 1083) (tgt := 1123) hx hb dL_law_40 (by rw [c15]; decide) (by rw [c15]; decide) (by rw [c15]; decide) (by decide) ?_
    exact lc_15 E a0 a1 b0 _ hi1 hi2 hi3 hi4 hi5 cells slots hcl hsl kk gg gvn gdn gcn gvd gdd gcd gvk gdk gck gr gvr gdr gne ggm gcs gwa gtx kth kvm ktt ktd kfl krf krd knv kac kla kne kgm ksp krc kod kwr kim o H locs ls hI hP hD hS hl
  by_cases c16 : x9 = (16 : Int32)
  · refine lv_tableIn (off := 1096) (tgt := 1136) hx hb dL_law_40 (by rw [c16]; decide) (by rw [c16]; decide) (by rw [c16]; decide) (by decide) ?_
    exact lc_16 E a0 a1 b0 _ hi1 hi2 hi3 hi4 hi5 cells slots hcl hsl kk gg gvn gdn gcn gvd gdd gcd gvk gdk gck gr gvr gdr gne ggm gcs gwa gtx kth kvm ktt ktd kfl krf krd knv kac kla kne kgm ksp krc kod kwr kim o H locs ls hI hP hD hS hl
  by_cases c17 : x9 = (17 : Int32)
  · refine lv_tableIn (off := 1152) (tgt := 1192) hx hb dL_law_40 (by rw [c17]; decide) (by rw [c17]; decide) (by rw [c17]; decide) (by decide) ?_
    exact lc_17 E a0 a1 b0 _ hi1 hi2 hi3 hi4 hi5 cells slots hcl hsl kk gg gvn gdn gcn gvd gdd gcd gvk gdk gck gr gvr gdr gne ggm gcs gwa gtx kth kvm ktt ktd kfl krf krd knv kac kla kne kgm ksp krc kod kwr kim o H locs ls hI hP hD hS hl
  by_cases c18 : x9 = (18 : Int32)
  · refine lv_tableIn (off := 1220) (tgt := 1260) hx hb dL_law_40 (by rw [c18]; decide) (by rw [c18]; decide) (by rw [c18]; decide) (by decide) ?_
    exact lc_18 E a0 a1 b0 _ hi1 hi2 hi3 hi4 hi5 cells slots hcl hsl kk gg gvn gdn gcn gvd gdd gcd gvk gdk gck gr gvr gdr gne ggm gcs gwa gtx kth kvm ktt ktd kfl krf krd knv kac kla kne kgm ksp krc kod kwr kim o H locs ls hI hP hD hS hl
  by_cases c19 : x9 = (19 : Int32)
  · refine lv_tableIn (off := 1312) (tgt := 1352) hx hb dL_law_40 (by rw [c19]; decide) (by rw [c19]; decide) (by rw [c19]; decide) (by decide) ?_
    exact lc_19 E a0 a1 b0 _ hi1 hi2 hi3 hi4 hi5 cells slots hcl hsl kk gg gvn gdn gcn gvd gdd gcd gvk gdk gck gr gvr gdr gne ggm gcs gwa gtx kth kvm ktt ktd kfl krf krd knv kac kla kne kgm ksp krc kod kwr kim o H locs ls hI hP hD hS hl
  by_cases c20 : x9 = (20 : Int32)
  · refine lv_tableIn (off := 1392) (tgt := 1432) hx hb dL_law_40 (by rw [c20]; decide) (by rw [c20]; decide) (by rw [c20]; decide) (by decide) ?_
    exact lc_20 E a0 a1 b0 _ hi1 hi2 hi3 hi4 hi5 cells slots hcl hsl kk gg gvn gdn gcn gvd gdd gcd gvk gdk gck gr gvr gdr gne ggm gcs gwa gtx kth kvm ktt ktd kfl krf krd knv kac kla kne kgm ksp krc kod kwr kim o H locs ls hI hP hD hS hl
  by_cases c21 : x9 = (21 : Int32)
  · refine lv_tableIn (off := 1460) (tgt := 1500) hx hb dL_law_40 (by rw [c21]; decide) (by rw [c21]; decide) (by rw [c21]; decide) (by decide) ?_
    exact lc_21 E a0 a1 b0 _ hi1 hi2 hi3 hi4 hi5 cells slots hcl hsl kk gg gvn gdn gcn gvd gdd gcd gvk gdk gck gr gvr gdr gne ggm gcs gwa gtx kth kvm ktt ktd kfl krf krd knv kac kla kne kgm ksp krc kod kwr kim o H locs ls hI hP hD hS hl
  by_cases c22 : x9 = (22 : Int32)
  · refine lv_tableIn (off := 1516) (tgt := 1556) hx hb dL_law_40 (by rw [c22]; decide) (by rw [c22]; decide) (by rw [c22]; decide) (by decide) ?_
    exact lc_22 E a0 a1 b0 _ hi1 hi2 hi3 hi4 hi5 cells slots hcl hsl kk gg gvn gdn gcn gvd gdd gcd gvk gdk gck gr gvr gdr gne ggm gcs gwa gtx kth kvm ktt ktd kfl krf krd knv kac kla kne kgm ksp krc kod kwr kim o H locs ls hI hP hD hS hl
  by_cases c23 : x9 = (23 : Int32)
  · refine lv_tableIn (off := 1596) (tgt := 1636) hx hb dL_law_40 (by rw [c23]; decide) (by rw [c23]; decide) (by rw [c23]; decide) (by decide) ?_
    exact lc_23 E a0 a1 b0 _ hi1 hi2 hi3 hi4 hi5 cells slots hcl hsl kk gg gvn gdn gcn gvd gdd gcd gvk gdk gck gr gvr gdr gne ggm gcs gwa gtx kth kvm ktt ktd kfl krf krd knv kac kla kne kgm ksp krc kod kwr kim o H locs ls hI hP hD hS hl
  by_cases c24 : x9 = (24 : Int32)
  · refine lv_tableIn (off := 1607) (tgt := 1647) hx hb dL_law_40 (by rw [c24]; decide) (by rw [c24]; decide) (by rw [c24]; decide) (by decide) ?_
    exact lc_24 E a0 a1 b0 _ hi1 hi2 hi3 hi4 hi5 cells slots hcl hsl kk gg gvn gdn gcn gvd gdd gcd gvk gdk gck gr gvr gdr gne ggm gcs gwa gtx kth kvm ktt ktd kfl krf krd knv kac kla kne kgm ksp krc kod kwr kim o H locs ls hI hP hD hS hl
  refine lv_tableOut (tgt := 1660) hx hb dL_law_40 (tab_out (fun k h1 h2 e => by rcases (show k = 0 ∨ k = 1 ∨ k = 2 ∨ k = 3 ∨ k = 4 ∨ k = 5 ∨ k = 6 ∨ k = 7 ∨ k = 8 ∨ k = 9 ∨ k = 10 ∨ k = 11 ∨ k = 12 ∨ k = 13 ∨ k = 14 ∨ k = 15 ∨ k = 16 ∨ k = 17 ∨ k = 18 ∨ k = 19 ∨ k = 20 ∨ k = 21 ∨ k = 22 ∨ k = 23 ∨ k = 24 by omega) with rfl | rfl | rfl | rfl | rfl | rfl | rfl | rfl | rfl | rfl | rfl | rfl | rfl | rfl | rfl | rfl | rfl | rfl | rfl | rfl | rfl | rfl | rfl | rfl | rfl <;> first | exact c0 (Int32.toInt_inj.mp (e.trans (by decide))) | exact c1 (Int32.toInt_inj.mp (e.trans (by decide))) | exact c2 (Int32.toInt_inj.mp (e.trans (by decide))) | exact c3 (Int32.toInt_inj.mp (e.trans (by decide))) | exact c4 (Int32.toInt_inj.mp (e.trans (by decide))) | exact c5 (Int32.toInt_inj.mp (e.trans (by decide))) | exact c6 (Int32.toInt_inj.mp (e.trans (by decide))) | exact c7 (Int32.toInt_inj.mp (e.trans (by decide))) | exact c8 (Int32.toInt_inj.mp (e.trans (by decide))) | exact c9 (Int32.toInt_inj.mp (e.trans (by decide))) | exact c10 (Int32.toInt_inj.mp (e.trans (by decide))) | exact c11 (Int32.toInt_inj.mp (e.trans (by decide))) | exact c12 (Int32.toInt_inj.mp (e.trans (by decide))) | exact c13 (Int32.toInt_inj.mp (e.trans (by decide))) | exact c14 (Int32.toInt_inj.mp (e.trans (by decide))) | exact c15 (Int32.toInt_inj.mp (e.trans (by decide))) | exact c16 (Int32.toInt_inj.mp (e.trans (by decide))) | exact c17 (Int32.toInt_inj.mp (e.trans (by decide))) | exact c18 (Int32.toInt_inj.mp (e.trans (by decide))) | exact c19 (Int32.toInt_inj.mp (e.trans (by decide))) | exact c20 (Int32.toInt_inj.mp (e.trans (by decide))) | exact c21 (Int32.toInt_inj.mp (e.trans (by decide))) | exact c22 (Int32.toInt_inj.mp (e.trans (by decide))) | exact c23 (Int32.toInt_inj.mp (e.trans (by decide))) | exact c24 (Int32.toInt_inj.mp (e.trans (by decide))))) (by decide) ?_
  exact W.widen (k := cells + 3) (n := slots + 18) (by omega) (by omega) (kk gg gvn gdn gcn gvd gdd gcd gvk gdk gck gr gvr gdr gne ggm gcs gwa gtx kth kvm ktt ktd kfl krf krd knv kac kla kne kgm ksp krc kod kwr kim o H locs ls hI hP hD hS hl)

theorem law_loop {p : Program} {l : Launch} {e : Env} {s : State} {m : MethodId} {below : List Frame} {meth : Method} {c : Code} {dC : Nat → ClassId} {dI : Nat → Nat → Nat} {cy : Nat → ClassId} {z : Nat → Nat} {b L : Nat} {xs : Nat → Int32} (E : LE p l s m c dC dI cy z b L xs) (hL : L ≤ 3072) (hr : meth.sig.returnType = ret) (hlocks : meth.locks = false) (a0 a1 : Nat → Nat) (b0 : Nat) : ∀ (n j cells slots : Nat), L < 6 * j + 6 * n + 6 → 6 * j ≤ L → cells + 3 * n ≤ 601024 → slots + 18 * n ≤ 7293034 → LK p l e s m below meth c dC dI cy z b a0 a1 b0 (nI (6 * j)) cells slots 23 := by
  intro n
  induction n with
  | zero =>
    intro j cells slots h1 h2 h3 h4
    exact law_head E hL hr hlocks a0 a1 b0 j h2 cells slots (by omega) (by omega) (fun h => absurd h (by omega))
  | succ n ih =>
    intro j cells slots h1 h2 h3 h4
    refine law_head E hL hr hlocks a0 a1 b0 j h2 cells slots (by omega) (by omega) (fun hj => ?_)
    refine law_turn E hL a0 a1 b0 j hj cells slots (by omega) (by omega) ?_
    intro gg gvn gdn gcn gvd gdd gcd gvk gdk gck gr gvr gdr gne ggm gcs gwa gtx kth kvm ktt ktd kfl krf krd knv kac kla kne kgm ksp krc kod kwr kim o H locs ls hI hP hD hS hl
    obtain ⟨hx, hb, hml, hown, hts, hXs, hbl, hK, hSx, hN, hl9⟩ := id E
    refine lv_iinc (v := nI (6 * (j + 1))) (lv' := [(4, .int (nI (6 * (j + 1)))), (0, .ref b), (1, .ref (a0 0)), (2, .ref (a1 0)), (3, .ref b0)]) hx hb dL_law_1660 hl (k := 4) rfl (lp_add (6 * j) 6) (by decide) rfl (fun ls hl => ?_)
    refine lv_goto (tgt := 23) hx hb dL_law_1663 (by decide) ?_
    exact ih (j + 1) (cells + 3) (slots + 18) (by omega) (by omega) (by omega) (by omega) gg gvn gdn gcn gvd gdd gcd gvk gdk gck gr gvr gdr gne ggm gcs gwa gtx kth kvm ktt ktd kfl krf krd knv kac kla kne kgm ksp krc kod kwr kim o H locs ls hI hP hD hS (lv_sub hl [1, 2, 3, 4, 0] rfl)
