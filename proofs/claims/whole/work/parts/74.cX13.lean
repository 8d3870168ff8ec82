abbrev w_X13_alike (cy : Nat → ClassId) (a0 : Nat → Nat) (gth : Int32) (gvm : Int32 × Int32 × Int32 × (Nat → Int32) × (Nat → Int32) × (Nat → Int32) × (Nat → Int32) × (Nat → Int32) × (Nat → Int32) × (Nat → Int32) × (Nat → Int32) × (Nat → Int32)) (gtd : Int32) (gfl : Int32 × Int32) (grd : Int32 × Int32 × Int32 × Int32 × Int32 × Int32 × Int64 × (Nat → Int32)) (gnv : Int32 × Int32 × Int32 × Int32 × Int32 × (Nat → Int32) × (Nat → Int32) × (Nat → Int32) × (Nat → Int32) × (Nat → Int32) × (Nat → Int32)) (gac : Int32 × (Nat → Int32) × (Nat → Int32)) (grc : Int32 × (Nat → Int32)) (gim : Int32 × Int32 × Int32 × (Nat → Int32) × (Nat → Int32) × (Nat → Int32) × (Nat → Int32) × (Nat → Int32) × (Nat → Int32) × (Nat → Int32) × (Nat → Int32) × (Nat → Int32)) : va_W := [(a0 0, .inr (11, [.int (gth), .int (gvm.1), .int (gvm.2.1), .int (gvm.2.2.1), .ref (a0 1), .ref (a0 2), .ref (a0 3), .ref (a0 4), .ref (a0 5), .ref (a0 6), .ref (a0 7), .ref (a0 8), .ref (a0 9), .ref (a0 10), .int (gtd), .int (gfl.1), .int (gfl.2), .ref (a0 11), .int (grd.1), .int (grd.2.1), .int (grd.2.2.1), .int (grd.2.2.2.1), .int (grd.2.2.2.2.1), .int (grd.2.2.2.2.2.1), .long (grd.2.2.2.2.2.2.1), .ref (a0 12), .int (gnv.1), .int (gnv.2.1), .int (gnv.2.2.1), .int (gnv.2.2.2.1), .int (gnv.2.2.2.2.1), .ref (a0 13), .ref (a0 14), .ref (a0 15), .ref (a0 16), .ref (a0 17), .ref (a0 18), .int (gac.1), .ref (a0 19), .ref (a0 20), .ref (a0 21), .ref (a0 22), .ref (a0 23), .ref (a0 24), .ref (a0 25), .ref (a0 26), .ref (a0 27), .int (grc.1), .ref (a0 28), .ref (a0 29), .ref (a0 30), .ref (a0 31), .int (gim.1), .int (gim.2.1), .int (gim.2.2.1), .ref (a0 32), .ref (a0 33), .ref (a0 34), .ref (a0 35), .ref (a0 36), .ref (a0 37), .ref (a0 38), .ref (a0 39), .ref (a0 40)]))]
abbrev rm_X13_alike : Room := { frames := 1, cells := 0, slots := 0, locals := 22 }
set_option maxHeartbeats 1000000 in
set_option maxRecDepth 100000 in
theorem c_X13_alike (l : Launch) (dC : Nat → ClassId) (dI : Nat → Nat → Nat) (cy : Nat → ClassId) (a0 : Nat → Nat) (gth : Int32) (gvm : Int32 × Int32 × Int32 × (Nat → Int32) × (Nat → Int32) × (Nat → Int32) × (Nat → Int32) × (Nat → Int32) × (Nat → Int32) × (Nat → Int32) × (Nat → Int32) × (Nat → Int32)) (gtd : Int32) (gfl : Int32 × Int32) (grd : Int32 × Int32 × Int32 × Int32 × Int32 × Int32 × Int64 × (Nat → Int32)) (gnv : Int32 × Int32 × Int32 × Int32 × Int32 × (Nat → Int32) × (Nat → Int32) × (Nat → Int32) × (Nat → Int32) × (Nat → Int32) × (Nat → Int32)) (gac : Int32 × (Nat → Int32) × (Nat → Int32)) (grc : Int32 × (Nat → Int32)) (gim : Int32 × Int32 × Int32 × (Nat → Int32) × (Nat → Int32) × (Nat → Int32) × (Nat → Int32) × (Nat → Int32) × (Nat → Int32) × (Nat → Int32) × (Nat → Int32) × (Nat → Int32)) (x1 : Int32) (x2 : Int32) (sz : Nat) (R0 : Int32 × (Int32)) (h : p_X13_alike gth x1 x2 = some R0) : Met l yX13_alike wsX13_alike rm_X13_alike (va_Pc [.ref (a0 0), .int x1, .int x2] (prC dC dI cy (w_X13_alike cy a0 gth gvm gtd gfl grd gnv gac grc gim) sz)) (va_Qi (fun (r : Int32) (u : (Int32)) => r = R0.1 ∧ u = R0.2) (fun (u : (Int32)) t => poC dC dI cy (w_X13_alike cy a0 u gvm gtd gfl grd gnv gac grc gim) t) (va_A (w_X13_alike cy a0 gth gvm gtd gfl grd gnv gac grc gim) sz)) 0 0 (va_A (w_X13_alike cy a0 gth gvm gtd gfl grd gnv gac grc gim) sz) := by
  refine Met.ofW (cc := cX13_alike) (maxL := 6) (ret := (some .int)) (by decide) rfl ?_
  intro p e s m aa below meth c s₁ B hml hv
  obtain ⟨haa, hsz, hP, hK, hD0⟩ := hv
  have hx := B.exec
  have hb := B.bytes
  have hr := B.returns
  have hts := atoms_spec (ws := wsX13_alike) B.pre
  have hown : s.vm.findClass RX13 = some m.cls := findClass_of_methodNamed B.named
  have hlocks := B.notSynchronized
  subst hsz
  have hD := hD0.self (sz := s.heap.size)
  obtain ⟨qq, hqq⟩ : ∃ qq, qq = (va_Qi (fun (r : Int32) (u : (Int32)) => r = R0.1 ∧ u = R0.2) (fun (u : (Int32)) t => poC dC dI cy (w_X13_alike cy a0 u gvm gtd gfl grd gnv gac grc gim) t) (va_A (w_X13_alike cy a0 gth gvm gtd gfl grd gnv gac grc gim) s.heap.size)) := ⟨_, rfl⟩
  rw [← hqq]
  generalize hAe : va_A (w_X13_alike cy a0 gth gvm gtd gfl grd gnv gac grc gim) s.heap.size = A at hD hqq ⊢
  have hA : ∀ q : Nat, s.heap.size ≤ q → A q := fun q h => by rw [← hAe]; exact Or.inr h
  have hS : va_S A s.heap s.heap [] := va_S.rf
  have hl := lv_entry ([.ref (a0 0), .int x1, .int x2]) (n := 6) (Nat.le_of_ble_eq_true rfl)
  have hE : entryFrame m aa 6 = F0 m 0 ((lg_sl ([.ref (a0 0), .int x1, .int x2]) ++ List.replicate (6 - (lg_sl ([.ref (a0 0), .int x1, .int x2])).length) Slot.unset).toArray) [] := by rw [haa]; exact lg_entry_eq m _ 6
  refine W.eq hE ?_
  generalize (lg_sl ([.ref (a0 0), .int x1, .int x2]) ++ List.replicate (6 - (lg_sl ([.ref (a0 0), .int x1, .int x2])).length) Slot.unset).toArray = ls at hl ⊢
  have hl : lv_has ls 6 [(0, .ref (a0 0)), (1, .int x1), (2, .int x2)] := hl
  change W p l e rm_X13_alike s m aa below meth c s.heap [] 0 0 (MQ below qq aa s 0 0 A) (F0 m 0 ls [])
  have hS0 := hS
  have lk0 := hts (.fieldLink RX13 135 "GoatDoorsModel" "thrown" "I") (by decide +kernel)
  have lk1 := hts (.constant RX13 340 (1073741824 : Int32)) (by decide +kernel)
  have in_X13 : ∀ w ∈ wsX130, w ∈ wsX13_alike := by decide +kernel
  have c106 : ∀ (_u : Unit), ∀ (gth : Int32) (x1 : Int32) (x5 : Int32) (H : Heap) (locs : List Loc) (ls : Array Slot), p_X13_alike_106 gth x1 x5 = some R0 → va_P (dC, dI) vwCl (w_X13_alike cy a0 gth gvm gtd gfl grd gnv gac grc gim) H → va_D A (w_X13_alike cy a0 gth gvm gtd gfl grd gnv gac grc gim) → va_S A s.heap H locs → lv_has ls 6 [(1, .int x1), (5, .int x5)] → W p l e rm_X13_alike s m aa below meth c H locs 0 0 (MQ below qq aa s 0 0 A) (F0 m 106 ls []) := by
    intro _ gth x1 x5 H locs ls h hP hD hS hl
    unfold p_X13_alike_106 at h
    refine lv_iload_n hx hb dX13_alike_106 rfl (lv_at hl 0 rfl) ?_
    refine lv_iload hx hb dX13_alike_107 (lv_at hl 1 rfl) ?_
    refine lv_iadd hx hb dX13_alike_109 ?_
    refine lv_iconst (v := (1 : Int32)) hx hb dX13_alike_110 (by decide) ?_
    refine lv_isub hx hb dX13_alike_111 ?_
    refine lv_iload hx hb dX13_alike_112 (lv_at hl 1 rfl) ?_
    obtain ⟨hz1, h⟩ := ok_if h
    refine lv_idiv hx hb dX13_alike_114 hz1 ?_
    exact W.iret (v := (((x1 + x5) - (1 : Int32)) / x5)) hx hb hr (fun t ht hW => by rw [hqq]; have hh := Option.some.inj h; exact ⟨⟨(((x1 + x5) - (1 : Int32)) / x5), (gth), rfl, ⟨fst_of hh, snd_of hh⟩, by rw [ht]; exact hP, va_K.moved hW.alike hK⟩, hS.F ht⟩) hS.2.2 dX13_alike_115
  have c76 : ∀ (k51 : (Int32) → Int32 → Int32 → Int32 → Int32 → Int32 → Option (Int32 × (Int32))) (hk51 : ∀ (gth : Int32) (x1 : Int32) (x2 : Int32) (x3 : Int32) (x4 : Int32) (x5 : Int32) (H : Heap) (locs : List Loc) (ls : Array Slot), k51 gth x1 x2 x3 x4 x5 = some R0 → va_P (dC, dI) vwCl (w_X13_alike cy a0 gth gvm gtd gfl grd gnv gac grc gim) H → va_D A (w_X13_alike cy a0 gth gvm gtd gfl grd gnv gac grc gim) → va_S A s.heap H locs → lv_has ls 6 [(1, .int x1), (2, .int x2), (3, .int x3), (4, .int x4), (5, .int x5)] → W p l e rm_X13_alike s m aa below meth c H locs 0 0 (MQ below qq aa s 0 0 A) (F0 m 51 ls [])), ∀ (gth : Int32) (x1 : Int32) (x2 : Int32) (x3 : Int32) (x4 : Int32) (x5 : Int32) (H : Heap) (locs : List Loc) (ls : Array Slot), p_X13_alike_76 k51 gth x1 x2 x3 x4 x5 = some R0 → va_P (dC, dI) vwCl (w_X13_alike cy a0 gth gvm gtd gfl grd gnv gac grc gim) H → va_D A (w_X13_alike cy a0 gth gvm gtd gfl grd gnv gac grc gim) → va_S A s.heap H locs → lv_has ls 6 [(1, .int x1), (2, .int x2), (3, .int x3), (4, .int x4), (5, .int x5)] → W p l e rm_X13_alike s m aa below meth c H locs 0 0 (MQ below qq aa s 0 0 A) (F0 m 76 ls []) := by
    intro k51 hk51 gth x1 x2 x3 x4 x5 H locs ls h hP hD hS hl
    unfold p_X13_alike_76 at h
    refine lv_iinc (v := (x5 + (-1 : Int32))) (lv' := [(5, .int (x5 + (-1 : Int32))), (1, .int x1), (2, .int x2), (3, .int x3), (4, .int x4)]) hx hb dX13_alike_76 hl (k := 4) rfl rfl (by decide) rfl (fun ls hl => ?_)
    refine lv_goto (tgt := 51) hx hb dX13_alike_79 (by decide) ?_
    exact hk51 gth x1 x2 x3 x4 (x5 + (-1 : Int32)) H locs ls h hP hD hS (lv_sub hl [1, 2, 3, 4, 0] rfl)
  have c51 : ∀ (n : Nat), ∀ (gth : Int32) (x1 : Int32) (x2 : Int32) (x3 : Int32) (x4 : Int32) (x5 : Int32) (H : Heap) (locs : List Loc) (ls : Array Slot), p_X13_alike_51 n gth x1 x2 x3 x4 x5 = some R0 → va_P (dC, dI) vwCl (w_X13_alike cy a0 gth gvm gtd gfl grd gnv gac grc gim) H → va_D A (w_X13_alike cy a0 gth gvm gtd gfl grd gnv gac grc gim) → va_S A s.heap H locs → lv_has ls 6 [(1, .int x1), (2, .int x2), (3, .int x3), (4, .int x4), (5, .int x5)] → W p l e rm_X13_alike s m aa below meth c H locs 0 0 (MQ below qq aa s 0 0 A) (F0 m 51 ls []) := by
    intro  n
    induction n with
    | zero => intro gth x1 x2 x3 x4 x5 H locs ls h; exact no_some h
    | succ n ih =>
      intro gth x1 x2 x3 x4 x5 H locs ls h hP hD hS hl
      rw [p_X13_alike_51.eq_2] at h
      refine lv_iload hx hb dX13_alike_51 (lv_at hl 4 rfl) ?_
      refine lv_if_lt (tgt := 82) hx hb dX13_alike_53 (by decide) (fun c1 => ?_) (fun c1 => ?_)
      · rw [if_pos c1] at h
        refine lv_iload_n hx hb dX13_alike_82 rfl (lv_at hl 2 rfl) ?_
        refine lv_iconst (v := (1 : Int32)) hx hb dX13_alike_83 (by decide) ?_
        refine lv_isub hx hb dX13_alike_84 ?_
        refine lv_istore (lv' := [(5, .int (x3 - (1 : Int32))), (1, .int x1), (2, .int x2), (3, .int x3), (4, .int x4)]) hx hb dX13_alike_85 hl (by decide) rfl (fun ls hl => ?_)
        refine lv_iload hx hb dX13_alike_87 (lv_at hl 4 rfl) ?_
        refine lv_iconst (v := (1 : Int32)) hx hb dX13_alike_89 (by decide) ?_
        refine lv_icmp_ne (tgt := 106) hx hb dX13_alike_90 (by decide) (fun c2 => ?_) (fun c2 => ?_)
        · rw [if_neg c2] at h
          exact c106 () gth x1 (x3 - (1 : Int32)) H locs ls h hP hD hS (lv_sub hl [1, 0] rfl)
        · rw [if_pos c2] at h
          refine lv_iload_n hx hb dX13_alike_93 rfl (lv_at hl 3 rfl) ?_
          refine lv_iload_n hx hb dX13_alike_94 rfl (lv_at hl 3 rfl) ?_
          refine lv_imul hx hb dX13_alike_95 ?_
          refine lv_iload_n hx hb dX13_alike_96 rfl (lv_at hl 3 rfl) ?_
          refine lv_imul hx hb dX13_alike_97 ?_
          refine lv_iload_n hx hb dX13_alike_98 rfl (lv_at hl 3 rfl) ?_
          refine lv_imul hx hb dX13_alike_99 ?_
          refine lv_iload_n hx hb dX13_alike_100 rfl (lv_at hl 3 rfl) ?_
          refine lv_imul hx hb dX13_alike_101 ?_
          refine lv_iconst (v := (1 : Int32)) hx hb dX13_alike_102 (by decide) ?_
          refine lv_isub hx hb dX13_alike_103 ?_
          refine lv_istore (lv' := [(5, .int (((((x3 * x3) * x3) * x3) * x3) - (1 : Int32))), (1, .int x1), (2, .int x2), (3, .int x3), (4, .int x4)]) hx hb dX13_alike_104 hl (by decide) rfl (fun ls hl => ?_)
          exact c106 () gth x1 (((((x3 * x3) * x3) * x3) * x3) - (1 : Int32)) H locs ls h hP hD hS (lv_sub hl [1, 0] rfl)
      · rw [if_neg c1] at h
        refine lv_iload_n hx hb dX13_alike_56 rfl (lv_at hl 1 rfl) ?_
        refine lv_iload hx hb dX13_alike_57 (lv_at hl 4 rfl) ?_
        refine lv_ishr hx hb dX13_alike_59 ?_
        refine lv_iconst (v := (1 : Int32)) hx hb dX13_alike_60 (by decide) ?_
        refine lv_iand hx hb dX13_alike_61 ?_
        refine lv_if_ne (tgt := 68) hx hb dX13_alike_62 (by decide) (fun c3 => ?_) (fun c3 => ?_)
        · rw [if_neg c3] at h
          refine lv_iload hx hb dX13_alike_68 (lv_at hl 4 rfl) ?_
          refine lv_iconst (v := (2 : Int32)) hx hb dX13_alike_70 (by decide) ?_
          refine lv_iadd hx hb dX13_alike_71 ?_
          refine lv_istore_n (lv' := [(3, .int (x5 + (2 : Int32))), (1, .int x1), (2, .int x2), (4, .int x4), (5, .int x5)]) hx hb dX13_alike_72 rfl hl (by decide) rfl (fun ls hl => ?_)
          refine lv_iinc (v := (x4 + (1 : Int32))) (lv' := [(4, .int (x4 + (1 : Int32))), (3, .int (x5 + (2 : Int32))), (1, .int x1), (2, .int x2), (5, .int x5)]) hx hb dX13_alike_73 hl (k := 3) rfl rfl (by decide) rfl (fun ls hl => ?_)
          exact c76 (p_X13_alike_51 n) ih gth x1 x2 (x5 + (2 : Int32)) (x4 + (1 : Int32)) x5 H locs ls h hP hD hS (lv_sub hl [2, 3, 1, 0, 4] rfl)
        · rw [if_pos c3] at h
          refine lv_goto (tgt := 76) hx hb dX13_alike_65 (by decide) ?_
          exact c76 (p_X13_alike_51 n) ih gth x1 x2 x3 x4 x5 H locs ls h hP hD hS (lv_sub hl [0, 1, 2, 3, 4] rfl)
  have c33 : ∀ (_u : Unit), ∀ (gth : Int32) (x1 : Int32) (x2 : Int32) (t1 : Int32) (H : Heap) (locs : List Loc) (ls : Array Slot), p_X13_alike_33 gth x1 x2 t1 = some R0 → va_P (dC, dI) vwCl (w_X13_alike cy a0 gth gvm gtd gfl grd gnv gac grc gim) H → va_D A (w_X13_alike cy a0 gth gvm gtd gfl grd gnv gac grc gim) → va_S A s.heap H locs → lv_has ls 6 [(1, .int x1), (2, .int x2)] → W p l e rm_X13_alike s m aa below meth c H locs 0 0 (MQ below qq aa s 0 0 A) (F0 m 33 ls [.int t1, .ref (a0 0)]) := by
    intro _ gth x1 x2 t1 H locs ls h hP hD hS hl
    unfold p_X13_alike_33 at h
    refine lv_iconst (v := (1 : Int32)) hx hb dX13_alike_33 (by decide) ?_
    obtain ⟨v1, hv2, h⟩ := ok_bind h
    refine cl_vi (w2 := fun (u : (Int32)) => w_X13_alike cy a0 u gvm gtd gfl grd gnv gac grc gim) (As := [.int t1, .int (1 : Int32)]) (rest := []) ⟨hx, hb, hml, hown, hts⟩ (c_X13_right l dC dI cy a0 gth gvm gtd gfl grd gnv gac grc gim t1 (1 : Int32) H.size v1 hv2) (cwV 2 hts gX13_alike_X13_right rfl rfl rfl (by decide +kernel) ⟨Nat.le_of_ble_eq_true rfl, Nat.le_of_ble_eq_true rfl⟩) (va_recv hK hP (ci := 11) (q0 := 0) rfl rfl) cl_blind (cl_pre hK hP hD [0] (by decide) rfl) hP hD hS hA [0] rfl rfl hl.1 rfl (lv_room (Nat.le_of_ble_eq_true rfl)) dX13_alike_34 ⟨Nat.le_of_ble_eq_true rfl, Nat.le_of_ble_eq_true rfl⟩ ⟨rfl, rfl⟩ (fun _ => updM [0] [] [] 1 rfl rfl rfl rfl rfl (by decide +kernel) (by decide +kernel) rfl) (fun r u H locs hw hP hD hS => ?_)
    obtain ⟨rfl, rfl⟩ := hw
    have hP : va_P (dC, dI) vwCl (w_X13_alike cy a0 v1.2 gvm gtd gfl grd gnv gac grc gim) H := hP
    have hD : va_D A (w_X13_alike cy a0 v1.2 gvm gtd gfl grd gnv gac grc gim) := hD
    refine lv_if_ne (tgt := 42) hx hb dX13_alike_37 (by decide) (fun c3 => ?_) (fun c3 => ?_)
    · rw [if_neg c3] at h
      refine lv_iconst (v := (-1 : Int32)) hx hb dX13_alike_42 (by decide) ?_
      refine lv_istore_n (lv' := [(3, .int (-1 : Int32)), (1, .int x1), (2, .int x2)]) hx hb dX13_alike_43 rfl hl (by decide) rfl (fun ls hl => ?_)
      refine lv_iconst (v := (0 : Int32)) hx hb dX13_alike_44 (by decide) ?_
      refine lv_istore (lv' := [(4, .int (0 : Int32)), (3, .int (-1 : Int32)), (1, .int x1), (2, .int x2)]) hx hb dX13_alike_45 hl (by decide) rfl (fun ls hl => ?_)
      refine lv_bipush (v := (29 : Int32)) hx hb dX13_alike_47 (by decide) ?_
      refine lv_istore (lv' := [(5, .int (29 : Int32)), (4, .int (0 : Int32)), (3, .int (-1 : Int32)), (1, .int x1), (2, .int x2)]) hx hb dX13_alike_49 hl (by decide) rfl (fun ls hl => ?_)
      exact c51 fu v1.2 x1 x2 (-1 : Int32) (0 : Int32) (29 : Int32) H locs ls h hP hD hS (lv_sub hl [3, 4, 2, 1, 0] rfl)
    · rw [if_pos c3] at h
      refine lv_iconst (v := (0 : Int32)) hx hb dX13_alike_40 (by decide) ?_
      exact W.iret (v := (0 : Int32)) hx hb hr (fun t ht hW => by rw [hqq]; have hh := Option.some.inj h; exact ⟨⟨(0 : Int32), (v1.2), rfl, ⟨fst_of hh, snd_of hh⟩, by rw [ht]; exact hP, va_K.moved hW.alike hK⟩, hS.F ht⟩) hS.2.2 dX13_alike_41
  have c32 : ∀ (_u : Unit), ∀ (gth : Int32) (x1 : Int32) (x2 : Int32) (H : Heap) (locs : List Loc) (ls : Array Slot), p_X13_alike_32 gth x1 x2 = some R0 → va_P (dC, dI) vwCl (w_X13_alike cy a0 gth gvm gtd gfl grd gnv gac grc gim) H → va_D A (w_X13_alike cy a0 gth gvm gtd gfl grd gnv gac grc gim) → va_S A s.heap H locs → lv_has ls 6 [(1, .int x1), (2, .int x2)] → W p l e rm_X13_alike s m aa below meth c H locs 0 0 (MQ below qq aa s 0 0 A) (F0 m 32 ls [.ref (a0 0)]) := by
    intro _ gth x1 x2 H locs ls h hP hD hS hl
    unfold p_X13_alike_32 at h
    refine lv_iconst (v := (0 : Int32)) hx hb dX13_alike_32 (by decide) ?_
    exact c33 () gth x1 x2 (0 : Int32) H locs ls h hP hD hS (lv_sub hl [0, 1] rfl)
  obtain ⟨H, hH⟩ : ∃ H : Heap, H = s.heap := ⟨_, rfl⟩
  obtain ⟨locs, hlocs⟩ : ∃ locs : List Loc, locs = [] := ⟨_, rfl⟩
  have hS : va_S A s.heap H locs := by rw [hH, hlocs]; exact hS
  rw [← hH] at hP
  suffices hg : W p l e rm_X13_alike s m aa below meth c H locs 0 0 (MQ below qq aa s 0 0 A) (F0 m 0 ls []) by subst hH; subst hlocs; exact hg
  unfold p_X13_alike at h
  refine lv_aload_n hx hb dX13_alike_0 rfl (lv_at hl 0 rfl) ?_
  refine lv_iconst (v := (0 : Int32)) hx hb dX13_alike_1 (by decide) ?_
  refine va_put (D := (dC, dI)) (ci := 11) (v := .int (0 : Int32)) (ty := .int) (C := RX13) (T := TX13) (N := 64) hx hb hts in_X13 tyX13 tyX13_ok nmX13 hown hK hP hD hS 0 rfl rfl 0 (by decide) lk0 (fun _ h9 => h9) rfl (by decide +kernel) rfl rfl (Nat.le_of_ble_eq_true rfl) dX13_alike_2 (fun H locs hP hD hS => ?_)
  have hP : va_P (dC, dI) vwCl (w_X13_alike cy a0 ((0 : Int32)) gvm gtd gfl grd gnv gac grc gim) H := hP
  have hD : va_D A (w_X13_alike cy a0 ((0 : Int32)) gvm gtd gfl grd gnv gac grc gim) := hD
  refine lv_aload_n hx hb dX13_alike_5 rfl (lv_at hl 0 rfl) ?_
  refine lv_iload_n hx hb dX13_alike_6 rfl (lv_at hl 1 rfl) ?_
  refine lv_iconst (v := (1 : Int32)) hx hb dX13_alike_7 (by decide) ?_
  refine lv_sipush (v := (9999 : Int32)) hx hb dX13_alike_8 (by decide) ?_
  obtain ⟨v1, hv2, h⟩ := ok_bind h
  refine cl_si (w2 := fun (_ : Unit) => w_X13_alike cy a0 ((0 : Int32)) gvm gtd gfl grd gnv gac grc gim) (As := [.int x1, .int (1 : Int32), .int (9999 : Int32)]) (rest := [.ref (a0 0)]) ⟨hx, hb, hml, hown, hts⟩ (c_X13_within l dC dI cy  x1 (1 : Int32) (9999 : Int32) H.size v1 hv2) (va_cwS 3 hts gX13_alike_X13_within rfl rfl rfl (by decide +kernel) ⟨Nat.le_of_ble_eq_true rfl, Nat.le_of_ble_eq_true rfl⟩) cl_blind (cl_pre hK hP hD [] (by decide) rfl) hP hD hS hA [] rfl rfl hl.1 rfl (lv_room (Nat.le_of_ble_eq_true rfl)) dX13_alike_11 ⟨Nat.le_of_ble_eq_true rfl, Nat.le_of_ble_eq_true rfl⟩ ⟨rfl, rfl⟩ (fun _ => updR [] rfl) (fun r u H locs hw hP hD hS => ?_)
  have hw := hw.symm
  subst hw
  have hP : va_P (dC, dI) vwCl (w_X13_alike cy a0 ((0 : Int32)) gvm gtd gfl grd gnv gac grc gim) H := hP
  have hD : va_D A (w_X13_alike cy a0 ((0 : Int32)) gvm gtd gfl grd gnv gac grc gim) := hD
  refine lv_if_eq (tgt := 32) hx hb dX13_alike_14 (by decide) (fun c3 => ?_) (fun c3 => ?_)
  · rw [if_pos c3] at h
    exact c32 () (0 : Int32) x1 x2 H locs ls h hP hD hS (lv_sub hl [1, 2] rfl)
  · rw [if_neg c3] at h
    refine lv_iload_n hx hb dX13_alike_17 rfl (lv_at hl 2 rfl) ?_
    refine lv_if_le (tgt := 32) hx hb dX13_alike_18 (by decide) (fun c4 => ?_) (fun c4 => ?_)
    · rw [if_pos c4] at h
      exact c32 () (0 : Int32) x1 x2 H locs ls h hP hD hS (lv_sub hl [1, 2] rfl)
    · rw [if_neg c4] at h
      refine lv_iload_n hx hb dX13_alike_21 rfl (lv_at hl 2 rfl) ?_
      refine lv_ldcw hx hb hown lk1 dX13_alike_22 ?_
      refine lv_icmp_ge (tgt := 32) hx hb dX13_alike_25 (by decide) (fun c5 => ?_) (fun c5 => ?_)
      · rw [if_pos c5] at h
        exact c32 () (0 : Int32) x1 x2 H locs ls h hP hD hS (lv_sub hl [1, 2] rfl)
      · rw [if_neg c5] at h
        refine lv_iconst (v := (1 : Int32)) hx hb dX13_alike_28 (by decide) ?_
        refine lv_goto (tgt := 33) hx hb dX13_alike_29 (by decide) ?_
        exact c33 () (0 : Int32) x1 x2 (1 : Int32) H locs ls h hP hD hS (lv_sub hl [1, 2] rfl)

abbrev w_X13_hedge (cy : Nat → ClassId) (a0 : Nat → Nat) (gth : Int32) (gvm : Int32 × Int32 × Int32 × (Nat → Int32) × (Nat → Int32) × (Nat → Int32) × (Nat → Int32) × (Nat → Int32) × (Nat → Int32) × (Nat → Int32) × (Nat → Int32) × (Nat → Int32)) (gtd : Int32) (gfl : Int32 × Int32) (grd : Int32 × Int32 × Int32 × Int32 × Int32 × Int32 × Int64 × (Nat → Int32)) (gnv : Int32 × Int32 × Int32 × Int32 × Int32 × (Nat → Int32) × (Nat → Int32) × (Nat → Int32) × (Nat → Int32) × (Nat → Int32) × (Nat → Int32)) (gac : Int32 × (Nat → Int32) × (Nat → Int32)) (gla : (Nat → Int32)) (gne : (Nat → Int32)) (grc : Int32 × (Nat → Int32)) (gim : Int32 × Int32 × Int32 × (Nat → Int32) × (Nat → Int32) × (Nat → Int32) × (Nat → Int32) × (Nat → Int32) × (Nat → Int32) × (Nat → Int32) × (Nat → Int32) × (Nat → Int32)) : va_W := [(a0 0, .inr (11, [.int (gth), .int (gvm.1), .int (gvm.2.1), .int (gvm.2.2.1), .ref (a0 1), .ref (a0 2), .ref (a0 3), .ref (a0 4), .ref (a0 5), .ref (a0 6), .ref (a0 7), .ref (a0 8), .ref (a0 9), .ref (a0 10), .int (gtd), .int (gfl.1), .int (gfl.2), .ref (a0 11), .int (grd.1), .int (grd.2.1), .int (grd.2.2.1), .int (grd.2.2.2.1), .int (grd.2.2.2.2.1), .int (grd.2.2.2.2.2.1), .long (grd.2.2.2.2.2.2.1), .ref (a0 12), .int (gnv.1), .int (gnv.2.1), .int (gnv.2.2.1), .int (gnv.2.2.2.1), .int (gnv.2.2.2.2.1), .ref (a0 13), .ref (a0 14), .ref (a0 15), .ref (a0 16), .ref (a0 17), .ref (a0 18), .int (gac.1), .ref (a0 19), .ref (a0 20), .ref (a0 21), .ref (a0 22), .ref (a0 23), .ref (a0 24), .ref (a0 25), .ref (a0 26), .ref (a0 27), .int (grc.1), .ref (a0 28), .ref (a0 29), .ref (a0 30), .ref (a0 31), .int (gim.1), .int (gim.2.1), .int (gim.2.2.1), .ref (a0 32), .ref (a0 33), .ref (a0 34), .ref (a0 35), .ref (a0 36), .ref (a0 37), .ref (a0 38), .ref (a0 39), .ref (a0 40)])), (a0 1, .inl (cy 1, 5, .inl (gvm.2.2.2.1))), (a0 2, .inl (cy 1, 5, .inl (gvm.2.2.2.2.1))), (a0 3, .inl (cy 1, 5, .inl (gvm.2.2.2.2.2.1))), (a0 4, .inl (cy 1, 25, .inl (gvm.2.2.2.2.2.2.1))), (a0 5, .inl (cy 1, 10, .inl (gvm.2.2.2.2.2.2.2.1))), (a0 6, .inl (cy 1, 10, .inl (gvm.2.2.2.2.2.2.2.2.1))), (a0 7, .inl (cy 1, 10, .inl (gvm.2.2.2.2.2.2.2.2.2.1))), (a0 8, .inl (cy 1, 10, .inl (gvm.2.2.2.2.2.2.2.2.2.2.1))), (a0 9, .inl (cy 1, 50, .inl (gvm.2.2.2.2.2.2.2.2.2.2.2))), (a0 21, .inl (cy 1, 620, .inl (gla))), (a0 22, .inl (cy 1, 41, .inl (gne)))]
abbrev rm_X13_hedge : Room := { frames := 3, cells := 0, slots := 0, locals := 68 }
set_option maxHeartbeats 1000000 in
set_option maxRecDepth 100000 in
theorem c_X13_hedge (l : Launch) (dC : Nat → ClassId) (dI : Nat → Nat → Nat) (cy : Nat → ClassId) (a0 : Nat → Nat) (gth : Int32) (gvm : Int32 × Int32 × Int32 × (Nat → Int32) × (Nat → Int32) × (Nat → Int32) × (Nat → Int32) × (Nat → Int32) × (Nat → Int32) × (Nat → Int32) × (Nat → Int32) × (Nat → Int32)) (gtd : Int32) (gfl : Int32 × Int32) (grd : Int32 × Int32 × Int32 × Int32 × Int32 × Int32 × Int64 × (Nat → Int32)) (gnv : Int32 × Int32 × Int32 × Int32 × Int32 × (Nat → Int32) × (Nat → Int32) × (Nat → Int32) × (Nat → Int32) × (Nat → Int32) × (Nat → Int32)) (gac : Int32 × (Nat → Int32) × (Nat → Int32)) (gla : (Nat → Int32)) (gne : (Nat → Int32)) (grc : Int32 × (Nat → Int32)) (gim : Int32 × Int32 × Int32 × (Nat → Int32) × (Nat → Int32) × (Nat → Int32) × (Nat → Int32) × (Nat → Int32) × (Nat → Int32) × (Nat → Int32) × (Nat → Int32) × (Nat → Int32)) (x1 : Int32) (x2 : Int32) (x3 : Int32) (x4 : Int32) (sz : Nat) (R0 : Int32 × (Int32) × ((Nat → Int32)) × ((Nat → Int32))) (h : p_X13_hedge gth gvm gla gne x1 x2 x3 x4 = some R0) : Met l yX13_hedge wsX13_hedge rm_X13_hedge (va_Pc [.ref (a0 0), .int x1, .int x2, .int x3, .int x4] (prC dC dI cy (w_X13_hedge cy a0 gth gvm gtd gfl grd gnv gac gla gne grc gim) sz)) (va_Qi (fun (r : Int32) (u : (Int32) × ((Nat → Int32)) × ((Nat → Int32))) => r = R0.1 ∧ u = R0.2) (fun (u : (Int32) × ((Nat → Int32)) × ((Nat → Int32))) t => poC dC dI cy (w_X13_hedge cy a0 u.1 gvm gtd gfl grd gnv gac u.2.1 u.2.2 grc gim) t) (va_A (w_X13_hedge cy a0 gth gvm gtd gfl grd gnv gac gla gne grc gim) sz)) 0 0 (va_A (w_X13_hedge cy a0 gth gvm gtd gfl grd gnv gac gla gne grc gim) sz) := by
  refine Met.ofW (cc := cX13_hedge) (maxL := 10) (ret := (some .int)) (by decide) rfl ?_
  intro p e s m aa below meth c s₁ B hml hv
  obtain ⟨haa, hsz, hP, hK, hD0⟩ := hv
  have hx := B.exec
  have hb := B.bytes
  have hr := B.returns
  have hts := atoms_spec (ws := wsX13_hedge) B.pre
  have hown : s.vm.findClass RX13 = some m.cls := findClass_of_methodNamed B.named
  have hlocks := B.notSynchronized
  subst hsz
  have hD := hD0.self (sz := s.heap.size)
  obtain ⟨qq, hqq⟩ : ∃ qq, qq = (va_Qi (fun (r : Int32) (u : (Int32) × ((Nat → Int32)) × ((Nat → Int32))) => r = R0.1 ∧ u = R0.2) (fun (u : (Int32) × ((Nat → Int32)) × ((Nat → Int32))) t => poC dC dI cy (w_X13_hedge cy a0 u.1 gvm gtd gfl grd gnv gac u.2.1 u.2.2 grc gim) t) (va_A (w_X13_hedge cy a0 gth gvm gtd gfl grd gnv gac gla gne grc gim) s.heap.size)) := ⟨_, rfl⟩
  rw [← hqq]
  generalize hAe : va_A (w_X13_hedge cy a0 gth gvm gtd gfl grd gnv gac gla gne grc gim) s.heap.size = A at hD hqq ⊢
  have hA : ∀ q : Nat, s.heap.size ≤ q → A q := fun q h => by rw [← hAe]; exact Or.inr h
  have hS : va_S A s.heap s.heap [] := va_S.rf
  have hl := lv_entry ([.ref (a0 0), .int x1, .int x2, .int x3, .int x4]) (n := 10) (Nat.le_of_ble_eq_true rfl)
  have hE : entryFrame m aa 10 = F0 m 0 ((lg_sl ([.ref (a0 0), .int x1, .int x2, .int x3, .int x4]) ++ List.replicate (10 - (lg_sl ([.ref (a0 0), .int x1, .int x2, .int x3, .int x4])).length) Slot.unset).toArray) [] := by rw [haa]; exact lg_entry_eq m _ 10
  refine W.eq hE ?_
  generalize (lg_sl ([.ref (a0 0), .int x1, .int x2, .int x3, .int x4]) ++ List.replicate (10 - (lg_sl ([.ref (a0 0), .int x1, .int x2, .int x3, .int x4])).length) Slot.unset).toArray = ls at hl ⊢
  have hl : lv_has ls 10 [(0, .ref (a0 0)), (1, .int x1), (2, .int x2), (3, .int x3), (4, .int x4)] := hl
  change W p l e rm_X13_hedge s m aa below meth c s.heap [] 0 0 (MQ below qq aa s 0 0 A) (F0 m 0 ls [])
  have hS0 := hS
  have lk0 := hts (.fieldLink RX13 77 "GoatDoorsModel" "nets" "[I") (by decide +kernel)
  have lk1 := hts (.fieldLink RX13 74 "GoatDoorsModel" "laid" "[I") (by decide +kernel)
  have lk2 := hts (.fieldLink RX13 22 "GoatDoorsModel" "has" "[I") (by decide +kernel)
  have lk3 := hts (.fieldLink RX13 25 "GoatDoorsModel" "by" "[I") (by decide +kernel)
  have lk4 := hts (.fieldLink RX13 28 "GoatDoorsModel" "to" "[I") (by decide +kernel)
  have lk5 := hts (.fieldLink RX13 135 "GoatDoorsModel" "thrown" "I") (by decide +kernel)
  have in_X13 : ∀ w ∈ wsX130, w ∈ wsX13_hedge := by decide +kernel
  have c245 : ∀ (k100 : (Int32) → ((Nat → Int32)) → ((Nat → Int32)) → Int32 → Int32 → Int32 → Int32 → Int32 → Int32 → Int32 → Option (Int32 × (Int32) × ((Nat → Int32)) × ((Nat → Int32)))) (hk100 : ∀ (gth : Int32) (gla : (Nat → Int32)) (gne : (Nat → Int32)) (x1 : Int32) (x2 : Int32) (x3 : Int32) (x4 : Int32) (x5 : Int32) (x6 : Int32) (x7 : Int32) (H : Heap) (locs : List Loc) (ls : Array Slot), k100 gth gla gne x1 x2 x3 x4 x5 x6 x7 = some R0 → va_P (dC, dI) vwCl (w_X13_hedge cy a0 gth gvm gtd gfl grd gnv gac gla gne grc gim) H → va_D A (w_X13_hedge cy a0 gth gvm gtd gfl grd gnv gac gla gne grc gim) → va_S A s.heap H locs → lv_has ls 10 [(0, .ref (a0 0)), (1, .int x1), (2, .int x2), (3, .int x3), (4, .int x4), (5, .int x5), (6, .int x6), (7, .int x7)] → W p l e rm_X13_hedge s m aa below meth c H locs 0 0 (MQ below qq aa s 0 0 A) (F0 m 100 ls [])), ∀ (gth : Int32) (gla : (Nat → Int32)) (gne : (Nat → Int32)) (x1 : Int32) (x2 : Int32) (x3 : Int32) (x4 : Int32) (x5 : Int32) (x6 : Int32) (x7 : Int32) (H : Heap) (locs : List Loc) (ls : Array Slot), p_X13_hedge_245 k100 gvm gth gla gne x1 x2 x3 x4 x5 x6 x7 = some R0 → va_P (dC, dI) vwCl (w_X13_hedge cy a0 gth gvm gtd gfl grd gnv gac gla gne grc gim) H → va_D A (w_X13_hedge cy a0 gth gvm gtd gfl grd gnv gac gla gne grc gim) → va_S A s.heap H locs → lv_has ls 10 [(0, .ref (a0 0)), (1, .int x1), (2, .int x2), (3, .int x3), (4, .int x4), (5, .int x5), (6, .int x6), (7, .int x7)] → W p l e rm_X13_hedge s m aa below meth c H locs 0 0 (MQ below qq aa s 0 0 A) (F0 m 245 ls []) := by
    intro k100 hk100 gth gla gne x1 x2 x3 x4 x5 x6 x7 H locs ls h hP hD hS hl
    unfold p_X13_hedge_245 at h
    refine lv_iinc (v := (x7 + (1 : Int32))) (lv' := [(7, .int (x7 + (1 : Int32))), (0, .ref (a0 0)), (1, .int x1), (2, .int x2), (3, .int x3), (4, .int x4), (5, .int x5), (6, .int x6)]) hx hb dX13_hedge_245 hl (k := 7) rfl rfl (by decide) rfl (fun ls hl => ?_)
    refine lv_goto (tgt := 100) hx hb dX13_hedge_248 (by decide) ?_
    exact hk100 gth gla gne x1 x2 x3 x4 x5 x6 (x7 + (1 : Int32)) H locs ls h hP hD hS (lv_sub hl [1, 2, 3, 4, 5, 6, 7, 0] rfl)
  have c226 : ∀ (k100 : (Int32) → ((Nat → Int32)) → ((Nat → Int32)) → Int32 → Int32 → Int32 → Int32 → Int32 → Int32 → Int32 → Option (Int32 × (Int32) × ((Nat → Int32)) × ((Nat → Int32)))) (hk100 : ∀ (gth : Int32) (gla : (Nat → Int32)) (gne : (Nat → Int32)) (x1 : Int32) (x2 : Int32) (x3 : Int32) (x4 : Int32) (x5 : Int32) (x6 : Int32) (x7 : Int32) (H : Heap) (locs : List Loc) (ls : Array Slot), k100 gth gla gne x1 x2 x3 x4 x5 x6 x7 = some R0 → va_P (dC, dI) vwCl (w_X13_hedge cy a0 gth gvm gtd gfl grd gnv gac gla gne grc gim) H → va_D A (w_X13_hedge cy a0 gth gvm gtd gfl grd gnv gac gla gne grc gim) → va_S A s.heap H locs → lv_has ls 10 [(0, .ref (a0 0)), (1, .int x1), (2, .int x2), (3, .int x3), (4, .int x4), (5, .int x5), (6, .int x6), (7, .int x7)] → W p l e rm_X13_hedge s m aa below meth c H locs 0 0 (MQ below qq aa s 0 0 A) (F0 m 100 ls [])) (k148 : (Int32) → ((Nat → Int32)) → ((Nat → Int32)) → Int32 → Int32 → Int32 → Int32 → Int32 → Int32 → Int32 → Int32 → Option (Int32 × (Int32) × ((Nat → Int32)) × ((Nat → Int32)))) (hk148 : ∀ (gth : Int32) (gla : (Nat → Int32)) (gne : (Nat → Int32)) (x1 : Int32) (x2 : Int32) (x3 : Int32) (x4 : Int32) (x5 : Int32) (x6 : Int32) (x7 : Int32) (x8 : Int32) (H : Heap) (locs : List Loc) (ls : Array Slot), k148 gth gla gne x1 x2 x3 x4 x5 x6 x7 x8 = some R0 → va_P (dC, dI) vwCl (w_X13_hedge cy a0 gth gvm gtd gfl grd gnv gac gla gne grc gim) H → va_D A (w_X13_hedge cy a0 gth gvm gtd gfl grd gnv gac gla gne grc gim) → va_S A s.heap H locs → lv_has ls 10 [(0, .ref (a0 0)), (1, .int x1), (2, .int x2), (3, .int x3), (4, .int x4), (5, .int x5), (6, .int x6), (7, .int x7), (8, .int x8)] → W p l e rm_X13_hedge s m aa below meth c H locs 0 0 (MQ below qq aa s 0 0 A) (F0 m 148 ls [])), ∀ (gth : Int32) (gla : (Nat → Int32)) (gne : (Nat → Int32)) (x1 : Int32) (x2 : Int32) (x3 : Int32) (x4 : Int32) (x5 : Int32) (x6 : Int32) (x7 : Int32) (x8 : Int32) (H : Heap) (locs : List Loc) (ls : Array Slot), p_X13_hedge_226 k100 k148 gvm gth gla gne x1 x2 x3 x4 x5 x6 x7 x8 = some R0 → va_P (dC, dI) vwCl (w_X13_hedge cy a0 gth gvm gtd gfl grd gnv gac gla gne grc gim) H → va_D A (w_X13_hedge cy a0 gth gvm gtd gfl grd gnv gac gla gne grc gim) → va_S A s.heap H locs → lv_has ls 10 [(0, .ref (a0 0)), (1, .int x1), (2, .int x2), (3, .int x3), (4, .int x4), (5, .int x5), (6, .int x6), (7, .int x7), (8, .int x8)] → W p l e rm_X13_hedge s m aa below meth c H locs 0 0 (MQ below qq aa s 0 0 A) (F0 m 226 ls []) := by
    intro k100 hk100 k148 hk148 gth gla gne x1 x2 x3 x4 x5 x6 x7 x8 H locs ls h hP hD hS hl
    unfold p_X13_hedge_226 at h
    refine lv_iinc (v := (x8 + (1 : Int32))) (lv' := [(8, .int (x8 + (1 : Int32))), (0, .ref (a0 0)), (1, .int x1), (2, .int x2), (3, .int x3), (4, .int x4), (5, .int x5), (6, .int x6), (7, .int x7)]) hx hb dX13_hedge_226 hl (k := 8) rfl rfl (by decide) rfl (fun ls hl => ?_)
    refine lv_goto (tgt := 148) hx hb dX13_hedge_229 (by decide) ?_
    exact hk148 gth gla gne x1 x2 x3 x4 x5 x6 x7 (x8 + (1 : Int32)) H locs ls h hP hD hS (lv_sub hl [1, 2, 3, 4, 5, 6, 7, 8, 0] rfl)
  have c218 : ∀ (k100 : (Int32) → ((Nat → Int32)) → ((Nat → Int32)) → Int32 → Int32 → Int32 → Int32 → Int32 → Int32 → Int32 → Option (Int32 × (Int32) × ((Nat → Int32)) × ((Nat → Int32)))) (hk100 : ∀ (gth : Int32) (gla : (Nat → Int32)) (gne : (Nat → Int32)) (x1 : Int32) (x2 : Int32) (x3 : Int32) (x4 : Int32) (x5 : Int32) (x6 : Int32) (x7 : Int32) (H : Heap) (locs : List Loc) (ls : Array Slot), k100 gth gla gne x1 x2 x3 x4 x5 x6 x7 = some R0 → va_P (dC, dI) vwCl (w_X13_hedge cy a0 gth gvm gtd gfl grd gnv gac gla gne grc gim) H → va_D A (w_X13_hedge cy a0 gth gvm gtd gfl grd gnv gac gla gne grc gim) → va_S A s.heap H locs → lv_has ls 10 [(0, .ref (a0 0)), (1, .int x1), (2, .int x2), (3, .int x3), (4, .int x4), (5, .int x5), (6, .int x6), (7, .int x7)] → W p l e rm_X13_hedge s m aa below meth c H locs 0 0 (MQ below qq aa s 0 0 A) (F0 m 100 ls [])) (k148 : (Int32) → ((Nat → Int32)) → ((Nat → Int32)) → Int32 → Int32 → Int32 → Int32 → Int32 → Int32 → Int32 → Int32 → Option (Int32 × (Int32) × ((Nat → Int32)) × ((Nat → Int32)))) (hk148 : ∀ (gth : Int32) (gla : (Nat → Int32)) (gne : (Nat → Int32)) (x1 : Int32) (x2 : Int32) (x3 : Int32) (x4 : Int32) (x5 : Int32) (x6 : Int32) (x7 : Int32) (x8 : Int32) (H : Heap) (locs : List Loc) (ls : Array Slot), k148 gth gla gne x1 x2 x3 x4 x5 x6 x7 x8 = some R0 → va_P (dC, dI) vwCl (w_X13_hedge cy a0 gth gvm gtd gfl grd gnv gac gla gne grc gim) H → va_D A (w_X13_hedge cy a0 gth gvm gtd gfl grd gnv gac gla gne grc gim) → va_S A s.heap H locs → lv_has ls 10 [(0, .ref (a0 0)), (1, .int x1), (2, .int x2), (3, .int x3), (4, .int x4), (5, .int x5), (6, .int x6), (7, .int x7), (8, .int x8)] → W p l e rm_X13_hedge s m aa below meth c H locs 0 0 (MQ below qq aa s 0 0 A) (F0 m 148 ls [])) (k158 : (Int32) → ((Nat → Int32)) → ((Nat → Int32)) → Int32 → Int32 → Int32 → Int32 → Int32 → Int32 → Int32 → Int32 → Int32 → Option (Int32 × (Int32) × ((Nat → Int32)) × ((Nat → Int32)))) (hk158 : ∀ (gth : Int32) (gla : (Nat → Int32)) (gne : (Nat → Int32)) (x1 : Int32) (x2 : Int32) (x3 : Int32) (x4 : Int32) (x5 : Int32) (x6 : Int32) (x7 : Int32) (x8 : Int32) (x9 : Int32) (H : Heap) (locs : List Loc) (ls : Array Slot), k158 gth gla gne x1 x2 x3 x4 x5 x6 x7 x8 x9 = some R0 → va_P (dC, dI) vwCl (w_X13_hedge cy a0 gth gvm gtd gfl grd gnv gac gla gne grc gim) H → va_D A (w_X13_hedge cy a0 gth gvm gtd gfl grd gnv gac gla gne grc gim) → va_S A s.heap H locs → lv_has ls 10 [(0, .ref (a0 0)), (1, .int x1), (2, .int x2), (3, .int x3), (4, .int x4), (5, .int x5), (6, .int x6), (7, .int x7), (8, .int x8), (9, .int x9)] → W p l e rm_X13_hedge s m aa below meth c H locs 0 0 (MQ below qq aa s 0 0 A) (F0 m 158 ls [])), ∀ (gth : Int32) (gla : (Nat → Int32)) (gne : (Nat → Int32)) (x1 : Int32) (x2 : Int32) (x3 : Int32) (x4 : Int32) (x5 : Int32) (x6 : Int32) (x7 : Int32) (x8 : Int32) (x9 : Int32) (t1 : Int32) (t2 : Int32) (t3 : Int32) (H : Heap) (locs : List Loc) (ls : Array Slot), p_X13_hedge_218 k100 k148 k158 gvm gth gla gne x1 x2 x3 x4 x5 x6 x7 x8 x9 t1 t2 t3 = some R0 → va_P (dC, dI) vwCl (w_X13_hedge cy a0 gth gvm gtd gfl grd gnv gac gla gne grc gim) H → va_D A (w_X13_hedge cy a0 gth gvm gtd gfl grd gnv gac gla gne grc gim) → va_S A s.heap H locs → lv_has ls 10 [(0, .ref (a0 0)), (1, .int x1), (2, .int x2), (3, .int x3), (4, .int x4), (5, .int x5), (6, .int x6), (7, .int x7), (8, .int x8), (9, .int x9)] → W p l e rm_X13_hedge s m aa below meth c H locs 0 0 (MQ below qq aa s 0 0 A) (F0 m 218 ls [.int t3, .int t2, .int t1, .ref (a0 22)]) := by
    intro k100 hk100 k148 hk148 k158 hk158 gth gla gne x1 x2 x3 x4 x5 x6 x7 x8 x9 t1 t2 t3 H locs ls h hP hD hS hl
    unfold p_X13_hedge_218 at h
    refine lv_iadd hx hb dX13_hedge_218 ?_
    obtain ⟨hi1, h⟩ := ok_if h
    refine va_iast hx hb hK hP hD hS 11 1 rfl rfl (ix_in hi1) dX13_hedge_219 (fun H locs hP hD hS => ?_)
    have hP : va_P (dC, dI) vwCl (w_X13_hedge cy a0 gth gvm gtd gfl grd gnv gac gla ((upd gne t1.toNatClampNeg (t2 + t3))) grc gim) H := hP
    have hD : va_D A (w_X13_hedge cy a0 gth gvm gtd gfl grd gnv gac gla ((upd gne t1.toNatClampNeg (t2 + t3))) grc gim) := hD
    refine lv_iinc (v := (x9 + (1 : Int32))) (lv' := [(9, .int (x9 + (1 : Int32))), (0, .ref (a0 0)), (1, .int x1), (2, .int x2), (3, .int x3), (4, .int x4), (5, .int x5), (6, .int x6), (7, .int x7), (8, .int x8)]) hx hb dX13_hedge_220 hl (k := 9) rfl rfl (by decide) rfl (fun ls hl => ?_)
    refine lv_goto (tgt := 158) hx hb dX13_hedge_223 (by decide) ?_
    exact hk158 gth gla (upd gne t1.toNatClampNeg (t2 + t3)) x1 x2 x3 x4 x5 x6 x7 x8 (x9 + (1 : Int32)) H locs ls h hP hD hS (lv_sub hl [1, 2, 3, 4, 5, 6, 7, 8, 9, 0] rfl)
  have c158 : ∀ (k100 : (Int32) → ((Nat → Int32)) → ((Nat → Int32)) → Int32 → Int32 → Int32 → Int32 → Int32 → Int32 → Int32 → Option (Int32 × (Int32) × ((Nat → Int32)) × ((Nat → Int32)))) (hk100 : ∀ (gth : Int32) (gla : (Nat → Int32)) (gne : (Nat → Int32)) (x1 : Int32) (x2 : Int32) (x3 : Int32) (x4 : Int32) (x5 : Int32) (x6 : Int32) (x7 : Int32) (H : Heap) (locs : List Loc) (ls : Array Slot), k100 gth gla gne x1 x2 x3 x4 x5 x6 x7 = some R0 → va_P (dC, dI) vwCl (w_X13_hedge cy a0 gth gvm gtd gfl grd gnv gac gla gne grc gim) H → va_D A (w_X13_hedge cy a0 gth gvm gtd gfl grd gnv gac gla gne grc gim) → va_S A s.heap H locs → lv_has ls 10 [(0, .ref (a0 0)), (1, .int x1), (2, .int x2), (3, .int x3), (4, .int x4), (5, .int x5), (6, .int x6), (7, .int x7)] → W p l e rm_X13_hedge s m aa below meth c H locs 0 0 (MQ below qq aa s 0 0 A) (F0 m 100 ls [])) (k148 : (Int32) → ((Nat → Int32)) → ((Nat → Int32)) → Int32 → Int32 → Int32 → Int32 → Int32 → Int32 → Int32 → Int32 → Option (Int32 × (Int32) × ((Nat → Int32)) × ((Nat → Int32)))) (hk148 : ∀ (gth : Int32) (gla : (Nat → Int32)) (gne : (Nat → Int32)) (x1 : Int32) (x2 : Int32) (x3 : Int32) (x4 : Int32) (x5 : Int32) (x6 : Int32) (x7 : Int32) (x8 : Int32) (H : Heap) (locs : List Loc) (ls : Array Slot), k148 gth gla gne x1 x2 x3 x4 x5 x6 x7 x8 = some R0 → va_P (dC, dI) vwCl (w_X13_hedge cy a0 gth gvm gtd gfl grd gnv gac gla gne grc gim) H → va_D A (w_X13_hedge cy a0 gth gvm gtd gfl grd gnv gac gla gne grc gim) → va_S A s.heap H locs → lv_has ls 10 [(0, .ref (a0 0)), (1, .int x1), (2, .int x2), (3, .int x3), (4, .int x4), (5, .int x5), (6, .int x6), (7, .int x7), (8, .int x8)] → W p l e rm_X13_hedge s m aa below meth c H locs 0 0 (MQ below qq aa s 0 0 A) (F0 m 148 ls [])) (n : Nat), ∀ (gth : Int32) (gla : (Nat → Int32)) (gne : (Nat → Int32)) (x1 : Int32) (x2 : Int32) (x3 : Int32) (x4 : Int32) (x5 : Int32) (x6 : Int32) (x7 : Int32) (x8 : Int32) (x9 : Int32) (H : Heap) (locs : List Loc) (ls : Array Slot), p_X13_hedge_158 k100 k148 gvm n gth gla gne x1 x2 x3 x4 x5 x6 x7 x8 x9 = some R0 → va_P (dC, dI) vwCl (w_X13_hedge cy a0 gth gvm gtd gfl grd gnv gac gla gne grc gim) H → va_D A (w_X13_hedge cy a0 gth gvm gtd gfl grd gnv gac gla gne grc gim) → va_S A s.heap H locs → lv_has ls 10 [(0, .ref (a0 0)), (1, .int x1), (2, .int x2), (3, .int x3), (4, .int x4), (5, .int x5), (6, .int x6), (7, .int x7), (8, .int x8), (9, .int x9)] → W p l e rm_X13_hedge s m aa below meth c H locs 0 0 (MQ below qq aa s 0 0 A) (F0 m 158 ls []) := by
    intro k100 hk100 k148 hk148 n
    induction n with
    | zero => intro gth gla gne x1 x2 x3 x4 x5 x6 x7 x8 x9 H locs ls h; exact no_some h
    | succ n ih =>
      intro gth gla gne x1 x2 x3 x4 x5 x6 x7 x8 x9 H locs ls h hP hD hS hl
      rw [p_X13_hedge_158.eq_2] at h
      refine lv_iload hx hb dX13_hedge_158 (lv_at hl 9 rfl) ?_
      refine lv_iload_n hx hb dX13_hedge_160 rfl (lv_at hl 3 rfl) ?_
      refine lv_icmp_gt (tgt := 226) hx hb dX13_hedge_161 (by decide) (fun c1 => ?_) (fun c1 => ?_)
      · rw [if_pos c1] at h
        exact c226 k100 hk100 k148 hk148 gth gla gne x1 x2 x3 x4 x5 x6 x7 x8 H locs ls h hP hD hS (lv_sub hl [0, 1, 2, 3, 4, 5, 6, 7, 8] rfl)
      · rw [if_neg c1] at h
        refine lv_iload hx hb dX13_hedge_164 (lv_at hl 7 rfl) ?_
        refine lv_iload hx hb dX13_hedge_166 (lv_at hl 8 rfl) ?_
        refine lv_ishr hx hb dX13_hedge_168 ?_
        refine lv_iconst (v := (1 : Int32)) hx hb dX13_hedge_169 (by decide) ?_
        refine lv_iand hx hb dX13_hedge_170 ?_
        refine lv_iconst (v := (1 : Int32)) hx hb dX13_hedge_171 (by decide) ?_
        refine lv_icmp_ne (tgt := 226) hx hb dX13_hedge_172 (by decide) (fun c2 => ?_) (fun c2 => ?_)
        · rw [if_neg c2] at h
          exact c226 k100 hk100 k148 hk148 gth gla gne x1 x2 x3 x4 x5 x6 x7 x8 H locs ls h hP hD hS (lv_sub hl [0, 1, 2, 3, 4, 5, 6, 7, 8] rfl)
        · rw [if_pos c2] at h
          refine lv_aload_n hx hb dX13_hedge_175 rfl (lv_at hl 0 rfl) ?_
          refine va_get (D := (dC, dI)) (ci := 11) (v := .ref (a0 22)) (C := RX13) (T := TX13) (N := 64) hx hb hts in_X13 hown hK hP 0 rfl rfl 41 (by decide) lk0 (fun _ h9 => h9) rfl dX13_hedge_176 ?_
          refine lv_iload hx hb dX13_hedge_179 (lv_at hl 9 rfl) ?_
          refine lv_dup2_11 hx hb dX13_hedge_181 rfl rfl ?_
          obtain ⟨hi3, h⟩ := ok_if h
          refine va_iald hx hb hK hP 11 1 rfl rfl (ix_in hi3) dX13_hedge_182 ?_
          refine lv_iload hx hb dX13_hedge_183 (lv_at hl 4 rfl) ?_
          refine lv_if_eq (tgt := 205) hx hb dX13_hedge_185 (by decide) (fun c4 => ?_) (fun c4 => ?_)
          · rw [if_pos c4] at h
            refine lv_aload_n hx hb dX13_hedge_205 rfl (lv_at hl 0 rfl) ?_
            refine va_get (D := (dC, dI)) (ci := 11) (v := .ref (a0 21)) (C := RX13) (T := TX13) (N := 64) hx hb hts in_X13 hown hK hP 0 rfl rfl 40 (by decide) lk1 (fun _ h9 => h9) rfl dX13_hedge_206 ?_
            refine lv_bipush (v := (62 : Int32)) hx hb dX13_hedge_209 (by decide) ?_
            refine lv_iload hx hb dX13_hedge_211 (lv_at hl 8 rfl) ?_
            refine lv_imul hx hb dX13_hedge_213 ?_
            refine lv_iload hx hb dX13_hedge_214 (lv_at hl 9 rfl) ?_
            refine lv_iadd hx hb dX13_hedge_216 ?_
            obtain ⟨hi5, h⟩ := ok_if h
            refine va_iald hx hb hK hP 10 1 rfl rfl (ix_in hi5) dX13_hedge_217 ?_
            exact c218 k100 hk100 k148 hk148 (p_X13_hedge_158 k100 k148 gvm n) ih gth gla gne x1 x2 x3 x4 x5 x6 x7 x8 x9 x9 (gne x9.toNatClampNeg) (gla (((62 : Int32) * x8) + x9).toNatClampNeg) H locs ls h hP hD hS (lv_sub hl [0, 1, 2, 3, 4, 5, 6, 7, 8, 9] rfl)
          · rw [if_neg c4] at h
            refine lv_aload_n hx hb dX13_hedge_188 rfl (lv_at hl 0 rfl) ?_
            refine va_get (D := (dC, dI)) (ci := 11) (v := .ref (a0 21)) (C := RX13) (T := TX13) (N := 64) hx hb hts in_X13 hown hK hP 0 rfl rfl 40 (by decide) lk1 (fun _ h9 => h9) rfl dX13_hedge_189 ?_
            refine lv_bipush (v := (62 : Int32)) hx hb dX13_hedge_192 (by decide) ?_
            refine lv_iload hx hb dX13_hedge_194 (lv_at hl 8 rfl) ?_
            refine lv_imul hx hb dX13_hedge_196 ?_
            refine lv_iload hx hb dX13_hedge_197 (lv_at hl 9 rfl) ?_
            refine lv_iadd hx hb dX13_hedge_199 ?_
            obtain ⟨hi6, h⟩ := ok_if h
            refine va_iald hx hb hK hP 10 1 rfl rfl (ix_in hi6) dX13_hedge_200 ?_
            refine lv_ineg hx hb dX13_hedge_201 ?_
            refine lv_goto (tgt := 218) hx hb dX13_hedge_202 (by decide) ?_
            exact c218 k100 hk100 k148 hk148 (p_X13_hedge_158 k100 k148 gvm n) ih gth gla gne x1 x2 x3 x4 x5 x6 x7 x8 x9 x9 (gne x9.toNatClampNeg) (-(gla (((62 : Int32) * x8) + x9).toNatClampNeg)) H locs ls h hP hD hS (lv_sub hl [0, 1, 2, 3, 4, 5, 6, 7, 8, 9] rfl)
  have c148 : ∀ (k100 : (Int32) → ((Nat → Int32)) → ((Nat → Int32)) → Int32 → Int32 → Int32 → Int32 → Int32 → Int32 → Int32 → Option (Int32 × (Int32) × ((Nat → Int32)) × ((Nat → Int32)))) (hk100 : ∀ (gth : Int32) (gla : (Nat → Int32)) (gne : (Nat → Int32)) (x1 : Int32) (x2 : Int32) (x3 : Int32) (x4 : Int32) (x5 : Int32) (x6 : Int32) (x7 : Int32) (H : Heap) (locs : List Loc) (ls : Array Slot), k100 gth gla gne x1 x2 x3 x4 x5 x6 x7 = some R0 → va_P (dC, dI) vwCl (w_X13_hedge cy a0 gth gvm gtd gfl grd gnv gac gla gne grc gim) H → va_D A (w_X13_hedge cy a0 gth gvm gtd gfl grd gnv gac gla gne grc gim) → va_S A s.heap H locs → lv_has ls 10 [(0, .ref (a0 0)), (1, .int x1), (2, .int x2), (3, .int x3), (4, .int x4), (5, .int x5), (6, .int x6), (7, .int x7)] → W p l e rm_X13_hedge s m aa below meth c H locs 0 0 (MQ below qq aa s 0 0 A) (F0 m 100 ls [])) (n : Nat), ∀ (gth : Int32) (gla : (Nat → Int32)) (gne : (Nat → Int32)) (x1 : Int32) (x2 : Int32) (x3 : Int32) (x4 : Int32) (x5 : Int32) (x6 : Int32) (x7 : Int32) (x8 : Int32) (H : Heap) (locs : List Loc) (ls : Array Slot), p_X13_hedge_148 k100 gvm n gth gla gne x1 x2 x3 x4 x5 x6 x7 x8 = some R0 → va_P (dC, dI) vwCl (w_X13_hedge cy a0 gth gvm gtd gfl grd gnv gac gla gne grc gim) H → va_D A (w_X13_hedge cy a0 gth gvm gtd gfl grd gnv gac gla gne grc gim) → va_S A s.heap H locs → lv_has ls 10 [(0, .ref (a0 0)), (1, .int x1), (2, .int x2), (3, .int x3), (4, .int x4), (5, .int x5), (6, .int x6), (7, .int x7), (8, .int x8)] → W p l e rm_X13_hedge s m aa below meth c H locs 0 0 (MQ below qq aa s 0 0 A) (F0 m 148 ls []) := by
    intro k100 hk100 n
    induction n with
    | zero => intro gth gla gne x1 x2 x3 x4 x5 x6 x7 x8 H locs ls h; exact no_some h
    | succ n ih =>
      intro gth gla gne x1 x2 x3 x4 x5 x6 x7 x8 H locs ls h hP hD hS hl
      rw [p_X13_hedge_148.eq_2] at h
      refine lv_iload hx hb dX13_hedge_148 (lv_at hl 8 rfl) ?_
      refine lv_bipush (v := (10 : Int32)) hx hb dX13_hedge_150 (by decide) ?_
      refine lv_icmp_ge (tgt := 232) hx hb dX13_hedge_152 (by decide) (fun c1 => ?_) (fun c1 => ?_)
      · rw [if_pos c1] at h
        refine lv_aload_n hx hb dX13_hedge_232 rfl (lv_at hl 0 rfl) ?_
        refine lv_iload_n hx hb dX13_hedge_233 rfl (lv_at hl 2 rfl) ?_
        refine lv_iload_n hx hb dX13_hedge_234 rfl (lv_at hl 3 rfl) ?_
        obtain ⟨v2, hv3, h⟩ := ok_bind h
        refine cl_vi (w2 := fun (_ : Unit) => w_X13_hedge cy a0 gth gvm gtd gfl grd gnv gac gla gne grc gim) (As := [.int x2, .int x3]) (rest := []) ⟨hx, hb, hml, hown, hts⟩ (c_X13_spread l dC dI cy a0 gth gvm gtd gfl grd gnv gac gne grc gim x2 x3 H.size v2 hv3) (cwV 2 hts gX13_hedge_X13_spread rfl rfl rfl (by decide +kernel) ⟨Nat.le_of_ble_eq_true rfl, Nat.le_of_ble_eq_true rfl⟩) (va_recv hK hP (ci := 11) (q0 := 0) rfl rfl) cl_blind (cl_pre hK hP hD [0, 11] (by decide) rfl) hP hD hS hA [0, 11] rfl rfl hl.1 rfl (lv_room (Nat.le_of_ble_eq_true rfl)) dX13_hedge_235 ⟨Nat.le_of_ble_eq_true rfl, Nat.le_of_ble_eq_true rfl⟩ ⟨rfl, rfl⟩ (fun _ => updR [0, 11] rfl) (fun r u H locs hw hP hD hS => ?_)
        have hw := hw.symm
        subst hw
        have hP : va_P (dC, dI) vwCl (w_X13_hedge cy a0 gth gvm gtd gfl grd gnv gac gla gne grc gim) H := hP
        have hD : va_D A (w_X13_hedge cy a0 gth gvm gtd gfl grd gnv gac gla gne grc gim) := hD
        refine lv_if_ne (tgt := 245) hx hb dX13_hedge_238 (by decide) (fun c4 => ?_) (fun c4 => ?_)
        · rw [if_neg c4] at h
          exact c245 k100 hk100 gth gla gne x1 x2 x3 x4 x5 x6 x7 H locs ls h hP hD hS (lv_sub hl [0, 1, 2, 3, 4, 5, 6, 7] rfl)
        · rw [if_pos c4] at h
          refine lv_iload hx hb dX13_hedge_241 (lv_at hl 7 rfl) ?_
          refine lv_istore (lv' := [(6, .int x7), (0, .ref (a0 0)), (1, .int x1), (2, .int x2), (3, .int x3), (4, .int x4), (5, .int x5), (7, .int x7), (8, .int x8)]) hx hb dX13_hedge_243 hl (by decide) rfl (fun ls hl => ?_)
          exact c245 k100 hk100 gth gla gne x1 x2 x3 x4 x5 x7 x7 H locs ls h hP hD hS (lv_sub hl [1, 2, 3, 4, 5, 6, 0, 7] rfl)
      · rw [if_neg c1] at h
        refine lv_iload_n hx hb dX13_hedge_155 rfl (lv_at hl 2 rfl) ?_
        refine lv_istore (lv' := [(9, .int x2), (0, .ref (a0 0)), (1, .int x1), (2, .int x2), (3, .int x3), (4, .int x4), (5, .int x5), (6, .int x6), (7, .int x7), (8, .int x8)]) hx hb dX13_hedge_156 hl (by decide) rfl (fun ls hl => ?_)
        exact c158 k100 hk100 (p_X13_hedge_148 k100 gvm n) ih fu gth gla gne x1 x2 x3 x4 x5 x6 x7 x8 x2 H locs ls h hP hD hS (lv_sub hl [1, 2, 3, 4, 5, 6, 7, 8, 9, 0] rfl)
  have c140 : ∀ (k100 : (Int32) → ((Nat → Int32)) → ((Nat → Int32)) → Int32 → Int32 → Int32 → Int32 → Int32 → Int32 → Int32 → Option (Int32 × (Int32) × ((Nat → Int32)) × ((Nat → Int32)))) (hk100 : ∀ (gth : Int32) (gla : (Nat → Int32)) (gne : (Nat → Int32)) (x1 : Int32) (x2 : Int32) (x3 : Int32) (x4 : Int32) (x5 : Int32) (x6 : Int32) (x7 : Int32) (H : Heap) (locs : List Loc) (ls : Array Slot), k100 gth gla gne x1 x2 x3 x4 x5 x6 x7 = some R0 → va_P (dC, dI) vwCl (w_X13_hedge cy a0 gth gvm gtd gfl grd gnv gac gla gne grc gim) H → va_D A (w_X13_hedge cy a0 gth gvm gtd gfl grd gnv gac gla gne grc gim) → va_S A s.heap H locs → lv_has ls 10 [(0, .ref (a0 0)), (1, .int x1), (2, .int x2), (3, .int x3), (4, .int x4), (5, .int x5), (6, .int x6), (7, .int x7)] → W p l e rm_X13_hedge s m aa below meth c H locs 0 0 (MQ below qq aa s 0 0 A) (F0 m 100 ls [])), ∀ (gth : Int32) (gla : (Nat → Int32)) (gne : (Nat → Int32)) (x1 : Int32) (x2 : Int32) (x3 : Int32) (x4 : Int32) (x5 : Int32) (x6 : Int32) (x7 : Int32) (H : Heap) (locs : List Loc) (ls : Array Slot), p_X13_hedge_140 k100 gvm gth gla gne x1 x2 x3 x4 x5 x6 x7 = some R0 → va_P (dC, dI) vwCl (w_X13_hedge cy a0 gth gvm gtd gfl grd gnv gac gla gne grc gim) H → va_D A (w_X13_hedge cy a0 gth gvm gtd gfl grd gnv gac gla gne grc gim) → va_S A s.heap H locs → lv_has ls 10 [(0, .ref (a0 0)), (1, .int x1), (2, .int x2), (3, .int x3), (4, .int x4), (5, .int x5), (6, .int x6), (7, .int x7)] → W p l e rm_X13_hedge s m aa below meth c H locs 0 0 (MQ below qq aa s 0 0 A) (F0 m 140 ls []) := by
    intro k100 hk100 gth gla gne x1 x2 x3 x4 x5 x6 x7 H locs ls h hP hD hS hl
    unfold p_X13_hedge_140 at h
    refine lv_aload_n hx hb dX13_hedge_140 rfl (lv_at hl 0 rfl) ?_
    refine lv_iload_n hx hb dX13_hedge_141 rfl (lv_at hl 1 rfl) ?_
    obtain ⟨v1, hv2, h⟩ := ok_bind h
    refine cl_vv (w2 := fun (u : ((Nat → Int32))) => w_X13_hedge cy a0 gth gvm gtd gfl grd gnv gac gla u grc gim) (As := [.int x1]) (rest := []) ⟨hx, hb, hml, hown, hts⟩ (c_X13_netsOf l dC dI cy a0 gth gvm gtd gfl grd gnv gac gla gne grc gim x1 H.size v1 hv2) (cwV 1 hts gX13_hedge_X13_netsOf rfl rfl rfl (by decide +kernel) ⟨Nat.le_of_ble_eq_true rfl, Nat.le_of_ble_eq_true rfl⟩) (va_recv hK hP (ci := 11) (q0 := 0) rfl rfl) cl_blind (cl_pre hK hP hD [0, 1, 2, 3, 4, 5, 6, 7, 8, 9, 10, 11] (by decide) rfl) hP hD hS hA [0, 1, 2, 3, 4, 5, 6, 7, 8, 9, 10, 11] rfl rfl hl.1 rfl (lv_room (Nat.le_of_ble_eq_true rfl)) dX13_hedge_142 ⟨Nat.le_of_ble_eq_true rfl, Nat.le_of_ble_eq_true rfl⟩ ⟨rfl, rfl⟩ (fun _ => updM [0, 1, 2, 3, 4, 5, 6, 7, 8, 9, 10, 11] [] [] 12 rfl rfl rfl rfl rfl (by decide +kernel) (by decide +kernel) rfl) (fun u H locs hw hP hD hS => ?_)
    have hw := hw.symm
    subst hw
    have hP : va_P (dC, dI) vwCl (w_X13_hedge cy a0 gth gvm gtd gfl grd gnv gac gla v1 grc gim) H := hP
    have hD : va_D A (w_X13_hedge cy a0 gth gvm gtd gfl grd gnv gac gla v1 grc gim) := hD
    refine lv_iconst (v := (0 : Int32)) hx hb dX13_hedge_145 (by decide) ?_
    refine lv_istore (lv' := [(8, .int (0 : Int32)), (0, .ref (a0 0)), (1, .int x1), (2, .int x2), (3, .int x3), (4, .int x4), (5, .int x5), (6, .int x6), (7, .int x7)]) hx hb dX13_hedge_146 hl (by decide) rfl (fun ls hl => ?_)
    exact c148 k100 hk100 fu gth gla v1 x1 x2 x3 x4 x5 x6 x7 (0 : Int32) H locs ls h hP hD hS (lv_sub hl [1, 2, 3, 4, 5, 6, 7, 8, 0] rfl)
  have c100 : ∀ (n : Nat), ∀ (gth : Int32) (gla : (Nat → Int32)) (gne : (Nat → Int32)) (x1 : Int32) (x2 : Int32) (x3 : Int32) (x4 : Int32) (x5 : Int32) (x6 : Int32) (x7 : Int32) (H : Heap) (locs : List Loc) (ls : Array Slot), p_X13_hedge_100 gvm n gth gla gne x1 x2 x3 x4 x5 x6 x7 = some R0 → va_P (dC, dI) vwCl (w_X13_hedge cy a0 gth gvm gtd gfl grd gnv gac gla gne grc gim) H → va_D A (w_X13_hedge cy a0 gth gvm gtd gfl grd gnv gac gla gne grc gim) → va_S A s.heap H locs → lv_has ls 10 [(0, .ref (a0 0)), (1, .int x1), (2, .int x2), (3, .int x3), (4, .int x4), (5, .int x5), (6, .int x6), (7, .int x7)] → W p l e rm_X13_hedge s m aa below meth c H locs 0 0 (MQ below qq aa s 0 0 A) (F0 m 100 ls []) := by
    intro  n
    induction n with
    | zero => intro gth gla gne x1 x2 x3 x4 x5 x6 x7 H locs ls h; exact no_some h
    | succ n ih =>
      intro gth gla gne x1 x2 x3 x4 x5 x6 x7 H locs ls h hP hD hS hl
      rw [p_X13_hedge_100.eq_2] at h
      refine lv_iload hx hb dX13_hedge_100 (lv_at hl 7 rfl) ?_
      refine lv_sipush (v := (1024 : Int32)) hx hb dX13_hedge_102 (by decide) ?_
      refine lv_icmp_ge (tgt := 251) hx hb dX13_hedge_105 (by decide) (fun c1 => ?_) (fun c1 => ?_)
      · rw [if_pos c1] at h
        refine lv_iload hx hb dX13_hedge_251 (lv_at hl 6 rfl) ?_
        exact W.iret (v := x6) hx hb hr (fun t ht hW => by rw [hqq]; have hh := Option.some.inj h; exact ⟨⟨x6, ((gth, gla, gne)), rfl, ⟨fst_of hh, snd_of hh⟩, by rw [ht]; exact hP, va_K.moved hW.alike hK⟩, hS.F ht⟩) hS.2.2 dX13_hedge_253
      · rw [if_neg c1] at h
        refine lv_iload hx hb dX13_hedge_108 (lv_at hl 7 rfl) ?_
        refine lv_iload hx hb dX13_hedge_110 (lv_at hl 5 rfl) ?_
        refine lv_iconst (v := (-1 : Int32)) hx hb dX13_hedge_112 (by decide) ?_
        refine lv_ixor hx hb dX13_hedge_113 ?_
        refine lv_iand hx hb dX13_hedge_114 ?_
        refine lv_if_ne (tgt := 245) hx hb dX13_hedge_115 (by decide) (fun c2 => ?_) (fun c2 => ?_)
        · rw [if_neg c2] at h
          exact c245 (p_X13_hedge_100 gvm n) ih gth gla gne x1 x2 x3 x4 x5 x6 x7 H locs ls h hP hD hS (lv_sub hl [0, 1, 2, 3, 4, 5, 6, 7] rfl)
        · rw [if_pos c2] at h
          refine lv_iload hx hb dX13_hedge_118 (lv_at hl 6 rfl) ?_
          refine lv_iconst (v := (-1 : Int32)) hx hb dX13_hedge_120 (by decide) ?_
          refine lv_icmp_eq (tgt := 140) hx hb dX13_hedge_121 (by decide) (fun c3 => ?_) (fun c3 => ?_)
          · rw [if_pos c3] at h
            exact c140 (p_X13_hedge_100 gvm n) ih gth gla gne x1 x2 x3 x4 x5 x6 x7 H locs ls h hP hD hS (lv_sub hl [0, 1, 2, 3, 4, 5, 6, 7] rfl)
          · rw [if_neg c3] at h
            refine lv_iload hx hb dX13_hedge_124 (lv_at hl 7 rfl) ?_
            obtain ⟨v4, hv5, h⟩ := ok_bind h
            refine cl_si (w2 := fun (_ : Unit) => w_X13_hedge cy a0 gth gvm gtd gfl grd gnv gac gla gne grc gim) (As := [.int x7]) (rest := []) ⟨hx, hb, hml, hown, hts⟩ (c_X13_bits l dC dI cy  x7 H.size v4 hv5) (va_cwS 1 hts gX13_hedge_X13_bits rfl rfl rfl (by decide +kernel) ⟨Nat.le_of_ble_eq_true rfl, Nat.le_of_ble_eq_true rfl⟩) cl_blind (cl_pre hK hP hD [] (by decide) rfl) hP hD hS hA [] rfl rfl hl.1 rfl (lv_room (Nat.le_of_ble_eq_true rfl)) dX13_hedge_126 ⟨Nat.le_of_ble_eq_true rfl, Nat.le_of_ble_eq_true rfl⟩ ⟨rfl, rfl⟩ (fun _ => updR [] rfl) (fun r u H locs hw hP hD hS => ?_)
            have hw := hw.symm
            subst hw
            have hP : va_P (dC, dI) vwCl (w_X13_hedge cy a0 gth gvm gtd gfl grd gnv gac gla gne grc gim) H := hP
            have hD : va_D A (w_X13_hedge cy a0 gth gvm gtd gfl grd gnv gac gla gne grc gim) := hD
            refine lv_iload hx hb dX13_hedge_129 (lv_at hl 6 rfl) ?_
            obtain ⟨v6, hv7, h⟩ := ok_bind h
            refine cl_si (w2 := fun (_ : Unit) => w_X13_hedge cy a0 gth gvm gtd gfl grd gnv gac gla gne grc gim) (As := [.int x6]) (rest := [.int v4]) ⟨hx, hb, hml, hown, hts⟩ (c_X13_bits l dC dI cy  x6 H.size v6 hv7) (va_cwS 1 hts gX13_hedge_X13_bits rfl rfl rfl (by decide +kernel) ⟨Nat.le_of_ble_eq_true rfl, Nat.le_of_ble_eq_true rfl⟩) cl_blind (cl_pre hK hP hD [] (by decide) rfl) hP hD hS hA [] rfl rfl hl.1 rfl (lv_room (Nat.le_of_ble_eq_true rfl)) dX13_hedge_131 ⟨Nat.le_of_ble_eq_true rfl, Nat.le_of_ble_eq_true rfl⟩ ⟨rfl, rfl⟩ (fun _ => updR [] rfl) (fun r u H locs hw hP hD hS => ?_)
            have hw := hw.symm
            subst hw
            have hP : va_P (dC, dI) vwCl (w_X13_hedge cy a0 gth gvm gtd gfl grd gnv gac gla gne grc gim) H := hP
            have hD : va_D A (w_X13_hedge cy a0 gth gvm gtd gfl grd gnv gac gla gne grc gim) := hD
            refine lv_icmp_lt (tgt := 140) hx hb dX13_hedge_134 (by decide) (fun c8 => ?_) (fun c8 => ?_)
            · rw [if_pos c8] at h
              exact c140 (p_X13_hedge_100 gvm n) ih gth gla gne x1 x2 x3 x4 x5 x6 x7 H locs ls h hP hD hS (lv_sub hl [0, 1, 2, 3, 4, 5, 6, 7] rfl)
            · rw [if_neg c8] at h
              refine lv_goto (tgt := 245) hx hb dX13_hedge_137 (by decide) ?_
              exact c245 (p_X13_hedge_100 gvm n) ih gth gla gne x1 x2 x3 x4 x5 x6 x7 H locs ls h hP hD hS (lv_sub hl [0, 1, 2, 3, 4, 5, 6, 7] rfl)
  have c85 : ∀ (k35 : (Int32) → ((Nat → Int32)) → ((Nat → Int32)) → Int32 → Int32 → Int32 → Int32 → Int32 → Int32 → Option (Int32 × (Int32) × ((Nat → Int32)) × ((Nat → Int32)))) (hk35 : ∀ (gth : Int32) (gla : (Nat → Int32)) (gne : (Nat → Int32)) (x1 : Int32) (x2 : Int32) (x3 : Int32) (x4 : Int32) (x5 : Int32) (x6 : Int32) (H : Heap) (locs : List Loc) (ls : Array Slot), k35 gth gla gne x1 x2 x3 x4 x5 x6 = some R0 → va_P (dC, dI) vwCl (w_X13_hedge cy a0 gth gvm gtd gfl grd gnv gac gla gne grc gim) H → va_D A (w_X13_hedge cy a0 gth gvm gtd gfl grd gnv gac gla gne grc gim) → va_S A s.heap H locs → lv_has ls 10 [(0, .ref (a0 0)), (1, .int x1), (2, .int x2), (3, .int x3), (4, .int x4), (5, .int x5), (6, .int x6)] → W p l e rm_X13_hedge s m aa below meth c H locs 0 0 (MQ below qq aa s 0 0 A) (F0 m 35 ls [])), ∀ (gth : Int32) (gla : (Nat → Int32)) (gne : (Nat → Int32)) (x1 : Int32) (x2 : Int32) (x3 : Int32) (x4 : Int32) (x6 : Int32) (t0 : Int32) (t1 : Int32) (H : Heap) (locs : List Loc) (ls : Array Slot), p_X13_hedge_85 k35 gvm gth gla gne x1 x2 x3 x4 x6 t0 t1 = some R0 → va_P (dC, dI) vwCl (w_X13_hedge cy a0 gth gvm gtd gfl grd gnv gac gla gne grc gim) H → va_D A (w_X13_hedge cy a0 gth gvm gtd gfl grd gnv gac gla gne grc gim) → va_S A s.heap H locs → lv_has ls 10 [(0, .ref (a0 0)), (1, .int x1), (2, .int x2), (3, .int x3), (4, .int x4), (6, .int x6)] → W p l e rm_X13_hedge s m aa below meth c H locs 0 0 (MQ below qq aa s 0 0 A) (F0 m 85 ls [.int t1, .int t0]) := by
    intro k35 hk35 gth gla gne x1 x2 x3 x4 x6 t0 t1 H locs ls h hP hD hS hl
    unfold p_X13_hedge_85 at h
    refine lv_ior hx hb dX13_hedge_85 ?_
    refine lv_istore (lv' := [(5, .int (t0 ||| t1)), (0, .ref (a0 0)), (1, .int x1), (2, .int x2), (3, .int x3), (4, .int x4), (6, .int x6)]) hx hb dX13_hedge_86 hl (by decide) rfl (fun ls hl => ?_)
    refine lv_iinc (v := (x6 + (1 : Int32))) (lv' := [(6, .int (x6 + (1 : Int32))), (5, .int (t0 ||| t1)), (0, .ref (a0 0)), (1, .int x1), (2, .int x2), (3, .int x3), (4, .int x4)]) hx hb dX13_hedge_88 hl (k := 6) rfl rfl (by decide) rfl (fun ls hl => ?_)
    refine lv_goto (tgt := 35) hx hb dX13_hedge_91 (by decide) ?_
    exact hk35 gth gla gne x1 x2 x3 x4 (t0 ||| t1) (x6 + (1 : Int32)) H locs ls h hP hD hS (lv_sub hl [2, 3, 4, 5, 6, 1, 0] rfl)
  have c84 : ∀ (k35 : (Int32) → ((Nat → Int32)) → ((Nat → Int32)) → Int32 → Int32 → Int32 → Int32 → Int32 → Int32 → Option (Int32 × (Int32) × ((Nat → Int32)) × ((Nat → Int32)))) (hk35 : ∀ (gth : Int32) (gla : (Nat → Int32)) (gne : (Nat → Int32)) (x1 : Int32) (x2 : Int32) (x3 : Int32) (x4 : Int32) (x5 : Int32) (x6 : Int32) (H : Heap) (locs : List Loc) (ls : Array Slot), k35 gth gla gne x1 x2 x3 x4 x5 x6 = some R0 → va_P (dC, dI) vwCl (w_X13_hedge cy a0 gth gvm gtd gfl grd gnv gac gla gne grc gim) H → va_D A (w_X13_hedge cy a0 gth gvm gtd gfl grd gnv gac gla gne grc gim) → va_S A s.heap H locs → lv_has ls 10 [(0, .ref (a0 0)), (1, .int x1), (2, .int x2), (3, .int x3), (4, .int x4), (5, .int x5), (6, .int x6)] → W p l e rm_X13_hedge s m aa below meth c H locs 0 0 (MQ below qq aa s 0 0 A) (F0 m 35 ls [])), ∀ (gth : Int32) (gla : (Nat → Int32)) (gne : (Nat → Int32)) (x1 : Int32) (x2 : Int32) (x3 : Int32) (x4 : Int32) (x6 : Int32) (t0 : Int32) (H : Heap) (locs : List Loc) (ls : Array Slot), p_X13_hedge_84 k35 gvm gth gla gne x1 x2 x3 x4 x6 t0 = some R0 → va_P (dC, dI) vwCl (w_X13_hedge cy a0 gth gvm gtd gfl grd gnv gac gla gne grc gim) H → va_D A (w_X13_hedge cy a0 gth gvm gtd gfl grd gnv gac gla gne grc gim) → va_S A s.heap H locs → lv_has ls 10 [(0, .ref (a0 0)), (1, .int x1), (2, .int x2), (3, .int x3), (4, .int x4), (6, .int x6)] → W p l e rm_X13_hedge s m aa below meth c H locs 0 0 (MQ below qq aa s 0 0 A) (F0 m 84 ls [.int t0]) := by
    intro k35 hk35 gth gla gne x1 x2 x3 x4 x6 t0 H locs ls h hP hD hS hl
    unfold p_X13_hedge_84 at h
    refine lv_iconst (v := (0 : Int32)) hx hb dX13_hedge_84 (by decide) ?_
    exact c85 k35 hk35 gth gla gne x1 x2 x3 x4 x6 t0 (0 : Int32) H locs ls h hP hD hS (lv_sub hl [0, 1, 2, 3, 4, 5] rfl)
  have c35 : ∀ (n : Nat), ∀ (gth : Int32) (gla : (Nat → Int32)) (gne : (Nat → Int32)) (x1 : Int32) (x2 : Int32) (x3 : Int32) (x4 : Int32) (x5 : Int32) (x6 : Int32) (H : Heap) (locs : List Loc) (ls : Array Slot), p_X13_hedge_35 gvm n gth gla gne x1 x2 x3 x4 x5 x6 = some R0 → va_P (dC, dI) vwCl (w_X13_hedge cy a0 gth gvm gtd gfl grd gnv gac gla gne grc gim) H → va_D A (w_X13_hedge cy a0 gth gvm gtd gfl grd gnv gac gla gne grc gim) → va_S A s.heap H locs → lv_has ls 10 [(0, .ref (a0 0)), (1, .int x1), (2, .int x2), (3, .int x3), (4, .int x4), (5, .int x5), (6, .int x6)] → W p l e rm_X13_hedge s m aa below meth c H locs 0 0 (MQ below qq aa s 0 0 A) (F0 m 35 ls []) := by
    intro  n
    induction n with
    | zero => intro gth gla gne x1 x2 x3 x4 x5 x6 H locs ls h; exact no_some h
    | succ n ih =>
      intro gth gla gne x1 x2 x3 x4 x5 x6 H locs ls h hP hD hS hl
      rw [p_X13_hedge_35.eq_2] at h
      refine lv_iload hx hb dX13_hedge_35 (lv_at hl 6 rfl) ?_
      refine lv_bipush (v := (10 : Int32)) hx hb dX13_hedge_37 (by decide) ?_
      refine lv_icmp_ge (tgt := 94) hx hb dX13_hedge_39 (by decide) (fun c1 => ?_) (fun c1 => ?_)
      · rw [if_pos c1] at h
        refine lv_iconst (v := (-1 : Int32)) hx hb dX13_hedge_94 (by decide) ?_
        refine lv_istore (lv' := [(6, .int (-1 : Int32)), (0, .ref (a0 0)), (1, .int x1), (2, .int x2), (3, .int x3), (4, .int x4), (5, .int x5)]) hx hb dX13_hedge_95 hl (by decide) rfl (fun ls hl => ?_)
        refine lv_iconst (v := (0 : Int32)) hx hb dX13_hedge_97 (by decide) ?_
        refine lv_istore (lv' := [(7, .int (0 : Int32)), (6, .int (-1 : Int32)), (0, .ref (a0 0)), (1, .int x1), (2, .int x2), (3, .int x3), (4, .int x4), (5, .int x5)]) hx hb dX13_hedge_98 hl (by decide) rfl (fun ls hl => ?_)
        exact c100 fu gth gla gne x1 x2 x3 x4 x5 (-1 : Int32) (0 : Int32) H locs ls h hP hD hS (lv_sub hl [2, 3, 4, 5, 6, 7, 1, 0] rfl)
      · rw [if_neg c1] at h
        refine lv_iload hx hb dX13_hedge_42 (lv_at hl 5 rfl) ?_
        refine lv_aload_n hx hb dX13_hedge_44 rfl (lv_at hl 0 rfl) ?_
        refine va_get (D := (dC, dI)) (ci := 11) (v := .ref (a0 5)) (C := RX13) (T := TX13) (N := 64) hx hb hts in_X13 hown hK hP 0 rfl rfl 8 (by decide) lk2 (fun _ h9 => h9) rfl dX13_hedge_45 ?_
        refine lv_iload hx hb dX13_hedge_48 (lv_at hl 6 rfl) ?_
        obtain ⟨hi2, h⟩ := ok_if h
        refine va_iald hx hb hK hP 5 1 rfl rfl (ix_in hi2) dX13_hedge_50 ?_
        refine lv_iconst (v := (1 : Int32)) hx hb dX13_hedge_51 (by decide) ?_
        refine lv_icmp_ne (tgt := 84) hx hb dX13_hedge_52 (by decide) (fun c3 => ?_) (fun c3 => ?_)
        · rw [if_neg c3] at h
          exact c84 (p_X13_hedge_35 gvm n) ih gth gla gne x1 x2 x3 x4 x6 x5 H locs ls h hP hD hS (lv_sub hl [0, 1, 2, 3, 4, 6] rfl)
        · rw [if_pos c3] at h
          refine lv_aload_n hx hb dX13_hedge_55 rfl (lv_at hl 0 rfl) ?_
          refine va_get (D := (dC, dI)) (ci := 11) (v := .ref (a0 6)) (C := RX13) (T := TX13) (N := 64) hx hb hts in_X13 hown hK hP 0 rfl rfl 9 (by decide) lk3 (fun _ h9 => h9) rfl dX13_hedge_56 ?_
          refine lv_iload hx hb dX13_hedge_59 (lv_at hl 6 rfl) ?_
          obtain ⟨hi4, h⟩ := ok_if h
          refine va_iald hx hb hK hP 6 1 rfl rfl (ix_in hi4) dX13_hedge_61 ?_
          refine lv_iload_n hx hb dX13_hedge_62 rfl (lv_at hl 1 rfl) ?_
          refine lv_icmp_eq (tgt := 84) hx hb dX13_hedge_63 (by decide) (fun c5 => ?_) (fun c5 => ?_)
          · rw [if_pos c5] at h
            exact c84 (p_X13_hedge_35 gvm n) ih gth gla gne x1 x2 x3 x4 x6 x5 H locs ls h hP hD hS (lv_sub hl [0, 1, 2, 3, 4, 6] rfl)
          · rw [if_neg c5] at h
            refine lv_aload_n hx hb dX13_hedge_66 rfl (lv_at hl 0 rfl) ?_
            refine va_get (D := (dC, dI)) (ci := 11) (v := .ref (a0 7)) (C := RX13) (T := TX13) (N := 64) hx hb hts in_X13 hown hK hP 0 rfl rfl 10 (by decide) lk4 (fun _ h9 => h9) rfl dX13_hedge_67 ?_
            refine lv_iload hx hb dX13_hedge_70 (lv_at hl 6 rfl) ?_
            obtain ⟨hi6, h⟩ := ok_if h
            refine va_iald hx hb hK hP 7 1 rfl rfl (ix_in hi6) dX13_hedge_72 ?_
            refine lv_iload_n hx hb dX13_hedge_73 rfl (lv_at hl 1 rfl) ?_
            refine lv_icmp_eq (tgt := 84) hx hb dX13_hedge_74 (by decide) (fun c7 => ?_) (fun c7 => ?_)
            · rw [if_pos c7] at h
              exact c84 (p_X13_hedge_35 gvm n) ih gth gla gne x1 x2 x3 x4 x6 x5 H locs ls h hP hD hS (lv_sub hl [0, 1, 2, 3, 4, 6] rfl)
            · rw [if_neg c7] at h
              refine lv_iconst (v := (1 : Int32)) hx hb dX13_hedge_77 (by decide) ?_
              refine lv_iload hx hb dX13_hedge_78 (lv_at hl 6 rfl) ?_
              refine lv_ishl hx hb dX13_hedge_80 ?_
              refine lv_goto (tgt := 85) hx hb dX13_hedge_81 (by decide) ?_
              exact c85 (p_X13_hedge_35 gvm n) ih gth gla gne x1 x2 x3 x4 x6 x5 ((1 : Int32) <<< (x6 &&& 31)) H locs ls h hP hD hS (lv_sub hl [0, 1, 2, 3, 4, 6] rfl)
  obtain ⟨H, hH⟩ : ∃ H : Heap, H = s.heap := ⟨_, rfl⟩
  obtain ⟨locs, hlocs⟩ : ∃ locs : List Loc, locs = [] := ⟨_, rfl⟩
  have hS : va_S A s.heap H locs := by rw [hH, hlocs]; exact hS
  rw [← hH] at hP
  suffices hg : W p l e rm_X13_hedge s m aa below meth c H locs 0 0 (MQ below qq aa s 0 0 A) (F0 m 0 ls []) by subst hH; subst hlocs; exact hg
  unfold p_X13_hedge at h
  refine lv_aload_n hx hb dX13_hedge_0 rfl (lv_at hl 0 rfl) ?_
  refine lv_iconst (v := (0 : Int32)) hx hb dX13_hedge_1 (by decide) ?_
  refine va_put (D := (dC, dI)) (ci := 11) (v := .int (0 : Int32)) (ty := .int) (C := RX13) (T := TX13) (N := 64) hx hb hts in_X13 tyX13 tyX13_ok nmX13 hown hK hP hD hS 0 rfl rfl 0 (by decide) lk5 (fun _ h9 => h9) rfl (by decide +kernel) rfl rfl (Nat.le_of_ble_eq_true rfl) dX13_hedge_2 (fun H locs hP hD hS => ?_)
  have hP : va_P (dC, dI) vwCl (w_X13_hedge cy a0 ((0 : Int32)) gvm gtd gfl grd gnv gac gla gne grc gim) H := hP
  have hD : va_D A (w_X13_hedge cy a0 ((0 : Int32)) gvm gtd gfl grd gnv gac gla gne grc gim) := hD
  refine lv_aload_n hx hb dX13_hedge_5 rfl (lv_at hl 0 rfl) ?_
  refine lv_iload_n hx hb dX13_hedge_6 rfl (lv_at hl 1 rfl) ?_
  obtain ⟨v1, hv2, h⟩ := ok_bind h
  refine cl_vi (w2 := fun (u : (Int32)) => w_X13_hedge cy a0 u gvm gtd gfl grd gnv gac gla gne grc gim) (As := [.int x1]) (rest := []) ⟨hx, hb, hml, hown, hts⟩ (c_X13_isOwner l dC dI cy a0 (0 : Int32) gvm gtd gfl grd gnv gac grc gim x1 H.size v1 hv2) (cwV 1 hts gX13_hedge_X13_isOwner rfl rfl rfl (by decide +kernel) ⟨Nat.le_of_ble_eq_true rfl, Nat.le_of_ble_eq_true rfl⟩) (va_recv hK hP (ci := 11) (q0 := 0) rfl rfl) cl_blind (cl_pre hK hP hD [0, 1, 2, 3, 4, 5, 6, 7, 8, 9] (by decide) rfl) hP hD hS hA [0, 1, 2, 3, 4, 5, 6, 7, 8, 9] rfl rfl hl.1 rfl (lv_room (Nat.le_of_ble_eq_true rfl)) dX13_hedge_7 ⟨Nat.le_of_ble_eq_true rfl, Nat.le_of_ble_eq_true rfl⟩ ⟨rfl, rfl⟩ (fun _ => updM [0, 1, 2, 3, 4, 5, 6, 7, 8, 9] [10, 11] [(a0 21, .inl (cy 1, 620, .inl (gla))), (a0 22, .inl (cy 1, 41, .inl (gne)))] 12 rfl rfl rfl rfl rfl (by decide +kernel) (by decide +kernel) rfl) (fun r u H locs hw hP hD hS => ?_)
  obtain ⟨rfl, rfl⟩ := hw
  have hP : va_P (dC, dI) vwCl (w_X13_hedge cy a0 v1.2 gvm gtd gfl grd gnv gac gla gne grc gim) H := hP
  have hD : va_D A (w_X13_hedge cy a0 v1.2 gvm gtd gfl grd gnv gac gla gne grc gim) := hD
  refine lv_if_eq (tgt := 23) hx hb dX13_hedge_10 (by decide) (fun c3 => ?_) (fun c3 => ?_)
  · rw [if_pos c3] at h
    refine lv_iconst (v := (0 : Int32)) hx hb dX13_hedge_23 (by decide) ?_
    exact W.iret (v := (0 : Int32)) hx hb hr (fun t ht hW => by rw [hqq]; have hh := Option.some.inj h; exact ⟨⟨(0 : Int32), ((v1.2, gla, gne)), rfl, ⟨fst_of hh, snd_of hh⟩, by rw [ht]; exact hP, va_K.moved hW.alike hK⟩, hS.F ht⟩) hS.2.2 dX13_hedge_24
  · rw [if_neg c3] at h
    refine lv_aload_n hx hb dX13_hedge_13 rfl (lv_at hl 0 rfl) ?_
    refine lv_iload_n hx hb dX13_hedge_14 rfl (lv_at hl 2 rfl) ?_
    refine lv_iload_n hx hb dX13_hedge_15 rfl (lv_at hl 3 rfl) ?_
    refine lv_iconst (v := (2 : Int32)) hx hb dX13_hedge_16 (by decide) ?_
    obtain ⟨v4, hv5, h⟩ := ok_bind h
    refine cl_vi (w2 := fun (u : (Int32)) => w_X13_hedge cy a0 u gvm gtd gfl grd gnv gac gla gne grc gim) (As := [.int x2, .int x3, .int (2 : Int32)]) (rest := []) ⟨hx, hb, hml, hown, hts⟩ (c_X13_isSpan l dC dI cy a0 v1.2 gvm gtd gfl grd gnv gac grc gim x2 x3 (2 : Int32) H.size v4 hv5) (cwV 3 hts gX13_hedge_X13_isSpan rfl rfl rfl (by decide +kernel) ⟨Nat.le_of_ble_eq_true rfl, Nat.le_of_ble_eq_true rfl⟩) (va_recv hK hP (ci := 11) (q0 := 0) rfl rfl) cl_blind (cl_pre hK hP hD [0] (by decide) rfl) hP hD hS hA [0] rfl rfl hl.1 rfl (lv_room (Nat.le_of_ble_eq_true rfl)) dX13_hedge_17 ⟨Nat.le_of_ble_eq_true rfl, Nat.le_of_ble_eq_true rfl⟩ ⟨rfl, rfl⟩ (fun _ => updM [0] [1, 2, 3, 4, 5, 6, 7, 8, 9, 10, 11] [(a0 1, .inl (cy 1, 5, .inl (gvm.2.2.2.1))), (a0 2, .inl (cy 1, 5, .inl (gvm.2.2.2.2.1))), (a0 3, .inl (cy 1, 5, .inl (gvm.2.2.2.2.2.1))), (a0 4, .inl (cy 1, 25, .inl (gvm.2.2.2.2.2.2.1))), (a0 5, .inl (cy 1, 10, .inl (gvm.2.2.2.2.2.2.2.1))), (a0 6, .inl (cy 1, 10, .inl (gvm.2.2.2.2.2.2.2.2.1))), (a0 7, .inl (cy 1, 10, .inl (gvm.2.2.2.2.2.2.2.2.2.1))), (a0 8, .inl (cy 1, 10, .inl (gvm.2.2.2.2.2.2.2.2.2.2.1))), (a0 9, .inl (cy 1, 50, .inl (gvm.2.2.2.2.2.2.2.2.2.2.2))), (a0 21, .inl (cy 1, 620, .inl (gla))), (a0 22, .inl (cy 1, 41, .inl (gne)))] 12 rfl rfl rfl rfl rfl (by decide +kernel) (by decide +kernel) rfl) (fun r u H locs hw hP hD hS => ?_)
    obtain ⟨rfl, rfl⟩ := hw
    have hP : va_P (dC, dI) vwCl (w_X13_hedge cy a0 v4.2 gvm gtd gfl grd gnv gac gla gne grc gim) H := hP
    have hD : va_D A (w_X13_hedge cy a0 v4.2 gvm gtd gfl grd gnv gac gla gne grc gim) := hD
    refine lv_if_ne (tgt := 25) hx hb dX13_hedge_20 (by decide) (fun c6 => ?_) (fun c6 => ?_)
    · rw [if_neg c6] at h
      refine lv_aload_n hx hb dX13_hedge_25 rfl (lv_at hl 0 rfl) ?_
      obtain ⟨v7, hv8, h⟩ := ok_bind h
      refine cl_vv (w2 := fun (u : ((Nat → Int32))) => w_X13_hedge cy a0 v4.2 gvm gtd gfl grd gnv gac u gne grc gim) (As := []) (rest := []) ⟨hx, hb, hml, hown, hts⟩ (c_X13_lay l dC dI cy a0 v4.2 gvm gtd gfl grd gnv gac gla grc gim H.size v7 hv8) (cwV 0 hts gX13_hedge_X13_lay rfl rfl rfl (by decide +kernel) ⟨Nat.le_of_ble_eq_true rfl, Nat.le_of_ble_eq_true rfl⟩) (va_recv hK hP (ci := 11) (q0 := 0) rfl rfl) cl_blind (cl_pre hK hP hD [0, 1, 2, 3, 4, 5, 6, 7, 8, 9, 10] (by decide) rfl) hP hD hS hA [0, 1, 2, 3, 4, 5, 6, 7, 8, 9, 10] rfl rfl hl.1 rfl (lv_room (Nat.le_of_ble_eq_true rfl)) dX13_hedge_26 ⟨Nat.le_of_ble_eq_true rfl, Nat.le_of_ble_eq_true rfl⟩ ⟨rfl, rfl⟩ (fun _ => updM [0, 1, 2, 3, 4, 5, 6, 7, 8, 9, 10] [11] [(a0 22, .inl (cy 1, 41, .inl (gne)))] 12 rfl rfl rfl rfl rfl (by decide +kernel) (by decide +kernel) rfl) (fun u H locs hw hP hD hS => ?_)
      have hw := hw.symm
      subst hw
      have hP : va_P (dC, dI) vwCl (w_X13_hedge cy a0 v4.2 gvm gtd gfl grd gnv gac v7 gne grc gim) H := hP
      have hD : va_D A (w_X13_hedge cy a0 v4.2 gvm gtd gfl grd gnv gac v7 gne grc gim) := hD
      refine lv_iconst (v := (0 : Int32)) hx hb dX13_hedge_29 (by decide) ?_
      refine lv_istore (lv' := [(5, .int (0 : Int32)), (0, .ref (a0 0)), (1, .int x1), (2, .int x2), (3, .int x3), (4, .int x4)]) hx hb dX13_hedge_30 hl (by decide) rfl (fun ls hl => ?_)
      refine lv_iconst (v := (0 : Int32)) hx hb dX13_hedge_32 (by decide) ?_
      refine lv_istore (lv' := [(6, .int (0 : Int32)), (5, .int (0 : Int32)), (0, .ref (a0 0)), (1, .int x1), (2, .int x2), (3, .int x3), (4, .int x4)]) hx hb dX13_hedge_33 hl (by decide) rfl (fun ls hl => ?_)
      exact c35 fu v4.2 v7 gne x1 x2 x3 x4 (0 : Int32) (0 : Int32) H locs ls h hP hD hS (lv_sub hl [2, 3, 4, 5, 6, 1, 0] rfl)
    · rw [if_pos c6] at h
      refine lv_iconst (v := (0 : Int32)) hx hb dX13_hedge_23 (by decide) ?_
      exact W.iret (v := (0 : Int32)) hx hb hr (fun t ht hW => by rw [hqq]; have hh := Option.some.inj h; exact ⟨⟨(0 : Int32), ((v4.2, gla, gne)), rfl, ⟨fst_of hh, snd_of hh⟩, by rw [ht]; exact hP, va_K.moved hW.alike hK⟩, hS.F ht⟩) hS.2.2 dX13_hedge_24

abbrev w_X13_ahead (cy : Nat → ClassId) (a0 : Nat → Nat) (gth : Int32) (gvm : Int32 × Int32 × Int32 × (Nat → Int32) × (Nat → Int32) × (Nat → Int32) × (Nat → Int32) × (Nat → Int32) × (Nat → Int32) × (Nat → Int32) × (Nat → Int32) × (Nat → Int32)) (gtd : Int32) (gfl : Int32 × Int32) (grd : Int32 × Int32 × Int32 × Int32 × Int32 × Int32 × Int64 × (Nat → Int32)) (gnv : Int32 × Int32 × Int32 × Int32 × Int32 × (Nat → Int32) × (Nat → Int32) × (Nat → Int32) × (Nat → Int32) × (Nat → Int32) × (Nat → Int32)) (gac : Int32 × (Nat → Int32) × (Nat → Int32)) (gsp : (Nat → Int32) × (Nat → Int32)) (grc : Int32 × (Nat → Int32)) (gim : Int32 × Int32 × Int32 × (Nat → Int32) × (Nat → Int32) × (Nat → Int32) × (Nat → Int32) × (Nat → Int32) × (Nat → Int32) × (Nat → Int32) × (Nat → Int32) × (Nat → Int32)) : va_W := [(a0 0, .inr (11, [.int (gth), .int (gvm.1), .int (gvm.2.1), .int (gvm.2.2.1), .ref (a0 1), .ref (a0 2), .ref (a0 3), .ref (a0 4), .ref (a0 5), .ref (a0 6), .ref (a0 7), .ref (a0 8), .ref (a0 9), .ref (a0 10), .int (gtd), .int (gfl.1), .int (gfl.2), .ref (a0 11), .int (grd.1), .int (grd.2.1), .int (grd.2.2.1), .int (grd.2.2.2.1), .int (grd.2.2.2.2.1), .int (grd.2.2.2.2.2.1), .long (grd.2.2.2.2.2.2.1), .ref (a0 12), .int (gnv.1), .int (gnv.2.1), .int (gnv.2.2.1), .int (gnv.2.2.2.1), .int (gnv.2.2.2.2.1), .ref (a0 13), .ref (a0 14), .ref (a0 15), .ref (a0 16), .ref (a0 17), .ref (a0 18), .int (gac.1), .ref (a0 19), .ref (a0 20), .ref (a0 21), .ref (a0 22), .ref (a0 23), .ref (a0 24), .ref (a0 25), .ref (a0 26), .ref (a0 27), .int (grc.1), .ref (a0 28), .ref (a0 29), .ref (a0 30), .ref (a0 31), .int (gim.1), .int (gim.2.1), .int (gim.2.2.1), .ref (a0 32), .ref (a0 33), .ref (a0 34), .ref (a0 35), .ref (a0 36), .ref (a0 37), .ref (a0 38), .ref (a0 39), .ref (a0 40)])), (a0 26, .inl (cy 1, 5, .inl (gsp.1))), (a0 27, .inl (cy 1, 10, .inl (gsp.2)))]
abbrev rm_X13_ahead : Room := { frames := 0, cells := 0, slots := 0, locals := 0 }
set_option maxHeartbeats 1000000 in
set_option maxRecDepth 100000 in
theorem c_X13_ahead (l : Launch) (dC : Nat → ClassId) (dI : Nat → Nat → Nat) (cy : Nat → ClassId) (a0 : Nat → Nat) (gth : Int32) (gvm : Int32 × Int32 × Int32 × (Nat → Int32) × (Nat → Int32) × (Nat → Int32) × (Nat → Int32) × (Nat → Int32) × (Nat → Int32) × (Nat → Int32) × (Nat → Int32) × (Nat → Int32)) (gtd : Int32) (gfl : Int32 × Int32) (grd : Int32 × Int32 × Int32 × Int32 × Int32 × Int32 × Int64 × (Nat → Int32)) (gnv : Int32 × Int32 × Int32 × Int32 × Int32 × (Nat → Int32) × (Nat → Int32) × (Nat → Int32) × (Nat → Int32) × (Nat → Int32) × (Nat → Int32)) (gac : Int32 × (Nat → Int32) × (Nat → Int32)) (gsp : (Nat → Int32) × (Nat → Int32)) (grc : Int32 × (Nat → Int32)) (gim : Int32 × Int32 × Int32 × (Nat → Int32) × (Nat → Int32) × (Nat → Int32) × (Nat → Int32) × (Nat → Int32) × (Nat → Int32) × (Nat → Int32) × (Nat → Int32) × (Nat → Int32)) (x1 : Int32) (sz : Nat) (R0 : Int32) (h : p_X13_ahead gsp x1 = some R0) : Met l yX13_ahead wsX13_ahead rm_X13_ahead (va_Pc [.ref (a0 0), .int x1] (prC dC dI cy (w_X13_ahead cy a0 gth gvm gtd gfl grd gnv gac gsp grc gim) sz)) (va_Qi (fun (r : Int32) (_ : Unit) => r = R0) (fun (_ : Unit) t => poC dC dI cy (w_X13_ahead cy a0 gth gvm gtd gfl grd gnv gac gsp grc gim) t) (va_A (w_X13_ahead cy a0 gth gvm gtd gfl grd gnv gac gsp grc gim) sz)) 0 0 (va_A (w_X13_ahead cy a0 gth gvm gtd gfl grd gnv gac gsp grc gim) sz) := by
  refine Met.ofW (cc := cX13_ahead) (maxL := 2) (ret := (some .int)) (by decide) rfl ?_
  intro p e s m aa below meth c s₁ B hml hv
  obtain ⟨haa, hsz, hP, hK, hD0⟩ := hv
  have hx := B.exec
  have hb := B.bytes
  have hr := B.returns
  have hts := atoms_spec (ws := wsX13_ahead) B.pre
  have hown : s.vm.findClass RX13 = some m.cls := findClass_of_methodNamed B.named
  have hlocks := B.notSynchronized
  subst hsz
  have hD := hD0.self (sz := s.heap.size)
  obtain ⟨qq, hqq⟩ : ∃ qq, qq = (va_Qi (fun (r : Int32) (_ : Unit) => r = R0) (fun (_ : Unit) t => poC dC dI cy (w_X13_ahead cy a0 gth gvm gtd gfl grd gnv gac gsp grc gim) t) (va_A (w_X13_ahead cy a0 gth gvm gtd gfl grd gnv gac gsp grc gim) s.heap.size)) := ⟨_, rfl⟩
  rw [← hqq]
  generalize hAe : va_A (w_X13_ahead cy a0 gth gvm gtd gfl grd gnv gac gsp grc gim) s.heap.size = A at hD hqq ⊢
  have hA : ∀ q : Nat, s.heap.size ≤ q → A q := fun q h => by rw [← hAe]; exact Or.inr h
  have hS : va_S A s.heap s.heap [] := va_S.rf
  have hl := lv_entry ([.ref (a0 0), .int x1]) (n := 2) (Nat.le_of_ble_eq_true rfl)
  have hE : entryFrame m aa 2 = F0 m 0 ((lg_sl ([.ref (a0 0), .int x1]) ++ List.replicate (2 - (lg_sl ([.ref (a0 0), .int x1])).length) Slot.unset).toArray) [] := by rw [haa]; exact lg_entry_eq m _ 2
  refine W.eq hE ?_
  generalize (lg_sl ([.ref (a0 0), .int x1]) ++ List.replicate (2 - (lg_sl ([.ref (a0 0), .int x1])).length) Slot.unset).toArray = ls at hl ⊢
  have hl : lv_has ls 2 [(0, .ref (a0 0)), (1, .int x1)] := hl
  change W p l e rm_X13_ahead s m aa below meth c s.heap [] 0 0 (MQ below qq aa s 0 0 A) (F0 m 0 ls [])
  have hS0 := hS
  have lk0 := hts (.fieldLink RX13 89 "GoatDoorsModel" "spans" "[I") (by decide +kernel)
  have in_X13 : ∀ w ∈ wsX130, w ∈ wsX13_ahead := by decide +kernel
  obtain ⟨H, hH⟩ : ∃ H : Heap, H = s.heap := ⟨_, rfl⟩
  obtain ⟨locs, hlocs⟩ : ∃ locs : List Loc, locs = [] := ⟨_, rfl⟩
  have hS : va_S A s.heap H locs := by rw [hH, hlocs]; exact hS
  rw [← hH] at hP
  suffices hg : W p l e rm_X13_ahead s m aa below meth c H locs 0 0 (MQ below qq aa s 0 0 A) (F0 m 0 ls []) by subst hH; subst hlocs; exact hg
  unfold p_X13_ahead at h
  refine lv_aload_n hx hb dX13_ahead_0 rfl (lv_at hl 0 rfl) ?_
  refine va_get (D := (dC, dI)) (ci := 11) (v := .ref (a0 26)) (C := RX13) (T := TX13) (N := 64) hx hb hts in_X13 hown hK hP 0 rfl rfl 45 (by decide) lk0 (fun _ h9 => h9) rfl dX13_ahead_1 ?_
  refine lv_iload_n hx hb dX13_ahead_4 rfl (lv_at hl 1 rfl) ?_
  obtain ⟨hi1, h⟩ := ok_if h
  refine va_iald hx hb hK hP 1 1 rfl rfl (ix_in hi1) dX13_ahead_5 ?_
  exact W.iret (v := (gsp.1 x1.toNatClampNeg)) hx hb hr (fun t ht hW => by rw [hqq]; have hh := Option.some.inj h; exact ⟨⟨(gsp.1 x1.toNatClampNeg), (()), rfl, Option.some.inj h, by rw [ht]; exact hP, va_K.moved hW.alike hK⟩, hS.F ht⟩) hS.2.2 dX13_ahead_6

abbrev w_X13_isLess (cy : Nat → ClassId) (a0 : Nat → Nat) (gth : Int32) (gvm : Int32 × Int32 × Int32 × (Nat → Int32) × (Nat → Int32) × (Nat → Int32) × (Nat → Int32) × (Nat → Int32) × (Nat → Int32) × (Nat → Int32) × (Nat → Int32) × (Nat → Int32)) (gtd : Int32) (gfl : Int32 × Int32) (grd : Int32 × Int32 × Int32 × Int32 × Int32 × Int32 × Int64 × (Nat → Int32)) (gnv : Int32 × Int32 × Int32 × Int32 × Int32 × (Nat → Int32) × (Nat → Int32) × (Nat → Int32) × (Nat → Int32) × (Nat → Int32) × (Nat → Int32)) (gac : Int32 × (Nat → Int32) × (Nat → Int32)) (gla : (Nat → Int32)) (gne : (Nat → Int32)) (gsp : (Nat → Int32) × (Nat → Int32)) (grc : Int32 × (Nat → Int32)) (gim : Int32 × Int32 × Int32 × (Nat → Int32) × (Nat → Int32) × (Nat → Int32) × (Nat → Int32) × (Nat → Int32) × (Nat → Int32) × (Nat → Int32) × (Nat → Int32) × (Nat → Int32)) : va_W := [(a0 0, .inr (11, [.int (gth), .int (gvm.1), .int (gvm.2.1), .int (gvm.2.2.1), .ref (a0 1), .ref (a0 2), .ref (a0 3), .ref (a0 4), .ref (a0 5), .ref (a0 6), .ref (a0 7), .ref (a0 8), .ref (a0 9), .ref (a0 10), .int (gtd), .int (gfl.1), .int (gfl.2), .ref (a0 11), .int (grd.1), .int (grd.2.1), .int (grd.2.2.1), .int (grd.2.2.2.1), .int (grd.2.2.2.2.1), .int (grd.2.2.2.2.2.1), .long (grd.2.2.2.2.2.2.1), .ref (a0 12), .int (gnv.1), .int (gnv.2.1), .int (gnv.2.2.1), .int (gnv.2.2.2.1), .int (gnv.2.2.2.2.1), .ref (a0 13), .ref (a0 14), .ref (a0 15), .ref (a0 16), .ref (a0 17), .ref (a0 18), .int (gac.1), .ref (a0 19), .ref (a0 20), .ref (a0 21), .ref (a0 22), .ref (a0 23), .ref (a0 24), .ref (a0 25), .ref (a0 26), .ref (a0 27), .int (grc.1), .ref (a0 28), .ref (a0 29), .ref (a0 30), .ref (a0 31), .int (gim.1), .int (gim.2.1), .int (gim.2.2.1), .ref (a0 32), .ref (a0 33), .ref (a0 34), .ref (a0 35), .ref (a0 36), .ref (a0 37), .ref (a0 38), .ref (a0 39), .ref (a0 40)])), (a0 1, .inl (cy 1, 5, .inl (gvm.2.2.2.1))), (a0 2, .inl (cy 1, 5, .inl (gvm.2.2.2.2.1))), (a0 3, .inl (cy 1, 5, .inl (gvm.2.2.2.2.2.1))), (a0 4, .inl (cy 1, 25, .inl (gvm.2.2.2.2.2.2.1))), (a0 5, .inl (cy 1, 10, .inl (gvm.2.2.2.2.2.2.2.1))), (a0 6, .inl (cy 1, 10, .inl (gvm.2.2.2.2.2.2.2.2.1))), (a0 7, .inl (cy 1, 10, .inl (gvm.2.2.2.2.2.2.2.2.2.1))), (a0 8, .inl (cy 1, 10, .inl (gvm.2.2.2.2.2.2.2.2.2.2.1))), (a0 9, .inl (cy 1, 50, .inl (gvm.2.2.2.2.2.2.2.2.2.2.2))), (a0 21, .inl (cy 1, 620, .inl (gla))), (a0 22, .inl (cy 1, 41, .inl (gne))), (a0 26, .inl (cy 1, 5, .inl (gsp.1))), (a0 27, .inl (cy 1, 10, .inl (gsp.2)))]
abbrev rm_X13_isLess : Room := { frames := 4, cells := 0, slots := 0, locals := 91 }
set_option maxHeartbeats 1000000 in
set_option maxRecDepth 100000 in
theorem c_X13_isLess (l : Launch) (dC : Nat → ClassId) (dI : Nat → Nat → Nat) (cy : Nat → ClassId) (a0 : Nat → Nat) (gth : Int32) (gvm : Int32 × Int32 × Int32 × (Nat → Int32) × (Nat → Int32) × (Nat → Int32) × (Nat → Int32) × (Nat → Int32) × (Nat → Int32) × (Nat → Int32) × (Nat → Int32) × (Nat → Int32)) (gtd : Int32) (gfl : Int32 × Int32) (grd : Int32 × Int32 × Int32 × Int32 × Int32 × Int32 × Int64 × (Nat → Int32)) (gnv : Int32 × Int32 × Int32 × Int32 × Int32 × (Nat → Int32) × (Nat → Int32) × (Nat → Int32) × (Nat → Int32) × (Nat → Int32) × (Nat → Int32)) (gac : Int32 × (Nat → Int32) × (Nat → Int32)) (gla : (Nat → Int32)) (gne : (Nat → Int32)) (gsp : (Nat → Int32) × (Nat → Int32)) (grc : Int32 × (Nat → Int32)) (gim : Int32 × Int32 × Int32 × (Nat → Int32) × (Nat → Int32) × (Nat → Int32) × (Nat → Int32) × (Nat → Int32) × (Nat → Int32) × (Nat → Int32) × (Nat → Int32) × (Nat → Int32)) (x1 : Int32) (x2 : Int32) (x3 : Int32) (sz : Nat) (R0 : Int32 × ((Nat → Int32))) (h : p_X13_isLess gvm gla gne gsp x1 x2 x3 = some R0) : Met l yX13_isLess wsX13_isLess rm_X13_isLess (va_Pc [.ref (a0 0), .int x1, .int x2, .int x3] (prC dC dI cy (w_X13_isLess cy a0 gth gvm gtd gfl grd gnv gac gla gne gsp grc gim) sz)) (va_Qi (fun (r : Int32) (u : ((Nat → Int32))) => r = R0.1 ∧ u = R0.2) (fun (u : ((Nat → Int32))) t => poC dC dI cy (w_X13_isLess cy a0 gth gvm gtd gfl grd gnv gac gla u gsp grc gim) t) (va_A (w_X13_isLess cy a0 gth gvm gtd gfl grd gnv gac gla gne gsp grc gim) sz)) 0 0 (va_A (w_X13_isLess cy a0 gth gvm gtd gfl grd gnv gac gla gne gsp grc gim) sz) := by
  refine Met.ofW (cc := cX13_isLess) (maxL := 4) (ret := (some .boolean)) (by decide) rfl ?_
  intro p e s m aa below meth c s₁ B hml hv
  obtain ⟨haa, hsz, hP, hK, hD0⟩ := hv
  have hx := B.exec
  have hb := B.bytes
  have hr := B.returns
  have hts := atoms_spec (ws := wsX13_isLess) B.pre
  have hown : s.vm.findClass RX13 = some m.cls := findClass_of_methodNamed B.named
  have hlocks := B.notSynchronized
  subst hsz
  have hD := hD0.self (sz := s.heap.size)
  obtain ⟨qq, hqq⟩ : ∃ qq, qq = (va_Qi (fun (r : Int32) (u : ((Nat → Int32))) => r = R0.1 ∧ u = R0.2) (fun (u : ((Nat → Int32))) t => poC dC dI cy (w_X13_isLess cy a0 gth gvm gtd gfl grd gnv gac gla u gsp grc gim) t) (va_A (w_X13_isLess cy a0 gth gvm gtd gfl grd gnv gac gla gne gsp grc gim) s.heap.size)) := ⟨_, rfl⟩
  rw [← hqq]
  generalize hAe : va_A (w_X13_isLess cy a0 gth gvm gtd gfl grd gnv gac gla gne gsp grc gim) s.heap.size = A at hD hqq ⊢
  have hA : ∀ q : Nat, s.heap.size ≤ q → A q := fun q h => by rw [← hAe]; exact Or.inr h
  have hS : va_S A s.heap s.heap [] := va_S.rf
  have hl := lv_entry ([.ref (a0 0), .int x1, .int x2, .int x3]) (n := 4) (Nat.le_of_ble_eq_true rfl)
  have hE : entryFrame m aa 4 = F0 m 0 ((lg_sl ([.ref (a0 0), .int x1, .int x2, .int x3]) ++ List.replicate (4 - (lg_sl ([.ref (a0 0), .int x1, .int x2, .int x3])).length) Slot.unset).toArray) [] := by rw [haa]; exact lg_entry_eq m _ 4
  refine W.eq hE ?_
  generalize (lg_sl ([.ref (a0 0), .int x1, .int x2, .int x3]) ++ List.replicate (4 - (lg_sl ([.ref (a0 0), .int x1, .int x2, .int x3])).length) Slot.unset).toArray = ls at hl ⊢
  have hl : lv_has ls 4 [(0, .ref (a0 0)), (1, .int x1), (2, .int x2), (3, .int x3)] := hl
  change W p l e rm_X13_isLess s m aa below meth c s.heap [] 0 0 (MQ below qq aa s 0 0 A) (F0 m 0 ls [])
  have hS0 := hS
  obtain ⟨H, hH⟩ : ∃ H : Heap, H = s.heap := ⟨_, rfl⟩
  obtain ⟨locs, hlocs⟩ : ∃ locs : List Loc, locs = [] := ⟨_, rfl⟩
  have hS : va_S A s.heap H locs := by rw [hH, hlocs]; exact hS
  rw [← hH] at hP
  suffices hg : W p l e rm_X13_isLess s m aa below meth c H locs 0 0 (MQ below qq aa s 0 0 A) (F0 m 0 ls []) by subst hH; subst hlocs; exact hg
  unfold p_X13_isLess at h
  refine lv_aload_n hx hb dX13_isLess_0 rfl (lv_at hl 0 rfl) ?_
  refine lv_iload_n hx hb dX13_isLess_1 rfl (lv_at hl 1 rfl) ?_
  refine lv_iload_n hx hb dX13_isLess_2 rfl (lv_at hl 2 rfl) ?_
  refine lv_iload_n hx hb dX13_isLess_3 rfl (lv_at hl 3 rfl) ?_
  obtain ⟨v1, hv2, h⟩ := ok_bind h
  refine cl_vi (w2 := fun (u : ((Nat → Int32))) => w_X13_isLess cy a0 gth gvm gtd gfl grd gnv gac gla u gsp grc gim) (As := [.int x1, .int x2, .int x3]) (rest := []) ⟨hx, hb, hml, hown, hts⟩ (c_X13_spanOf l dC dI cy a0 gth gvm gtd gfl grd gnv gac gla gne grc gim x1 x2 x3 H.size v1 hv2) (cwV 3 hts gX13_isLess_X13_spanOf rfl rfl rfl (by decide +kernel) ⟨Nat.le_of_ble_eq_true rfl, Nat.le_of_ble_eq_true rfl⟩) (va_recv hK hP (ci := 11) (q0 := 0) rfl rfl) cl_blind (cl_pre hK hP hD [0, 1, 2, 3, 4, 5, 6, 7, 8, 9, 10, 11] (by decide) rfl) hP hD hS hA [0, 1, 2, 3, 4, 5, 6, 7, 8, 9, 10, 11] rfl rfl hl.1 rfl (lv_room (Nat.le_of_ble_eq_true rfl)) dX13_isLess_4 ⟨Nat.le_of_ble_eq_true rfl, Nat.le_of_ble_eq_true rfl⟩ ⟨rfl, rfl⟩ (fun _ => updM [0, 1, 2, 3, 4, 5, 6, 7, 8, 9, 10, 11] [12, 13] [(a0 26, .inl (cy 1, 5, .inl (gsp.1))), (a0 27, .inl (cy 1, 10, .inl (gsp.2)))] 14 rfl rfl rfl rfl rfl (by decide +kernel) (by decide +kernel) rfl) (fun r u H locs hw hP hD hS => ?_)
  obtain ⟨rfl, rfl⟩ := hw
  have hP : va_P (dC, dI) vwCl (w_X13_isLess cy a0 gth gvm gtd gfl grd gnv gac gla v1.2 gsp grc gim) H := hP
  have hD : va_D A (w_X13_isLess cy a0 gth gvm gtd gfl grd gnv gac gla v1.2 gsp grc gim) := hD
  refine lv_aload_n hx hb dX13_isLess_7 rfl (lv_at hl 0 rfl) ?_
  refine lv_iload_n hx hb dX13_isLess_8 rfl (lv_at hl 1 rfl) ?_
  obtain ⟨v3, hv4, h⟩ := ok_bind h
  refine cl_vi (w2 := fun (_ : Unit) => w_X13_isLess cy a0 gth gvm gtd gfl grd gnv gac gla v1.2 gsp grc gim) (As := [.int x1]) (rest := [.int v1.1]) ⟨hx, hb, hml, hown, hts⟩ (c_X13_ahead l dC dI cy a0 gth gvm gtd gfl grd gnv gac gsp grc gim x1 H.size v3 hv4) (cwV 1 hts gX13_isLess_X13_ahead rfl rfl rfl (by decide +kernel) ⟨Nat.le_of_ble_eq_true rfl, Nat.le_of_ble_eq_true rfl⟩) (va_recv hK hP (ci := 11) (q0 := 0) rfl rfl) cl_blind (cl_pre hK hP hD [0, 12, 13] (by decide) rfl) hP hD hS hA [0, 12, 13] rfl rfl hl.1 rfl (lv_room (Nat.le_of_ble_eq_true rfl)) dX13_isLess_9 ⟨Nat.le_of_ble_eq_true rfl, Nat.le_of_ble_eq_true rfl⟩ ⟨rfl, rfl⟩ (fun _ => updR [0, 12, 13] rfl) (fun r u H locs hw hP hD hS => ?_)
  have hw := hw.symm
  subst hw
  have hP : va_P (dC, dI) vwCl (w_X13_isLess cy a0 gth gvm gtd gfl grd gnv gac gla v1.2 gsp grc gim) H := hP
  have hD : va_D A (w_X13_isLess cy a0 gth gvm gtd gfl grd gnv gac gla v1.2 gsp grc gim) := hD
  refine lv_icmp_ge (tgt := 19) hx hb dX13_isLess_12 (by decide) (fun c5 => ?_) (fun c5 => ?_)
  · rw [if_pos c5] at h
    refine lv_iconst (v := (0 : Int32)) hx hb dX13_isLess_19 (by decide) ?_
    exact W.zret (v := (0 : Int32)) (ty := .boolean) hx hb hr rfl (fun t ht hW => by rw [hqq]; have hh := Option.some.inj h; exact ⟨⟨(0 : Int32), (v1.2), rfl, ⟨fst_of hh, snd_of hh⟩, by rw [ht]; exact hP, va_K.moved hW.alike hK⟩, hS.F ht⟩) hS.2.2 dX13_isLess_20
  · rw [if_neg c5] at h
    refine lv_iconst (v := (1 : Int32)) hx hb dX13_isLess_15 (by decide) ?_
    refine lv_goto (tgt := 20) hx hb dX13_isLess_16 (by decide) ?_
    exact W.zret (v := (1 : Int32)) (ty := .boolean) hx hb hr rfl (fun t ht hW => by rw [hqq]; have hh := Option.some.inj h; exact ⟨⟨(1 : Int32), (v1.2), rfl, ⟨fst_of hh, snd_of hh⟩, by rw [ht]; exact hP, va_K.moved hW.alike hK⟩, hS.F ht⟩) hS.2.2 dX13_isLess_20

abbrev w_X13_saferTwo (cy : Nat → ClassId) (a0 : Nat → Nat) (gth : Int32) (gvm : Int32 × Int32 × Int32 × (Nat → Int32) × (Nat → Int32) × (Nat → Int32) × (Nat → Int32) × (Nat → Int32) × (Nat → Int32) × (Nat → Int32) × (Nat → Int32) × (Nat → Int32)) (gtd : Int32) (gfl : Int32 × Int32) (grd : Int32 × Int32 × Int32 × Int32 × Int32 × Int32 × Int64 × (Nat → Int32)) (gnv : Int32 × Int32 × Int32 × Int32 × Int32 × (Nat → Int32) × (Nat → Int32) × (Nat → Int32) × (Nat → Int32) × (Nat → Int32) × (Nat → Int32)) (gac : Int32 × (Nat → Int32) × (Nat → Int32)) (gla : (Nat → Int32)) (gne : (Nat → Int32)) (gsp : (Nat → Int32) × (Nat → Int32)) (grc : Int32 × (Nat → Int32)) (gim : Int32 × Int32 × Int32 × (Nat → Int32) × (Nat → Int32) × (Nat → Int32) × (Nat → Int32) × (Nat → Int32) × (Nat → Int32) × (Nat → Int32) × (Nat → Int32) × (Nat → Int32)) : va_W := [(a0 0, .inr (11, [.int (gth), .int (gvm.1), .int (gvm.2.1), .int (gvm.2.2.1), .ref (a0 1), .ref (a0 2), .ref (a0 3), .ref (a0 4), .ref (a0 5), .ref (a0 6), .ref (a0 7), .ref (a0 8), .ref (a0 9), .ref (a0 10), .int (gtd), .int (gfl.1), .int (gfl.2), .ref (a0 11), .int (grd.1), .int (grd.2.1), .int (grd.2.2.1), .int (grd.2.2.2.1), .int (grd.2.2.2.2.1), .int (grd.2.2.2.2.2.1), .long (grd.2.2.2.2.2.2.1), .ref (a0 12), .int (gnv.1), .int (gnv.2.1), .int (gnv.2.2.1), .int (gnv.2.2.2.1), .int (gnv.2.2.2.2.1), .ref (a0 13), .ref (a0 14), .ref (a0 15), .ref (a0 16), .ref (a0 17), .ref (a0 18), .int (gac.1), .ref (a0 19), .ref (a0 20), .ref (a0 21), .ref (a0 22), .ref (a0 23), .ref (a0 24), .ref (a0 25), .ref (a0 26), .ref (a0 27), .int (grc.1), .ref (a0 28), .ref (a0 29), .ref (a0 30), .ref (a0 31), .int (gim.1), .int (gim.2.1), .int (gim.2.2.1), .ref (a0 32), .ref (a0 33), .ref (a0 34), .ref (a0 35), .ref (a0 36), .ref (a0 37), .ref (a0 38), .ref (a0 39), .ref (a0 40)])), (a0 1, .inl (cy 1, 5, .inl (gvm.2.2.2.1))), (a0 2, .inl (cy 1, 5, .inl (gvm.2.2.2.2.1))), (a0 3, .inl (cy 1, 5, .inl (gvm.2.2.2.2.2.1))), (a0 4, .inl (cy 1, 25, .inl (gvm.2.2.2.2.2.2.1))), (a0 5, .inl (cy 1, 10, .inl (gvm.2.2.2.2.2.2.2.1))), (a0 6, .inl (cy 1, 10, .inl (gvm.2.2.2.2.2.2.2.2.1))), (a0 7, .inl (cy 1, 10, .inl (gvm.2.2.2.2.2.2.2.2.2.1))), (a0 8, .inl (cy 1, 10, .inl (gvm.2.2.2.2.2.2.2.2.2.2.1))), (a0 9, .inl (cy 1, 50, .inl (gvm.2.2.2.2.2.2.2.2.2.2.2))), (a0 21, .inl (cy 1, 620, .inl (gla))), (a0 22, .inl (cy 1, 41, .inl (gne))), (a0 26, .inl (cy 1, 5, .inl (gsp.1))), (a0 27, .inl (cy 1, 10, .inl (gsp.2)))]
abbrev rm_X13_saferTwo : Room := { frames := 5, cells := 0, slots := 0, locals := 114 }
set_option maxHeartbeats 1000000 in
set_option maxRecDepth 100000 in
theorem c_X13_saferTwo (l : Launch) (dC : Nat → ClassId) (dI : Nat → Nat → Nat) (cy : Nat → ClassId) (a0 : Nat → Nat) (gth : Int32) (gvm : Int32 × Int32 × Int32 × (Nat → Int32) × (Nat → Int32) × (Nat → Int32) × (Nat → Int32) × (Nat → Int32) × (Nat → Int32) × (Nat → Int32) × (Nat → Int32) × (Nat → Int32)) (gtd : Int32) (gfl : Int32 × Int32) (grd : Int32 × Int32 × Int32 × Int32 × Int32 × Int32 × Int64 × (Nat → Int32)) (gnv : Int32 × Int32 × Int32 × Int32 × Int32 × (Nat → Int32) × (Nat → Int32) × (Nat → Int32) × (Nat → Int32) × (Nat → Int32) × (Nat → Int32)) (gac : Int32 × (Nat → Int32) × (Nat → Int32)) (gla : (Nat → Int32)) (gne : (Nat → Int32)) (gsp : (Nat → Int32) × (Nat → Int32)) (grc : Int32 × (Nat → Int32)) (gim : Int32 × Int32 × Int32 × (Nat → Int32) × (Nat → Int32) × (Nat → Int32) × (Nat → Int32) × (Nat → Int32) × (Nat → Int32) × (Nat → Int32) × (Nat → Int32) × (Nat → Int32)) (x1 : Int32) (x2 : Int32) (x3 : Int32) (x4 : Int32) (sz : Nat) (R0 : Int32 × (Int32 × Int32 × Int32 × (Nat → Int32) × (Nat → Int32) × (Nat → Int32) × (Nat → Int32) × (Nat → Int32) × (Nat → Int32) × (Nat → Int32) × (Nat → Int32) × (Nat → Int32)) × ((Nat → Int32))) (h : p_X13_saferTwo gvm gla gne gsp x1 x2 x3 x4 = some R0) : Met l yX13_saferTwo wsX13_saferTwo rm_X13_saferTwo (va_Pc [.ref (a0 0), .int x1, .int x2, .int x3, .int x4] (prC dC dI cy (w_X13_saferTwo cy a0 gth gvm gtd gfl grd gnv gac gla gne gsp grc gim) sz)) (va_Qi (fun (r : Int32) (u : (Int32 × Int32 × Int32 × (Nat → Int32) × (Nat → Int32) × (Nat → Int32) × (Nat → Int32) × (Nat → Int32) × (Nat → Int32) × (Nat → Int32) × (Nat → Int32) × (Nat → Int32)) × ((Nat → Int32))) => r = R0.1 ∧ u = R0.2) (fun (u : (Int32 × Int32 × Int32 × (Nat → Int32) × (Nat → Int32) × (Nat → Int32) × (Nat → Int32) × (Nat → Int32) × (Nat → Int32) × (Nat → Int32) × (Nat → Int32) × (Nat → Int32)) × ((Nat → Int32))) t => poC dC dI cy (w_X13_saferTwo cy a0 gth u.1 gtd gfl grd gnv gac gla u.2 gsp grc gim) t) (va_A (w_X13_saferTwo cy a0 gth gvm gtd gfl grd gnv gac gla gne gsp grc gim) sz)) 0 0 (va_A (w_X13_saferTwo cy a0 gth gvm gtd gfl grd gnv gac gla gne gsp grc gim) sz) := by
  refine Met.ofW (cc := cX13_saferTwo) (maxL := 6) (ret := (some .boolean)) (by decide) rfl ?_
  intro p e s m aa below meth c s₁ B hml hv
  obtain ⟨haa, hsz, hP, hK, hD0⟩ := hv
  have hx := B.exec
  have hb := B.bytes
  have hr := B.returns
  have hts := atoms_spec (ws := wsX13_saferTwo) B.pre
  have hown : s.vm.findClass RX13 = some m.cls := findClass_of_methodNamed B.named
  have hlocks := B.notSynchronized
  subst hsz
  have hD := hD0.self (sz := s.heap.size)
  obtain ⟨qq, hqq⟩ : ∃ qq, qq = (va_Qi (fun (r : Int32) (u : (Int32 × Int32 × Int32 × (Nat → Int32) × (Nat → Int32) × (Nat → Int32) × (Nat → Int32) × (Nat → Int32) × (Nat → Int32) × (Nat → Int32) × (Nat → Int32) × (Nat → Int32)) × ((Nat → Int32))) => r = R0.1 ∧ u = R0.2) (fun (u : (Int32 × Int32 × Int32 × (Nat → Int32) × (Nat → Int32) × (Nat → Int32) × (Nat → Int32) × (Nat → Int32) × (Nat → Int32) × (Nat → Int32) × (Nat → Int32) × (Nat → Int32)) × ((Nat → Int32))) t => poC dC dI cy (w_X13_saferTwo cy a0 gth u.1 gtd gfl grd gnv gac gla u.2 gsp grc gim) t) (va_A (w_X13_saferTwo cy a0 gth gvm gtd gfl grd gnv gac gla gne gsp grc gim) s.heap.size)) := ⟨_, rfl⟩
  rw [← hqq]
  generalize hAe : va_A (w_X13_saferTwo cy a0 gth gvm gtd gfl grd gnv gac gla gne gsp grc gim) s.heap.size = A at hD hqq ⊢
  have hA : ∀ q : Nat, s.heap.size ≤ q → A q := fun q h => by rw [← hAe]; exact Or.inr h
  have hS : va_S A s.heap s.heap [] := va_S.rf
  have hl := lv_entry ([.ref (a0 0), .int x1, .int x2, .int x3, .int x4]) (n := 6) (Nat.le_of_ble_eq_true rfl)
  have hE : entryFrame m aa 6 = F0 m 0 ((lg_sl ([.ref (a0 0), .int x1, .int x2, .int x3, .int x4]) ++ List.replicate (6 - (lg_sl ([.ref (a0 0), .int x1, .int x2, .int x3, .int x4])).length) Slot.unset).toArray) [] := by rw [haa]; exact lg_entry_eq m _ 6
  refine W.eq hE ?_
  generalize (lg_sl ([.ref (a0 0), .int x1, .int x2, .int x3, .int x4]) ++ List.replicate (6 - (lg_sl ([.ref (a0 0), .int x1, .int x2, .int x3, .int x4])).length) Slot.unset).toArray = ls at hl ⊢
  have hl : lv_has ls 6 [(0, .ref (a0 0)), (1, .int x1), (2, .int x2), (3, .int x3), (4, .int x4)] := hl
  change W p l e rm_X13_saferTwo s m aa below meth c s.heap [] 0 0 (MQ below qq aa s 0 0 A) (F0 m 0 ls [])
  have hS0 := hS
  have lk0 := hts (.fieldLink RX13 28 "GoatDoorsModel" "to" "[I") (by decide +kernel)
  have lk1 := hts (.fieldLink RX13 92 "GoatDoorsModel" "wasTo" "[I") (by decide +kernel)
  have in_X13 : ∀ w ∈ wsX130, w ∈ wsX13_saferTwo := by decide +kernel
  have c72 : ∀ (_u : Unit), ∀ (gvm : Int32 × Int32 × Int32 × (Nat → Int32) × (Nat → Int32) × (Nat → Int32) × (Nat → Int32) × (Nat → Int32) × (Nat → Int32) × (Nat → Int32) × (Nat → Int32) × (Nat → Int32)) (gne : (Nat → Int32)) (x1 : Int32) (x2 : Int32) (t0 : Int32) (H : Heap) (locs : List Loc) (ls : Array Slot), p_X13_saferTwo_72 gla gsp gvm gne x1 x2 t0 = some R0 → va_P (dC, dI) vwCl (w_X13_saferTwo cy a0 gth gvm gtd gfl grd gnv gac gla gne gsp grc gim) H → va_D A (w_X13_saferTwo cy a0 gth gvm gtd gfl grd gnv gac gla gne gsp grc gim) → va_S A s.heap H locs → lv_has ls 6 [(0, .ref (a0 0)), (1, .int x1), (2, .int x2)] → W p l e rm_X13_saferTwo s m aa below meth c H locs 0 0 (MQ below qq aa s 0 0 A) (F0 m 72 ls [.int t0]) := by
    intro _ gvm gne x1 x2 t0 H locs ls h hP hD hS hl
    unfold p_X13_saferTwo_72 at h
    refine lv_istore (lv' := [(5, .int t0), (0, .ref (a0 0)), (1, .int x1), (2, .int x2)]) hx hb dX13_saferTwo_72 hl (by decide) rfl (fun ls hl => ?_)
    refine lv_aload_n hx hb dX13_saferTwo_74 rfl (lv_at hl 1 rfl) ?_
    refine va_get (D := (dC, dI)) (ci := 11) (v := .ref (a0 7)) (C := RX13) (T := TX13) (N := 64) hx hb hts in_X13 hown hK hP 0 rfl rfl 10 (by decide) lk0 (fun _ h9 => h9) rfl dX13_saferTwo_75 ?_
    refine lv_iload_n hx hb dX13_saferTwo_78 rfl (lv_at hl 2 rfl) ?_
    refine lv_aload_n hx hb dX13_saferTwo_79 rfl (lv_at hl 1 rfl) ?_
    refine va_get (D := (dC, dI)) (ci := 11) (v := .ref (a0 27)) (C := RX13) (T := TX13) (N := 64) hx hb hts in_X13 hown hK hP 0 rfl rfl 46 (by decide) lk1 (fun _ h9 => h9) rfl dX13_saferTwo_80 ?_
    refine lv_iload_n hx hb dX13_saferTwo_83 rfl (lv_at hl 2 rfl) ?_
    obtain ⟨hi1, h⟩ := ok_if h
    refine va_iald hx hb hK hP 13 1 rfl rfl (ix_in hi1) dX13_saferTwo_84 ?_
    obtain ⟨hi2, h⟩ := ok_if h
    refine va_iast hx hb hK hP hD hS 7 1 rfl rfl (ix_in hi2) dX13_saferTwo_85 (fun H locs hP hD hS => ?_)
    have hP : va_P (dC, dI) vwCl (w_X13_saferTwo cy a0 gth ((gvm.1, gvm.2.1, gvm.2.2.1, gvm.2.2.2.1, gvm.2.2.2.2.1, gvm.2.2.2.2.2.1, gvm.2.2.2.2.2.2.1, gvm.2.2.2.2.2.2.2.1, gvm.2.2.2.2.2.2.2.2.1, (upd gvm.2.2.2.2.2.2.2.2.2.1 x1.toNatClampNeg (gsp.2 x1.toNatClampNeg)), gvm.2.2.2.2.2.2.2.2.2.2)) gtd gfl grd gnv gac gla gne gsp grc gim) H := hP
    have hD : va_D A (w_X13_saferTwo cy a0 gth ((gvm.1, gvm.2.1, gvm.2.2.1, gvm.2.2.2.1, gvm.2.2.2.2.1, gvm.2.2.2.2.2.1, gvm.2.2.2.2.2.2.1, gvm.2.2.2.2.2.2.2.1, gvm.2.2.2.2.2.2.2.2.1, (upd gvm.2.2.2.2.2.2.2.2.2.1 x1.toNatClampNeg (gsp.2 x1.toNatClampNeg)), gvm.2.2.2.2.2.2.2.2.2.2)) gtd gfl grd gnv gac gla gne gsp grc gim) := hD
    refine lv_aload_n hx hb dX13_saferTwo_86 rfl (lv_at hl 1 rfl) ?_
    refine va_get (D := (dC, dI)) (ci := 11) (v := .ref (a0 7)) (C := RX13) (T := TX13) (N := 64) hx hb hts in_X13 hown hK hP 0 rfl rfl 10 (by decide) lk0 (fun _ h9 => h9) rfl dX13_saferTwo_87 ?_
    refine lv_iload_n hx hb dX13_saferTwo_90 rfl (lv_at hl 3 rfl) ?_
    refine lv_aload_n hx hb dX13_saferTwo_91 rfl (lv_at hl 1 rfl) ?_
    refine va_get (D := (dC, dI)) (ci := 11) (v := .ref (a0 27)) (C := RX13) (T := TX13) (N := 64) hx hb hts in_X13 hown hK hP 0 rfl rfl 46 (by decide) lk1 (fun _ h9 => h9) rfl dX13_saferTwo_92 ?_
    refine lv_iload_n hx hb dX13_saferTwo_95 rfl (lv_at hl 3 rfl) ?_
    obtain ⟨hi3, h⟩ := ok_if h
    refine va_iald hx hb hK hP 13 1 rfl rfl (ix_in hi3) dX13_saferTwo_96 ?_
    obtain ⟨hi4, h⟩ := ok_if h
    refine va_iast hx hb hK hP hD hS 7 1 rfl rfl (ix_in hi4) dX13_saferTwo_97 (fun H locs hP hD hS => ?_)
    have hP : va_P (dC, dI) vwCl (w_X13_saferTwo cy a0 gth ((gvm.1, gvm.2.1, gvm.2.2.1, gvm.2.2.2.1, gvm.2.2.2.2.1, gvm.2.2.2.2.2.1, gvm.2.2.2.2.2.2.1, gvm.2.2.2.2.2.2.2.1, gvm.2.2.2.2.2.2.2.2.1, (upd (upd gvm.2.2.2.2.2.2.2.2.2.1 x1.toNatClampNeg (gsp.2 x1.toNatClampNeg)) x2.toNatClampNeg (gsp.2 x2.toNatClampNeg)), gvm.2.2.2.2.2.2.2.2.2.2)) gtd gfl grd gnv gac gla gne gsp grc gim) H := hP
    have hD : va_D A (w_X13_saferTwo cy a0 gth ((gvm.1, gvm.2.1, gvm.2.2.1, gvm.2.2.2.1, gvm.2.2.2.2.1, gvm.2.2.2.2.2.1, gvm.2.2.2.2.2.2.1, gvm.2.2.2.2.2.2.2.1, gvm.2.2.2.2.2.2.2.2.1, (upd (upd gvm.2.2.2.2.2.2.2.2.2.1 x1.toNatClampNeg (gsp.2 x1.toNatClampNeg)) x2.toNatClampNeg (gsp.2 x2.toNatClampNeg)), gvm.2.2.2.2.2.2.2.2.2.2)) gtd gfl grd gnv gac gla gne gsp grc gim) := hD
    refine lv_iload hx hb dX13_saferTwo_98 (lv_at hl 0 rfl) ?_
    obtain ⟨hz5, h⟩ := ok_if h
    exact W.zret (v := t0) (ty := .boolean) hx hb hr (isZ_nar hz5) (fun t ht hW => by rw [hqq]; have hh := Option.some.inj h; exact ⟨⟨t0, (((gvm.1, gvm.2.1, gvm.2.2.1, gvm.2.2.2.1, gvm.2.2.2.2.1, gvm.2.2.2.2.2.1, gvm.2.2.2.2.2.2.1, gvm.2.2.2.2.2.2.2.1, gvm.2.2.2.2.2.2.2.2.1, (upd (upd gvm.2.2.2.2.2.2.2.2.2.1 x1.toNatClampNeg (gsp.2 x1.toNatClampNeg)) x2.toNatClampNeg (gsp.2 x2.toNatClampNeg)), gvm.2.2.2.2.2.2.2.2.2.2), gne)), rfl, ⟨fst_of hh, snd_of hh⟩, by rw [ht]; exact hP, va_K.moved hW.alike hK⟩, hS.F ht⟩) hS.2.2 dX13_saferTwo_100
  have c71 : ∀ (_u : Unit), ∀ (gvm : Int32 × Int32 × Int32 × (Nat → Int32) × (Nat → Int32) × (Nat → Int32) × (Nat → Int32) × (Nat → Int32) × (Nat → Int32) × (Nat → Int32) × (Nat → Int32) × (Nat → Int32)) (gne : (Nat → Int32)) (x1 : Int32) (x2 : Int32) (H : Heap) (locs : List Loc) (ls : Array Slot), p_X13_saferTwo_71 gla gsp gvm gne x1 x2 = some R0 → va_P (dC, dI) vwCl (w_X13_saferTwo cy a0 gth gvm gtd gfl grd gnv gac gla gne gsp grc gim) H → va_D A (w_X13_saferTwo cy a0 gth gvm gtd gfl grd gnv gac gla gne gsp grc gim) → va_S A s.heap H locs → lv_has ls 6 [(0, .ref (a0 0)), (1, .int x1), (2, .int x2)] → W p l e rm_X13_saferTwo s m aa below meth c H locs 0 0 (MQ below qq aa s 0 0 A) (F0 m 71 ls []) := by
    intro _ gvm gne x1 x2 H locs ls h hP hD hS hl
    unfold p_X13_saferTwo_71 at h
    refine lv_iconst (v := (0 : Int32)) hx hb dX13_saferTwo_71 (by decide) ?_
    exact c72 () gvm gne x1 x2 (0 : Int32) H locs ls h hP hD hS (lv_sub hl [0, 1, 2] rfl)
  obtain ⟨H, hH⟩ : ∃ H : Heap, H = s.heap := ⟨_, rfl⟩
  obtain ⟨locs, hlocs⟩ : ∃ locs : List Loc, locs = [] := ⟨_, rfl⟩
  have hS : va_S A s.heap H locs := by rw [hH, hlocs]; exact hS
  rw [← hH] at hP
  suffices hg : W p l e rm_X13_saferTwo s m aa below meth c H locs 0 0 (MQ below qq aa s 0 0 A) (F0 m 0 ls []) by subst hH; subst hlocs; exact hg
  unfold p_X13_saferTwo at h
  refine lv_aload_n hx hb dX13_saferTwo_0 rfl (lv_at hl 0 rfl) ?_
  refine lv_iload_n hx hb dX13_saferTwo_1 rfl (lv_at hl 1 rfl) ?_
  refine lv_iload_n hx hb dX13_saferTwo_2 rfl (lv_at hl 2 rfl) ?_
  obtain ⟨v1, hv2, h⟩ := ok_bind h
  refine cl_vi (w2 := fun (_ : Unit) => w_X13_saferTwo cy a0 gth gvm gtd gfl grd gnv gac gla gne gsp grc gim) (As := [.int x1, .int x2]) (rest := []) ⟨hx, hb, hml, hown, hts⟩ (c_X13_isSwap l dC dI cy a0 gth gvm gtd gfl grd gnv gac grc gim x1 x2 H.size v1 hv2) (cwV 2 hts gX13_saferTwo_X13_isSwap rfl rfl rfl (by decide +kernel) ⟨Nat.le_of_ble_eq_true rfl, Nat.le_of_ble_eq_true rfl⟩) (va_recv hK hP (ci := 11) (q0 := 0) rfl rfl) cl_blind (cl_pre hK hP hD [0, 1, 2, 3, 4, 5, 6, 7, 8, 9] (by decide) rfl) hP hD hS hA [0, 1, 2, 3, 4, 5, 6, 7, 8, 9] rfl rfl hl.1 rfl (lv_room (Nat.le_of_ble_eq_true rfl)) dX13_saferTwo_3 ⟨Nat.le_of_ble_eq_true rfl, Nat.le_of_ble_eq_true rfl⟩ ⟨rfl, rfl⟩ (fun _ => updR [0, 1, 2, 3, 4, 5, 6, 7, 8, 9] rfl) (fun r u H locs hw hP hD hS => ?_)
  have hw := hw.symm
  subst hw
  have hP : va_P (dC, dI) vwCl (w_X13_saferTwo cy a0 gth gvm gtd gfl grd gnv gac gla gne gsp grc gim) H := hP
  have hD : va_D A (w_X13_saferTwo cy a0 gth gvm gtd gfl grd gnv gac gla gne gsp grc gim) := hD
  refine lv_if_ne (tgt := 11) hx hb dX13_saferTwo_6 (by decide) (fun c3 => ?_) (fun c3 => ?_)
  · rw [if_neg c3] at h
    refine lv_aload_n hx hb dX13_saferTwo_11 rfl (lv_at hl 0 rfl) ?_
    refine va_get (D := (dC, dI)) (ci := 11) (v := .ref (a0 7)) (C := RX13) (T := TX13) (N := 64) hx hb hts in_X13 hown hK hP 0 rfl rfl 10 (by decide) lk0 (fun _ h9 => h9) rfl dX13_saferTwo_12 ?_
    refine lv_iload_n hx hb dX13_saferTwo_15 rfl (lv_at hl 1 rfl) ?_
    refine lv_aload_n hx hb dX13_saferTwo_16 rfl (lv_at hl 0 rfl) ?_
    refine va_get (D := (dC, dI)) (ci := 11) (v := .ref (a0 27)) (C := RX13) (T := TX13) (N := 64) hx hb hts in_X13 hown hK hP 0 rfl rfl 46 (by decide) lk1 (fun _ h9 => h9) rfl dX13_saferTwo_17 ?_
    refine lv_iload_n hx hb dX13_saferTwo_20 rfl (lv_at hl 2 rfl) ?_
    obtain ⟨hi4, h⟩ := ok_if h
    refine va_iald hx hb hK hP 13 1 rfl rfl (ix_in hi4) dX13_saferTwo_21 ?_
    obtain ⟨hi5, h⟩ := ok_if h
    refine va_iast hx hb hK hP hD hS 7 1 rfl rfl (ix_in hi5) dX13_saferTwo_22 (fun H locs hP hD hS => ?_)
    have hP : va_P (dC, dI) vwCl (w_X13_saferTwo cy a0 gth ((gvm.1, gvm.2.1, gvm.2.2.1, gvm.2.2.2.1, gvm.2.2.2.2.1, gvm.2.2.2.2.2.1, gvm.2.2.2.2.2.2.1, gvm.2.2.2.2.2.2.2.1, gvm.2.2.2.2.2.2.2.2.1, (upd gvm.2.2.2.2.2.2.2.2.2.1 x1.toNatClampNeg (gsp.2 x2.toNatClampNeg)), gvm.2.2.2.2.2.2.2.2.2.2)) gtd gfl grd gnv gac gla gne gsp grc gim) H := hP
    have hD : va_D A (w_X13_saferTwo cy a0 gth ((gvm.1, gvm.2.1, gvm.2.2.1, gvm.2.2.2.1, gvm.2.2.2.2.1, gvm.2.2.2.2.2.1, gvm.2.2.2.2.2.2.1, gvm.2.2.2.2.2.2.2.1, gvm.2.2.2.2.2.2.2.2.1, (upd gvm.2.2.2.2.2.2.2.2.2.1 x1.toNatClampNeg (gsp.2 x2.toNatClampNeg)), gvm.2.2.2.2.2.2.2.2.2.2)) gtd gfl grd gnv gac gla gne gsp grc gim) := hD
    refine lv_aload_n hx hb dX13_saferTwo_23 rfl (lv_at hl 0 rfl) ?_
    refine va_get (D := (dC, dI)) (ci := 11) (v := .ref (a0 7)) (C := RX13) (T := TX13) (N := 64) hx hb hts in_X13 hown hK hP 0 rfl rfl 10 (by decide) lk0 (fun _ h9 => h9) rfl dX13_saferTwo_24 ?_
    refine lv_iload_n hx hb dX13_saferTwo_27 rfl (lv_at hl 2 rfl) ?_
    refine lv_aload_n hx hb dX13_saferTwo_28 rfl (lv_at hl 0 rfl) ?_
    refine va_get (D := (dC, dI)) (ci := 11) (v := .ref (a0 27)) (C := RX13) (T := TX13) (N := 64) hx hb hts in_X13 hown hK hP 0 rfl rfl 46 (by decide) lk1 (fun _ h9 => h9) rfl dX13_saferTwo_29 ?_
    refine lv_iload_n hx hb dX13_saferTwo_32 rfl (lv_at hl 1 rfl) ?_
    obtain ⟨hi6, h⟩ := ok_if h
    refine va_iald hx hb hK hP 13 1 rfl rfl (ix_in hi6) dX13_saferTwo_33 ?_
    obtain ⟨hi7, h⟩ := ok_if h
    refine va_iast hx hb hK hP hD hS 7 1 rfl rfl (ix_in hi7) dX13_saferTwo_34 (fun H locs hP hD hS => ?_)
    have hP : va_P (dC, dI) vwCl (w_X13_saferTwo cy a0 gth ((gvm.1, gvm.2.1, gvm.2.2.1, gvm.2.2.2.1, gvm.2.2.2.2.1, gvm.2.2.2.2.2.1, gvm.2.2.2.2.2.2.1, gvm.2.2.2.2.2.2.2.1, gvm.2.2.2.2.2.2.2.2.1, (upd (upd gvm.2.2.2.2.2.2.2.2.2.1 x1.toNatClampNeg (gsp.2 x2.toNatClampNeg)) x2.toNatClampNeg (gsp.2 x1.toNatClampNeg)), gvm.2.2.2.2.2.2.2.2.2.2)) gtd gfl grd gnv gac gla gne gsp grc gim) H := hP
    have hD : va_D A (w_X13_saferTwo cy a0 gth ((gvm.1, gvm.2.1, gvm.2.2.1, gvm.2.2.2.1, gvm.2.2.2.2.1, gvm.2.2.2.2.2.1, gvm.2.2.2.2.2.2.1, gvm.2.2.2.2.2.2.2.1, gvm.2.2.2.2.2.2.2.2.1, (upd (upd gvm.2.2.2.2.2.2.2.2.2.1 x1.toNatClampNeg (gsp.2 x2.toNatClampNeg)) x2.toNatClampNeg (gsp.2 x1.toNatClampNeg)), gvm.2.2.2.2.2.2.2.2.2.2)) gtd gfl grd gnv gac gla gne gsp grc gim) := hD
    refine lv_aload_n hx hb dX13_saferTwo_35 rfl (lv_at hl 0 rfl) ?_
    refine lv_aload_n hx hb dX13_saferTwo_36 rfl (lv_at hl 0 rfl) ?_
    refine va_get (D := (dC, dI)) (ci := 11) (v := .ref (a0 27)) (C := RX13) (T := TX13) (N := 64) hx hb hts in_X13 hown hK hP 0 rfl rfl 46 (by decide) lk1 (fun _ h9 => h9) rfl dX13_saferTwo_37 ?_
    refine lv_iload_n hx hb dX13_saferTwo_40 rfl (lv_at hl 1 rfl) ?_
    obtain ⟨hi8, h⟩ := ok_if h
    refine va_iald hx hb hK hP 13 1 rfl rfl (ix_in hi8) dX13_saferTwo_41 ?_
    refine lv_iload_n hx hb dX13_saferTwo_42 rfl (lv_at hl 3 rfl) ?_
    refine lv_iload hx hb dX13_saferTwo_43 (lv_at hl 4 rfl) ?_
    obtain ⟨v9, hv10, h⟩ := ok_bind h
    refine cl_vi (w2 := fun (u : ((Nat → Int32))) => w_X13_saferTwo cy a0 gth ((gvm.1, gvm.2.1, gvm.2.2.1, gvm.2.2.2.1, gvm.2.2.2.2.1, gvm.2.2.2.2.2.1, gvm.2.2.2.2.2.2.1, gvm.2.2.2.2.2.2.2.1, gvm.2.2.2.2.2.2.2.2.1, (upd (upd gvm.2.2.2.2.2.2.2.2.2.1 x1.toNatClampNeg (gsp.2 x2.toNatClampNeg)) x2.toNatClampNeg (gsp.2 x1.toNatClampNeg)), gvm.2.2.2.2.2.2.2.2.2.2)) gtd gfl grd gnv gac gla u gsp grc gim) (As := [.int (gsp.2 x1.toNatClampNeg), .int x3, .int x4]) (rest := []) ⟨hx, hb, hml, hown, hts⟩ (c_X13_isLess l dC dI cy a0 gth (gvm.1, gvm.2.1, gvm.2.2.1, gvm.2.2.2.1, gvm.2.2.2.2.1, gvm.2.2.2.2.2.1, gvm.2.2.2.2.2.2.1, gvm.2.2.2.2.2.2.2.1, gvm.2.2.2.2.2.2.2.2.1, (upd (upd gvm.2.2.2.2.2.2.2.2.2.1 x1.toNatClampNeg (gsp.2 x2.toNatClampNeg)) x2.toNatClampNeg (gsp.2 x1.toNatClampNeg)), gvm.2.2.2.2.2.2.2.2.2.2) gtd gfl grd gnv gac gla gne gsp grc gim (gsp.2 x1.toNatClampNeg) x3 x4 H.size v9 hv10) (cwV 3 hts gX13_saferTwo_X13_isLess rfl rfl rfl (by decide +kernel) ⟨Nat.le_of_ble_eq_true rfl, Nat.le_of_ble_eq_true rfl⟩) (va_recv hK hP (ci := 11) (q0 := 0) rfl rfl) cl_blind (cl_pre hK hP hD [0, 1, 2, 3, 4, 5, 6, 7, 8, 9, 10, 11, 12, 13] (by decide) rfl) hP hD hS hA [0, 1, 2, 3, 4, 5, 6, 7, 8, 9, 10, 11, 12, 13] rfl rfl hl.1 rfl (lv_room (Nat.le_of_ble_eq_true rfl)) dX13_saferTwo_45 ⟨Nat.le_of_ble_eq_true rfl, Nat.le_of_ble_eq_true rfl⟩ ⟨rfl, rfl⟩ (fun _ => updM [0, 1, 2, 3, 4, 5, 6, 7, 8, 9, 10, 11, 12, 13] [] [] 14 rfl rfl rfl rfl rfl (by decide +kernel) (by decide +kernel) rfl) (fun r u H locs hw hP hD hS => ?_)
    obtain ⟨rfl, rfl⟩ := hw
    have hP : va_P (dC, dI) vwCl (w_X13_saferTwo cy a0 gth ((gvm.1, gvm.2.1, gvm.2.2.1, gvm.2.2.2.1, gvm.2.2.2.2.1, gvm.2.2.2.2.2.1, gvm.2.2.2.2.2.2.1, gvm.2.2.2.2.2.2.2.1, gvm.2.2.2.2.2.2.2.2.1, (upd (upd gvm.2.2.2.2.2.2.2.2.2.1 x1.toNatClampNeg (gsp.2 x2.toNatClampNeg)) x2.toNatClampNeg (gsp.2 x1.toNatClampNeg)), gvm.2.2.2.2.2.2.2.2.2.2)) gtd gfl grd gnv gac gla v9.2 gsp grc gim) H := hP
    have hD : va_D A (w_X13_saferTwo cy a0 gth ((gvm.1, gvm.2.1, gvm.2.2.1, gvm.2.2.2.1, gvm.2.2.2.2.1, gvm.2.2.2.2.2.1, gvm.2.2.2.2.2.2.1, gvm.2.2.2.2.2.2.2.1, gvm.2.2.2.2.2.2.2.2.1, (upd (upd gvm.2.2.2.2.2.2.2.2.2.1 x1.toNatClampNeg (gsp.2 x2.toNatClampNeg)) x2.toNatClampNeg (gsp.2 x1.toNatClampNeg)), gvm.2.2.2.2.2.2.2.2.2.2)) gtd gfl grd gnv gac gla v9.2 gsp grc gim) := hD
    refine lv_if_eq (tgt := 71) hx hb dX13_saferTwo_48 (by decide) (fun c11 => ?_) (fun c11 => ?_)
    · rw [if_pos c11] at h
      exact c71 () (gvm.1, gvm.2.1, gvm.2.2.1, gvm.2.2.2.1, gvm.2.2.2.2.1, gvm.2.2.2.2.2.1, gvm.2.2.2.2.2.2.1, gvm.2.2.2.2.2.2.2.1, gvm.2.2.2.2.2.2.2.2.1, (upd (upd gvm.2.2.2.2.2.2.2.2.2.1 x1.toNatClampNeg (gsp.2 x2.toNatClampNeg)) x2.toNatClampNeg (gsp.2 x1.toNatClampNeg)), gvm.2.2.2.2.2.2.2.2.2.2) v9.2 x1 x2 H locs ls h hP hD hS (lv_sub hl [0, 1, 2] rfl)
    · rw [if_neg c11] at h
      refine lv_aload_n hx hb dX13_saferTwo_51 rfl (lv_at hl 0 rfl) ?_
      refine lv_aload_n hx hb dX13_saferTwo_52 rfl (lv_at hl 0 rfl) ?_
      refine va_get (D := (dC, dI)) (ci := 11) (v := .ref (a0 27)) (C := RX13) (T := TX13) (N := 64) hx hb hts in_X13 hown hK hP 0 rfl rfl 46 (by decide) lk1 (fun _ h9 => h9) rfl dX13_saferTwo_53 ?_
      refine lv_iload_n hx hb dX13_saferTwo_56 rfl (lv_at hl 2 rfl) ?_
      obtain ⟨hi12, h⟩ := ok_if h
      refine va_iald hx hb hK hP 13 1 rfl rfl (ix_in hi12) dX13_saferTwo_57 ?_
      refine lv_iload_n hx hb dX13_saferTwo_58 rfl (lv_at hl 3 rfl) ?_
      refine lv_iload hx hb dX13_saferTwo_59 (lv_at hl 4 rfl) ?_
      obtain ⟨v13, hv14, h⟩ := ok_bind h
      refine cl_vi (w2 := fun (u : ((Nat → Int32))) => w_X13_saferTwo cy a0 gth ((gvm.1, gvm.2.1, gvm.2.2.1, gvm.2.2.2.1, gvm.2.2.2.2.1, gvm.2.2.2.2.2.1, gvm.2.2.2.2.2.2.1, gvm.2.2.2.2.2.2.2.1, gvm.2.2.2.2.2.2.2.2.1, (upd (upd gvm.2.2.2.2.2.2.2.2.2.1 x1.toNatClampNeg (gsp.2 x2.toNatClampNeg)) x2.toNatClampNeg (gsp.2 x1.toNatClampNeg)), gvm.2.2.2.2.2.2.2.2.2.2)) gtd gfl grd gnv gac gla u gsp grc gim) (As := [.int (gsp.2 x2.toNatClampNeg), .int x3, .int x4]) (rest := []) ⟨hx, hb, hml, hown, hts⟩ (c_X13_isLess l dC dI cy a0 gth (gvm.1, gvm.2.1, gvm.2.2.1, gvm.2.2.2.1, gvm.2.2.2.2.1, gvm.2.2.2.2.2.1, gvm.2.2.2.2.2.2.1, gvm.2.2.2.2.2.2.2.1, gvm.2.2.2.2.2.2.2.2.1, (upd (upd gvm.2.2.2.2.2.2.2.2.2.1 x1.toNatClampNeg (gsp.2 x2.toNatClampNeg)) x2.toNatClampNeg (gsp.2 x1.toNatClampNeg)), gvm.2.2.2.2.2.2.2.2.2.2) gtd gfl grd gnv gac gla v9.2 gsp grc gim (gsp.2 x2.toNatClampNeg) x3 x4 H.size v13 hv14) (cwV 3 hts gX13_saferTwo_X13_isLess rfl rfl rfl (by decide +kernel) ⟨Nat.le_of_ble_eq_true rfl, Nat.le_of_ble_eq_true rfl⟩) (va_recv hK hP (ci := 11) (q0 := 0) rfl rfl) cl_blind (cl_pre hK hP hD [0, 1, 2, 3, 4, 5, 6, 7, 8, 9, 10, 11, 12, 13] (by decide) rfl) hP hD hS hA [0, 1, 2, 3, 4, 5, 6, 7, 8, 9, 10, 11, 12, 13] rfl rfl hl.1 rfl (lv_room (Nat.le_of_ble_eq_true rfl)) dX13_saferTwo_61 ⟨Nat.le_of_ble_eq_true rfl, Nat.le_of_ble_eq_true rfl⟩ ⟨rfl, rfl⟩ (fun _ => updM [0, 1, 2, 3, 4, 5, 6, 7, 8, 9, 10, 11, 12, 13] [] [] 14 rfl rfl rfl rfl rfl (by decide +kernel) (by decide +kernel) rfl) (fun r u H locs hw hP hD hS => ?_)
      obtain ⟨rfl, rfl⟩ := hw
      have hP : va_P (dC, dI) vwCl (w_X13_saferTwo cy a0 gth ((gvm.1, gvm.2.1, gvm.2.2.1, gvm.2.2.2.1, gvm.2.2.2.2.1, gvm.2.2.2.2.2.1, gvm.2.2.2.2.2.2.1, gvm.2.2.2.2.2.2.2.1, gvm.2.2.2.2.2.2.2.2.1, (upd (upd gvm.2.2.2.2.2.2.2.2.2.1 x1.toNatClampNeg (gsp.2 x2.toNatClampNeg)) x2.toNatClampNeg (gsp.2 x1.toNatClampNeg)), gvm.2.2.2.2.2.2.2.2.2.2)) gtd gfl grd gnv gac gla v13.2 gsp grc gim) H := hP
      have hD : va_D A (w_X13_saferTwo cy a0 gth ((gvm.1, gvm.2.1, gvm.2.2.1, gvm.2.2.2.1, gvm.2.2.2.2.1, gvm.2.2.2.2.2.1, gvm.2.2.2.2.2.2.1, gvm.2.2.2.2.2.2.2.1, gvm.2.2.2.2.2.2.2.2.1, (upd (upd gvm.2.2.2.2.2.2.2.2.2.1 x1.toNatClampNeg (gsp.2 x2.toNatClampNeg)) x2.toNatClampNeg (gsp.2 x1.toNatClampNeg)), gvm.2.2.2.2.2.2.2.2.2.2)) gtd gfl grd gnv gac gla v13.2 gsp grc gim) := hD
      refine lv_if_eq (tgt := 71) hx hb dX13_saferTwo_64 (by decide) (fun c15 => ?_) (fun c15 => ?_)
      · rw [if_pos c15] at h
        exact c71 () (gvm.1, gvm.2.1, gvm.2.2.1, gvm.2.2.2.1, gvm.2.2.2.2.1, gvm.2.2.2.2.2.1, gvm.2.2.2.2.2.2.1, gvm.2.2.2.2.2.2.2.1, gvm.2.2.2.2.2.2.2.2.1, (upd (upd gvm.2.2.2.2.2.2.2.2.2.1 x1.toNatClampNeg (gsp.2 x2.toNatClampNeg)) x2.toNatClampNeg (gsp.2 x1.toNatClampNeg)), gvm.2.2.2.2.2.2.2.2.2.2) v13.2 x1 x2 H locs ls h hP hD hS (lv_sub hl [0, 1, 2] rfl)
      · rw [if_neg c15] at h
        refine lv_iconst (v := (1 : Int32)) hx hb dX13_saferTwo_67 (by decide) ?_
        refine lv_goto (tgt := 72) hx hb dX13_saferTwo_68 (by decide) ?_
        exact c72 () (gvm.1, gvm.2.1, gvm.2.2.1, gvm.2.2.2.1, gvm.2.2.2.2.1, gvm.2.2.2.2.2.1, gvm.2.2.2.2.2.2.1, gvm.2.2.2.2.2.2.2.1, gvm.2.2.2.2.2.2.2.2.1, (upd (upd gvm.2.2.2.2.2.2.2.2.2.1 x1.toNatClampNeg (gsp.2 x2.toNatClampNeg)) x2.toNatClampNeg (gsp.2 x1.toNatClampNeg)), gvm.2.2.2.2.2.2.2.2.2.2) v13.2 x1 x2 (1 : Int32) H locs ls h hP hD hS (lv_sub hl [0, 1, 2] rfl)
  · rw [if_pos c3] at h
    refine lv_iconst (v := (0 : Int32)) hx hb dX13_saferTwo_9 (by decide) ?_
    exact W.zret (v := (0 : Int32)) (ty := .boolean) hx hb hr rfl (fun t ht hW => by rw [hqq]; have hh := Option.some.inj h; exact ⟨⟨(0 : Int32), ((gvm, gne)), rfl, ⟨fst_of hh, snd_of hh⟩, by rw [ht]; exact hP, va_K.moved hW.alike hK⟩, hS.F ht⟩) hS.2.2 dX13_saferTwo_10

abbrev w_X13_saferThree (cy : Nat → ClassId) (a0 : Nat → Nat) (gth : Int32) (gvm : Int32 × Int32 × Int32 × (Nat → Int32) × (Nat → Int32) × (Nat → Int32) × (Nat → Int32) × (Nat → Int32) × (Nat → Int32) × (Nat → Int32) × (Nat → Int32) × (Nat → Int32)) (gtd : Int32) (gfl : Int32 × Int32) (grd : Int32 × Int32 × Int32 × Int32 × Int32 × Int32 × Int64 × (Nat → Int32)) (gnv : Int32 × Int32 × Int32 × Int32 × Int32 × (Nat → Int32) × (Nat → Int32) × (Nat → Int32) × (Nat → Int32) × (Nat → Int32) × (Nat → Int32)) (gac : Int32 × (Nat → Int32) × (Nat → Int32)) (gla : (Nat → Int32)) (gne : (Nat → Int32)) (gsp : (Nat → Int32) × (Nat → Int32)) (grc : Int32 × (Nat → Int32)) (gim : Int32 × Int32 × Int32 × (Nat → Int32) × (Nat → Int32) × (Nat → Int32) × (Nat → Int32) × (Nat → Int32) × (Nat → Int32) × (Nat → Int32) × (Nat → Int32) × (Nat → Int32)) : va_W := [(a0 0, .inr (11, [.int (gth), .int (gvm.1), .int (gvm.2.1), .int (gvm.2.2.1), .ref (a0 1), .ref (a0 2), .ref (a0 3), .ref (a0 4), .ref (a0 5), .ref (a0 6), .ref (a0 7), .ref (a0 8), .ref (a0 9), .ref (a0 10), .int (gtd), .int (gfl.1), .int (gfl.2), .ref (a0 11), .int (grd.1), .int (grd.2.1), .int (grd.2.2.1), .int (grd.2.2.2.1), .int (grd.2.2.2.2.1), .int (grd.2.2.2.2.2.1), .long (grd.2.2.2.2.2.2.1), .ref (a0 12), .int (gnv.1), .int (gnv.2.1), .int (gnv.2.2.1), .int (gnv.2.2.2.1), .int (gnv.2.2.2.2.1), .ref (a0 13), .ref (a0 14), .ref (a0 15), .ref (a0 16), .ref (a0 17), .ref (a0 18), .int (gac.1), .ref (a0 19), .ref (a0 20), .ref (a0 21), .ref (a0 22), .ref (a0 23), .ref (a0 24), .ref (a0 25), .ref (a0 26), .ref (a0 27), .int (grc.1), .ref (a0 28), .ref (a0 29), .ref (a0 30), .ref (a0 31), .int (gim.1), .int (gim.2.1), .int (gim.2.2.1), .ref (a0 32), .ref (a0 33), .ref (a0 34), .ref (a0 35), .ref (a0 36), .ref (a0 37), .ref (a0 38), .ref (a0 39), .ref (a0 40)])), (a0 1, .inl (cy 1, 5, .inl (gvm.2.2.2.1))), (a0 2, .inl (cy 1, 5, .inl (gvm.2.2.2.2.1))), (a0 3, .inl (cy 1, 5, .inl (gvm.2.2.2.2.2.1))), (a0 4, .inl (cy 1, 25, .inl (gvm.2.2.2.2.2.2.1))), (a0 5, .inl (cy 1, 10, .inl (gvm.2.2.2.2.2.2.2.1))), (a0 6, .inl (cy 1, 10, .inl (gvm.2.2.2.2.2.2.2.2.1))), (a0 7, .inl (cy 1, 10, .inl (gvm.2.2.2.2.2.2.2.2.2.1))), (a0 8, .inl (cy 1, 10, .inl (gvm.2.2.2.2.2.2.2.2.2.2.1))), (a0 9, .inl (cy 1, 50, .inl (gvm.2.2.2.2.2.2.2.2.2.2.2))), (a0 21, .inl (cy 1, 620, .inl (gla))), (a0 22, .inl (cy 1, 41, .inl (gne))), (a0 26, .inl (cy 1, 5, .inl (gsp.1))), (a0 27, .inl (cy 1, 10, .inl (gsp.2)))]
abbrev rm_X13_saferThree : Room := { frames := 5, cells := 0, slots := 0, locals := 114 }
set_option maxHeartbeats 1000000 in
set_option maxRecDepth 100000 in
theorem c_X13_saferThree (l : Launch) (dC : Nat → ClassId) (dI : Nat → Nat → Nat) (cy : Nat → ClassId) (a0 : Nat → Nat) (gth : Int32) (gvm : Int32 × Int32 × Int32 × (Nat → Int32) × (Nat → Int32) × (Nat → Int32) × (Nat → Int32) × (Nat → Int32) × (Nat → Int32) × (Nat → Int32) × (Nat → Int32) × (Nat → Int32)) (gtd : Int32) (gfl : Int32 × Int32) (grd : Int32 × Int32 × Int32 × Int32 × Int32 × Int32 × Int64 × (Nat → Int32)) (gnv : Int32 × Int32 × Int32 × Int32 × Int32 × (Nat → Int32) × (Nat → Int32) × (Nat → Int32) × (Nat → Int32) × (Nat → Int32) × (Nat → Int32)) (gac : Int32 × (Nat → Int32) × (Nat → Int32)) (gla : (Nat → Int32)) (gne : (Nat → Int32)) (gsp : (Nat → Int32) × (Nat → Int32)) (grc : Int32 × (Nat → Int32)) (gim : Int32 × Int32 × Int32 × (Nat → Int32) × (Nat → Int32) × (Nat → Int32) × (Nat → Int32) × (Nat → Int32) × (Nat → Int32) × (Nat → Int32) × (Nat → Int32) × (Nat → Int32)) (x1 : Int32) (x2 : Int32) (x3 : Int32) (x4 : Int32) (x5 : Int32) (sz : Nat) (R0 : Int32 × (Int32 × Int32 × Int32 × (Nat → Int32) × (Nat → Int32) × (Nat → Int32) × (Nat → Int32) × (Nat → Int32) × (Nat → Int32) × (Nat → Int32) × (Nat → Int32) × (Nat → Int32)) × ((Nat → Int32))) (h : p_X13_saferThree gvm gla gne gsp x1 x2 x3 x4 x5 = some R0) : Met l yX13_saferThree wsX13_saferThree rm_X13_saferThree (va_Pc [.ref (a0 0), .int x1, .int x2, .int x3, .int x4, .int x5] (prC dC dI cy (w_X13_saferThree cy a0 gth gvm gtd gfl grd gnv gac gla gne gsp grc gim) sz)) (va_Qi (fun (r : Int32) (u : (Int32 × Int32 × Int32 × (Nat → Int32) × (Nat → Int32) × (Nat → Int32) × (Nat → Int32) × (Nat → Int32) × (Nat → Int32) × (Nat → Int32) × (Nat → Int32) × (Nat → Int32)) × ((Nat → Int32))) => r = R0.1 ∧ u = R0.2) (fun (u : (Int32 × Int32 × Int32 × (Nat → Int32) × (Nat → Int32) × (Nat → Int32) × (Nat → Int32) × (Nat → Int32) × (Nat → Int32) × (Nat → Int32) × (Nat → Int32) × (Nat → Int32)) × ((Nat → Int32))) t => poC dC dI cy (w_X13_saferThree cy a0 gth u.1 gtd gfl grd gnv gac gla u.2 gsp grc gim) t) (va_A (w_X13_saferThree cy a0 gth gvm gtd gfl grd gnv gac gla gne gsp grc gim) sz)) 0 0 (va_A (w_X13_saferThree cy a0 gth gvm gtd gfl grd gnv gac gla gne gsp grc gim) sz) := by
  refine Met.ofW (cc := cX13_saferThree) (maxL := 7) (ret := (some .boolean)) (by decide) rfl ?_
  intro p e s m aa below meth c s₁ B hml hv
  obtain ⟨haa, hsz, hP, hK, hD0⟩ := hv
  have hx := B.exec
  have hb := B.bytes
  have hr := B.returns
  have hts := atoms_spec (ws := wsX13_saferThree) B.pre
  have hown : s.vm.findClass RX13 = some m.cls := findClass_of_methodNamed B.named
  have hlocks := B.notSynchronized
  subst hsz
  have hD := hD0.self (sz := s.heap.size)
  obtain ⟨qq, hqq⟩ : ∃ qq, qq = (va_Qi (fun (r : Int32) (u : (Int32 × Int32 × Int32 × (Nat → Int32) × (Nat → Int32) × (Nat → Int32) × (Nat → Int32) × (Nat → Int32) × (Nat → Int32) × (Nat → Int32) × (Nat → Int32) × (Nat → Int32)) × ((Nat → Int32))) => r = R0.1 ∧ u = R0.2) (fun (u : (Int32 × Int32 × Int32 × (Nat → Int32) × (Nat → Int32) × (Nat → Int32) × (Nat → Int32) × (Nat → Int32) × (Nat → Int32) × (Nat → Int32) × (Nat → Int32) × (Nat → Int32)) × ((Nat → Int32))) t => poC dC dI cy (w_X13_saferThree cy a0 gth u.1 gtd gfl grd gnv gac gla u.2 gsp grc gim) t) (va_A (w_X13_saferThree cy a0 gth gvm gtd gfl grd gnv gac gla gne gsp grc gim) s.heap.size)) := ⟨_, rfl⟩
  rw [← hqq]
  generalize hAe : va_A (w_X13_saferThree cy a0 gth gvm gtd gfl grd gnv gac gla gne gsp grc gim) s.heap.size = A at hD hqq ⊢
  have hA : ∀ q : Nat, s.heap.size ≤ q → A q := fun q h => by rw [← hAe]; exact Or.inr h
  have hS : va_S A s.heap s.heap [] := va_S.rf
  have hl := lv_entry ([.ref (a0 0), .int x1, .int x2, .int x3, .int x4, .int x5]) (n := 7) (Nat.le_of_ble_eq_true rfl)
  have hE : entryFrame m aa 7 = F0 m 0 ((lg_sl ([.ref (a0 0), .int x1, .int x2, .int x3, .int x4, .int x5]) ++ List.replicate (7 - (lg_sl ([.ref (a0 0), .int x1, .int x2, .int x3, .int x4, .int x5])).length) Slot.unset).toArray) [] := by rw [haa]; exact lg_entry_eq m _ 7
  refine W.eq hE ?_
  generalize (lg_sl ([.ref (a0 0), .int x1, .int x2, .int x3, .int x4, .int x5]) ++ List.replicate (7 - (lg_sl ([.ref (a0 0), .int x1, .int x2, .int x3, .int x4, .int x5])).length) Slot.unset).toArray = ls at hl ⊢
  have hl : lv_has ls 7 [(0, .ref (a0 0)), (1, .int x1), (2, .int x2), (3, .int x3), (4, .int x4), (5, .int x5)] := hl
  change W p l e rm_X13_saferThree s m aa below meth c s.heap [] 0 0 (MQ below qq aa s 0 0 A) (F0 m 0 ls [])
  have hS0 := hS
  have lk0 := hts (.fieldLink RX13 28 "GoatDoorsModel" "to" "[I") (by decide +kernel)
  have lk1 := hts (.fieldLink RX13 92 "GoatDoorsModel" "wasTo" "[I") (by decide +kernel)
  have lk2 := hts (.fieldLink RX13 22 "GoatDoorsModel" "has" "[I") (by decide +kernel)
  have lk3 := hts (.fieldLink RX13 25 "GoatDoorsModel" "by" "[I") (by decide +kernel)
  have in_X13 : ∀ w ∈ wsX130, w ∈ wsX13_saferThree := by decide +kernel
  have c213 : ∀ (_u : Unit), ∀ (gvm : Int32 × Int32 × Int32 × (Nat → Int32) × (Nat → Int32) × (Nat → Int32) × (Nat → Int32) × (Nat → Int32) × (Nat → Int32) × (Nat → Int32) × (Nat → Int32) × (Nat → Int32)) (gne : (Nat → Int32)) (x1 : Int32) (x2 : Int32) (x3 : Int32) (t0 : Int32) (H : Heap) (locs : List Loc) (ls : Array Slot), p_X13_saferThree_213 gla gsp gvm gne x1 x2 x3 t0 = some R0 → va_P (dC, dI) vwCl (w_X13_saferThree cy a0 gth gvm gtd gfl grd gnv gac gla gne gsp grc gim) H → va_D A (w_X13_saferThree cy a0 gth gvm gtd gfl grd gnv gac gla gne gsp grc gim) → va_S A s.heap H locs → lv_has ls 7 [(0, .ref (a0 0)), (1, .int x1), (2, .int x2), (3, .int x3)] → W p l e rm_X13_saferThree s m aa below meth c H locs 0 0 (MQ below qq aa s 0 0 A) (F0 m 213 ls [.int t0]) := by
    intro _ gvm gne x1 x2 x3 t0 H locs ls h hP hD hS hl
    unfold p_X13_saferThree_213 at h
    refine lv_istore (lv' := [(6, .int t0), (0, .ref (a0 0)), (1, .int x1), (2, .int x2), (3, .int x3)]) hx hb dX13_saferThree_213 hl (by decide) rfl (fun ls hl => ?_)
    refine lv_aload_n hx hb dX13_saferThree_215 rfl (lv_at hl 1 rfl) ?_
    refine va_get (D := (dC, dI)) (ci := 11) (v := .ref (a0 7)) (C := RX13) (T := TX13) (N := 64) hx hb hts in_X13 hown hK hP 0 rfl rfl 10 (by decide) lk0 (fun _ h9 => h9) rfl dX13_saferThree_216 ?_
    refine lv_iload_n hx hb dX13_saferThree_219 rfl (lv_at hl 2 rfl) ?_
    refine lv_aload_n hx hb dX13_saferThree_220 rfl (lv_at hl 1 rfl) ?_
    refine va_get (D := (dC, dI)) (ci := 11) (v := .ref (a0 27)) (C := RX13) (T := TX13) (N := 64) hx hb hts in_X13 hown hK hP 0 rfl rfl 46 (by decide) lk1 (fun _ h9 => h9) rfl dX13_saferThree_221 ?_
    refine lv_iload_n hx hb dX13_saferThree_224 rfl (lv_at hl 2 rfl) ?_
    obtain ⟨hi1, h⟩ := ok_if h
    refine va_iald hx hb hK hP 13 1 rfl rfl (ix_in hi1) dX13_saferThree_225 ?_
    obtain ⟨hi2, h⟩ := ok_if h
    refine va_iast hx hb hK hP hD hS 7 1 rfl rfl (ix_in hi2) dX13_saferThree_226 (fun H locs hP hD hS => ?_)
    have hP : va_P (dC, dI) vwCl (w_X13_saferThree cy a0 gth ((gvm.1, gvm.2.1, gvm.2.2.1, gvm.2.2.2.1, gvm.2.2.2.2.1, gvm.2.2.2.2.2.1, gvm.2.2.2.2.2.2.1, gvm.2.2.2.2.2.2.2.1, gvm.2.2.2.2.2.2.2.2.1, (upd gvm.2.2.2.2.2.2.2.2.2.1 x1.toNatClampNeg (gsp.2 x1.toNatClampNeg)), gvm.2.2.2.2.2.2.2.2.2.2)) gtd gfl grd gnv gac gla gne gsp grc gim) H := hP
    have hD : va_D A (w_X13_saferThree cy a0 gth ((gvm.1, gvm.2.1, gvm.2.2.1, gvm.2.2.2.1, gvm.2.2.2.2.1, gvm.2.2.2.2.2.1, gvm.2.2.2.2.2.2.1, gvm.2.2.2.2.2.2.2.1, gvm.2.2.2.2.2.2.2.2.1, (upd gvm.2.2.2.2.2.2.2.2.2.1 x1.toNatClampNeg (gsp.2 x1.toNatClampNeg)), gvm.2.2.2.2.2.2.2.2.2.2)) gtd gfl grd gnv gac gla gne gsp grc gim) := hD
    refine lv_aload_n hx hb dX13_saferThree_227 rfl (lv_at hl 1 rfl) ?_
    refine va_get (D := (dC, dI)) (ci := 11) (v := .ref (a0 7)) (C := RX13) (T := TX13) (N := 64) hx hb hts in_X13 hown hK hP 0 rfl rfl 10 (by decide) lk0 (fun _ h9 => h9) rfl dX13_saferThree_228 ?_
    refine lv_iload_n hx hb dX13_saferThree_231 rfl (lv_at hl 3 rfl) ?_
    refine lv_aload_n hx hb dX13_saferThree_232 rfl (lv_at hl 1 rfl) ?_
    refine va_get (D := (dC, dI)) (ci := 11) (v := .ref (a0 27)) (C := RX13) (T := TX13) (N := 64) hx hb hts in_X13 hown hK hP 0 rfl rfl 46 (by decide) lk1 (fun _ h9 => h9) rfl dX13_saferThree_233 ?_
    refine lv_iload_n hx hb dX13_saferThree_236 rfl (lv_at hl 3 rfl) ?_
    obtain ⟨hi3, h⟩ := ok_if h
    refine va_iald hx hb hK hP 13 1 rfl rfl (ix_in hi3) dX13_saferThree_237 ?_
    obtain ⟨hi4, h⟩ := ok_if h
    refine va_iast hx hb hK hP hD hS 7 1 rfl rfl (ix_in hi4) dX13_saferThree_238 (fun H locs hP hD hS => ?_)
    have hP : va_P (dC, dI) vwCl (w_X13_saferThree cy a0 gth ((gvm.1, gvm.2.1, gvm.2.2.1, gvm.2.2.2.1, gvm.2.2.2.2.1, gvm.2.2.2.2.2.1, gvm.2.2.2.2.2.2.1, gvm.2.2.2.2.2.2.2.1, gvm.2.2.2.2.2.2.2.2.1, (upd (upd gvm.2.2.2.2.2.2.2.2.2.1 x1.toNatClampNeg (gsp.2 x1.toNatClampNeg)) x2.toNatClampNeg (gsp.2 x2.toNatClampNeg)), gvm.2.2.2.2.2.2.2.2.2.2)) gtd gfl grd gnv gac gla gne gsp grc gim) H := hP
    have hD : va_D A (w_X13_saferThree cy a0 gth ((gvm.1, gvm.2.1, gvm.2.2.1, gvm.2.2.2.1, gvm.2.2.2.2.1, gvm.2.2.2.2.2.1, gvm.2.2.2.2.2.2.1, gvm.2.2.2.2.2.2.2.1, gvm.2.2.2.2.2.2.2.2.1, (upd (upd gvm.2.2.2.2.2.2.2.2.2.1 x1.toNatClampNeg (gsp.2 x1.toNatClampNeg)) x2.toNatClampNeg (gsp.2 x2.toNatClampNeg)), gvm.2.2.2.2.2.2.2.2.2.2)) gtd gfl grd gnv gac gla gne gsp grc gim) := hD
    refine lv_aload_n hx hb dX13_saferThree_239 rfl (lv_at hl 1 rfl) ?_
    refine va_get (D := (dC, dI)) (ci := 11) (v := .ref (a0 7)) (C := RX13) (T := TX13) (N := 64) hx hb hts in_X13 hown hK hP 0 rfl rfl 10 (by decide) lk0 (fun _ h9 => h9) rfl dX13_saferThree_240 ?_
    refine lv_iload_n hx hb dX13_saferThree_243 rfl (lv_at hl 4 rfl) ?_
    refine lv_aload_n hx hb dX13_saferThree_244 rfl (lv_at hl 1 rfl) ?_
    refine va_get (D := (dC, dI)) (ci := 11) (v := .ref (a0 27)) (C := RX13) (T := TX13) (N := 64) hx hb hts in_X13 hown hK hP 0 rfl rfl 46 (by decide) lk1 (fun _ h9 => h9) rfl dX13_saferThree_245 ?_
    refine lv_iload_n hx hb dX13_saferThree_248 rfl (lv_at hl 4 rfl) ?_
    obtain ⟨hi5, h⟩ := ok_if h
    refine va_iald hx hb hK hP 13 1 rfl rfl (ix_in hi5) dX13_saferThree_249 ?_
    obtain ⟨hi6, h⟩ := ok_if h
    refine va_iast hx hb hK hP hD hS 7 1 rfl rfl (ix_in hi6) dX13_saferThree_250 (fun H locs hP hD hS => ?_)
    have hP : va_P (dC, dI) vwCl (w_X13_saferThree cy a0 gth ((gvm.1, gvm.2.1, gvm.2.2.1, gvm.2.2.2.1, gvm.2.2.2.2.1, gvm.2.2.2.2.2.1, gvm.2.2.2.2.2.2.1, gvm.2.2.2.2.2.2.2.1, gvm.2.2.2.2.2.2.2.2.1, (upd (upd (upd gvm.2.2.2.2.2.2.2.2.2.1 x1.toNatClampNeg (gsp.2 x1.toNatClampNeg)) x2.toNatClampNeg (gsp.2 x2.toNatClampNeg)) x3.toNatClampNeg (gsp.2 x3.toNatClampNeg)), gvm.2.2.2.2.2.2.2.2.2.2)) gtd gfl grd gnv gac gla gne gsp grc gim) H := hP
    have hD : va_D A (w_X13_saferThree cy a0 gth ((gvm.1, gvm.2.1, gvm.2.2.1, gvm.2.2.2.1, gvm.2.2.2.2.1, gvm.2.2.2.2.2.1, gvm.2.2.2.2.2.2.1, gvm.2.2.2.2.2.2.2.1, gvm.2.2.2.2.2.2.2.2.1, (upd (upd (upd gvm.2.2.2.2.2.2.2.2.2.1 x1.toNatClampNeg (gsp.2 x1.toNatClampNeg)) x2.toNatClampNeg (gsp.2 x2.toNatClampNeg)) x3.toNatClampNeg (gsp.2 x3.toNatClampNeg)), gvm.2.2.2.2.2.2.2.2.2.2)) gtd gfl grd gnv gac gla gne gsp grc gim) := hD
    refine lv_iload hx hb dX13_saferThree_251 (lv_at hl 0 rfl) ?_
    obtain ⟨hz7, h⟩ := ok_if h
    exact W.zret (v := t0) (ty := .boolean) hx hb hr (isZ_nar hz7) (fun t ht hW => by rw [hqq]; have hh := Option.some.inj h; exact ⟨⟨t0, (((gvm.1, gvm.2.1, gvm.2.2.1, gvm.2.2.2.1, gvm.2.2.2.2.1, gvm.2.2.2.2.2.1, gvm.2.2.2.2.2.2.1, gvm.2.2.2.2.2.2.2.1, gvm.2.2.2.2.2.2.2.2.1, (upd (upd (upd gvm.2.2.2.2.2.2.2.2.2.1 x1.toNatClampNeg (gsp.2 x1.toNatClampNeg)) x2.toNatClampNeg (gsp.2 x2.toNatClampNeg)) x3.toNatClampNeg (gsp.2 x3.toNatClampNeg)), gvm.2.2.2.2.2.2.2.2.2.2), gne)), rfl, ⟨fst_of hh, snd_of hh⟩, by rw [ht]; exact hP, va_K.moved hW.alike hK⟩, hS.F ht⟩) hS.2.2 dX13_saferThree_253
  have c212 : ∀ (_u : Unit), ∀ (gvm : Int32 × Int32 × Int32 × (Nat → Int32) × (Nat → Int32) × (Nat → Int32) × (Nat → Int32) × (Nat → Int32) × (Nat → Int32) × (Nat → Int32) × (Nat → Int32) × (Nat → Int32)) (gne : (Nat → Int32)) (x1 : Int32) (x2 : Int32) (x3 : Int32) (H : Heap) (locs : List Loc) (ls : Array Slot), p_X13_saferThree_212 gla gsp gvm gne x1 x2 x3 = some R0 → va_P (dC, dI) vwCl (w_X13_saferThree cy a0 gth gvm gtd gfl grd gnv gac gla gne gsp grc gim) H → va_D A (w_X13_saferThree cy a0 gth gvm gtd gfl grd gnv gac gla gne gsp grc gim) → va_S A s.heap H locs → lv_has ls 7 [(0, .ref (a0 0)), (1, .int x1), (2, .int x2), (3, .int x3)] → W p l e rm_X13_saferThree s m aa below meth c H locs 0 0 (MQ below qq aa s 0 0 A) (F0 m 212 ls []) := by
    intro _ gvm gne x1 x2 x3 H locs ls h hP hD hS hl
    unfold p_X13_saferThree_212 at h
    refine lv_iconst (v := (0 : Int32)) hx hb dX13_saferThree_212 (by decide) ?_
    exact c213 () gvm gne x1 x2 x3 (0 : Int32) H locs ls h hP hD hS (lv_sub hl [0, 1, 2, 3] rfl)
  obtain ⟨H, hH⟩ : ∃ H : Heap, H = s.heap := ⟨_, rfl⟩
  obtain ⟨locs, hlocs⟩ : ∃ locs : List Loc, locs = [] := ⟨_, rfl⟩
  have hS : va_S A s.heap H locs := by rw [hH, hlocs]; exact hS
  rw [← hH] at hP
  suffices hg : W p l e rm_X13_saferThree s m aa below meth c H locs 0 0 (MQ below qq aa s 0 0 A) (F0 m 0 ls []) by subst hH; subst hlocs; exact hg
  unfold p_X13_saferThree at h
  refine lv_aload_n hx hb dX13_saferThree_0 rfl (lv_at hl 0 rfl) ?_
  refine va_get (D := (dC, dI)) (ci := 11) (v := .ref (a0 5)) (C := RX13) (T := TX13) (N := 64) hx hb hts in_X13 hown hK hP 0 rfl rfl 8 (by decide) lk2 (fun _ h9 => h9) rfl dX13_saferThree_1 ?_
  refine lv_iload_n hx hb dX13_saferThree_4 rfl (lv_at hl 1 rfl) ?_
  obtain ⟨hi1, h⟩ := ok_if h
  refine va_iald hx hb hK hP 5 1 rfl rfl (ix_in hi1) dX13_saferThree_5 ?_
  refine lv_if_eq (tgt := 72) hx hb dX13_saferThree_6 (by decide) (fun c2 => ?_) (fun c2 => ?_)
  · rw [if_pos c2] at h
    refine lv_iconst (v := (0 : Int32)) hx hb dX13_saferThree_72 (by decide) ?_
    exact W.zret (v := (0 : Int32)) (ty := .boolean) hx hb hr rfl (fun t ht hW => by rw [hqq]; have hh := Option.some.inj h; exact ⟨⟨(0 : Int32), ((gvm, gne)), rfl, ⟨fst_of hh, snd_of hh⟩, by rw [ht]; exact hP, va_K.moved hW.alike hK⟩, hS.F ht⟩) hS.2.2 dX13_saferThree_73
  · rw [if_neg c2] at h
    refine lv_aload_n hx hb dX13_saferThree_9 rfl (lv_at hl 0 rfl) ?_
    refine va_get (D := (dC, dI)) (ci := 11) (v := .ref (a0 5)) (C := RX13) (T := TX13) (N := 64) hx hb hts in_X13 hown hK hP 0 rfl rfl 8 (by decide) lk2 (fun _ h9 => h9) rfl dX13_saferThree_10 ?_
    refine lv_iload_n hx hb dX13_saferThree_13 rfl (lv_at hl 2 rfl) ?_
    obtain ⟨hi3, h⟩ := ok_if h
    refine va_iald hx hb hK hP 5 1 rfl rfl (ix_in hi3) dX13_saferThree_14 ?_
    refine lv_if_eq (tgt := 72) hx hb dX13_saferThree_15 (by decide) (fun c4 => ?_) (fun c4 => ?_)
    · rw [if_pos c4] at h
      refine lv_iconst (v := (0 : Int32)) hx hb dX13_saferThree_72 (by decide) ?_
      exact W.zret (v := (0 : Int32)) (ty := .boolean) hx hb hr rfl (fun t ht hW => by rw [hqq]; have hh := Option.some.inj h; exact ⟨⟨(0 : Int32), ((gvm, gne)), rfl, ⟨fst_of hh, snd_of hh⟩, by rw [ht]; exact hP, va_K.moved hW.alike hK⟩, hS.F ht⟩) hS.2.2 dX13_saferThree_73
    · rw [if_neg c4] at h
      refine lv_aload_n hx hb dX13_saferThree_18 rfl (lv_at hl 0 rfl) ?_
      refine va_get (D := (dC, dI)) (ci := 11) (v := .ref (a0 5)) (C := RX13) (T := TX13) (N := 64) hx hb hts in_X13 hown hK hP 0 rfl rfl 8 (by decide) lk2 (fun _ h9 => h9) rfl dX13_saferThree_19 ?_
      refine lv_iload_n hx hb dX13_saferThree_22 rfl (lv_at hl 3 rfl) ?_
      obtain ⟨hi5, h⟩ := ok_if h
      refine va_iald hx hb hK hP 5 1 rfl rfl (ix_in hi5) dX13_saferThree_23 ?_
      refine lv_if_eq (tgt := 72) hx hb dX13_saferThree_24 (by decide) (fun c6 => ?_) (fun c6 => ?_)
      · rw [if_pos c6] at h
        refine lv_iconst (v := (0 : Int32)) hx hb dX13_saferThree_72 (by decide) ?_
        exact W.zret (v := (0 : Int32)) (ty := .boolean) hx hb hr rfl (fun t ht hW => by rw [hqq]; have hh := Option.some.inj h; exact ⟨⟨(0 : Int32), ((gvm, gne)), rfl, ⟨fst_of hh, snd_of hh⟩, by rw [ht]; exact hP, va_K.moved hW.alike hK⟩, hS.F ht⟩) hS.2.2 dX13_saferThree_73
      · rw [if_neg c6] at h
        refine lv_aload_n hx hb dX13_saferThree_27 rfl (lv_at hl 0 rfl) ?_
        refine va_get (D := (dC, dI)) (ci := 11) (v := .ref (a0 7)) (C := RX13) (T := TX13) (N := 64) hx hb hts in_X13 hown hK hP 0 rfl rfl 10 (by decide) lk0 (fun _ h9 => h9) rfl dX13_saferThree_28 ?_
        refine lv_iload_n hx hb dX13_saferThree_31 rfl (lv_at hl 1 rfl) ?_
        obtain ⟨hi7, h⟩ := ok_if h
        refine va_iald hx hb hK hP 7 1 rfl rfl (ix_in hi7) dX13_saferThree_32 ?_
        refine lv_aload_n hx hb dX13_saferThree_33 rfl (lv_at hl 0 rfl) ?_
        refine va_get (D := (dC, dI)) (ci := 11) (v := .ref (a0 7)) (C := RX13) (T := TX13) (N := 64) hx hb hts in_X13 hown hK hP 0 rfl rfl 10 (by decide) lk0 (fun _ h9 => h9) rfl dX13_saferThree_34 ?_
        refine lv_iload_n hx hb dX13_saferThree_37 rfl (lv_at hl 2 rfl) ?_
        obtain ⟨hi8, h⟩ := ok_if h
        refine va_iald hx hb hK hP 7 1 rfl rfl (ix_in hi8) dX13_saferThree_38 ?_
        refine lv_icmp_eq (tgt := 72) hx hb dX13_saferThree_39 (by decide) (fun c9 => ?_) (fun c9 => ?_)
        · rw [if_pos c9] at h
          refine lv_iconst (v := (0 : Int32)) hx hb dX13_saferThree_72 (by decide) ?_
          exact W.zret (v := (0 : Int32)) (ty := .boolean) hx hb hr rfl (fun t ht hW => by rw [hqq]; have hh := Option.some.inj h; exact ⟨⟨(0 : Int32), ((gvm, gne)), rfl, ⟨fst_of hh, snd_of hh⟩, by rw [ht]; exact hP, va_K.moved hW.alike hK⟩, hS.F ht⟩) hS.2.2 dX13_saferThree_73
        · rw [if_neg c9] at h
          refine lv_aload_n hx hb dX13_saferThree_42 rfl (lv_at hl 0 rfl) ?_
          refine va_get (D := (dC, dI)) (ci := 11) (v := .ref (a0 7)) (C := RX13) (T := TX13) (N := 64) hx hb hts in_X13 hown hK hP 0 rfl rfl 10 (by decide) lk0 (fun _ h9 => h9) rfl dX13_saferThree_43 ?_
          refine lv_iload_n hx hb dX13_saferThree_46 rfl (lv_at hl 2 rfl) ?_
          obtain ⟨hi10, h⟩ := ok_if h
          refine va_iald hx hb hK hP 7 1 rfl rfl (ix_in hi10) dX13_saferThree_47 ?_
          refine lv_aload_n hx hb dX13_saferThree_48 rfl (lv_at hl 0 rfl) ?_
          refine va_get (D := (dC, dI)) (ci := 11) (v := .ref (a0 7)) (C := RX13) (T := TX13) (N := 64) hx hb hts in_X13 hown hK hP 0 rfl rfl 10 (by decide) lk0 (fun _ h9 => h9) rfl dX13_saferThree_49 ?_
          refine lv_iload_n hx hb dX13_saferThree_52 rfl (lv_at hl 3 rfl) ?_
          obtain ⟨hi11, h⟩ := ok_if h
          refine va_iald hx hb hK hP 7 1 rfl rfl (ix_in hi11) dX13_saferThree_53 ?_
          refine lv_icmp_eq (tgt := 72) hx hb dX13_saferThree_54 (by decide) (fun c12 => ?_) (fun c12 => ?_)
          · rw [if_pos c12] at h
            refine lv_iconst (v := (0 : Int32)) hx hb dX13_saferThree_72 (by decide) ?_
            exact W.zret (v := (0 : Int32)) (ty := .boolean) hx hb hr rfl (fun t ht hW => by rw [hqq]; have hh := Option.some.inj h; exact ⟨⟨(0 : Int32), ((gvm, gne)), rfl, ⟨fst_of hh, snd_of hh⟩, by rw [ht]; exact hP, va_K.moved hW.alike hK⟩, hS.F ht⟩) hS.2.2 dX13_saferThree_73
          · rw [if_neg c12] at h
            refine lv_aload_n hx hb dX13_saferThree_57 rfl (lv_at hl 0 rfl) ?_
            refine va_get (D := (dC, dI)) (ci := 11) (v := .ref (a0 7)) (C := RX13) (T := TX13) (N := 64) hx hb hts in_X13 hown hK hP 0 rfl rfl 10 (by decide) lk0 (fun _ h9 => h9) rfl dX13_saferThree_58 ?_
            refine lv_iload_n hx hb dX13_saferThree_61 rfl (lv_at hl 1 rfl) ?_
            obtain ⟨hi13, h⟩ := ok_if h
            refine va_iald hx hb hK hP 7 1 rfl rfl (ix_in hi13) dX13_saferThree_62 ?_
            refine lv_aload_n hx hb dX13_saferThree_63 rfl (lv_at hl 0 rfl) ?_
            refine va_get (D := (dC, dI)) (ci := 11) (v := .ref (a0 7)) (C := RX13) (T := TX13) (N := 64) hx hb hts in_X13 hown hK hP 0 rfl rfl 10 (by decide) lk0 (fun _ h9 => h9) rfl dX13_saferThree_64 ?_
            refine lv_iload_n hx hb dX13_saferThree_67 rfl (lv_at hl 3 rfl) ?_
            obtain ⟨hi14, h⟩ := ok_if h
            refine va_iald hx hb hK hP 7 1 rfl rfl (ix_in hi14) dX13_saferThree_68 ?_
            refine lv_icmp_ne (tgt := 74) hx hb dX13_saferThree_69 (by decide) (fun c15 => ?_) (fun c15 => ?_)
            · rw [if_neg c15] at h
              refine lv_aload_n hx hb dX13_saferThree_74 rfl (lv_at hl 0 rfl) ?_
              refine va_get (D := (dC, dI)) (ci := 11) (v := .ref (a0 6)) (C := RX13) (T := TX13) (N := 64) hx hb hts in_X13 hown hK hP 0 rfl rfl 9 (by decide) lk3 (fun _ h9 => h9) rfl dX13_saferThree_75 ?_
              refine lv_iload_n hx hb dX13_saferThree_78 rfl (lv_at hl 1 rfl) ?_
              obtain ⟨hi16, h⟩ := ok_if h
              refine va_iald hx hb hK hP 6 1 rfl rfl (ix_in hi16) dX13_saferThree_79 ?_
              refine lv_aload_n hx hb dX13_saferThree_80 rfl (lv_at hl 0 rfl) ?_
              refine va_get (D := (dC, dI)) (ci := 11) (v := .ref (a0 7)) (C := RX13) (T := TX13) (N := 64) hx hb hts in_X13 hown hK hP 0 rfl rfl 10 (by decide) lk0 (fun _ h9 => h9) rfl dX13_saferThree_81 ?_
              refine lv_iload_n hx hb dX13_saferThree_84 rfl (lv_at hl 2 rfl) ?_
              obtain ⟨hi17, h⟩ := ok_if h
              refine va_iald hx hb hK hP 7 1 rfl rfl (ix_in hi17) dX13_saferThree_85 ?_
              refine lv_icmp_eq (tgt := 119) hx hb dX13_saferThree_86 (by decide) (fun c18 => ?_) (fun c18 => ?_)
              · rw [if_pos c18] at h
                refine lv_iconst (v := (0 : Int32)) hx hb dX13_saferThree_119 (by decide) ?_
                exact W.zret (v := (0 : Int32)) (ty := .boolean) hx hb hr rfl (fun t ht hW => by rw [hqq]; have hh := Option.some.inj h; exact ⟨⟨(0 : Int32), ((gvm, gne)), rfl, ⟨fst_of hh, snd_of hh⟩, by rw [ht]; exact hP, va_K.moved hW.alike hK⟩, hS.F ht⟩) hS.2.2 dX13_saferThree_120
              · rw [if_neg c18] at h
                refine lv_aload_n hx hb dX13_saferThree_89 rfl (lv_at hl 0 rfl) ?_
                refine va_get (D := (dC, dI)) (ci := 11) (v := .ref (a0 6)) (C := RX13) (T := TX13) (N := 64) hx hb hts in_X13 hown hK hP 0 rfl rfl 9 (by decide) lk3 (fun _ h9 => h9) rfl dX13_saferThree_90 ?_
                refine lv_iload_n hx hb dX13_saferThree_93 rfl (lv_at hl 2 rfl) ?_
                obtain ⟨hi19, h⟩ := ok_if h
                refine va_iald hx hb hK hP 6 1 rfl rfl (ix_in hi19) dX13_saferThree_94 ?_
                refine lv_aload_n hx hb dX13_saferThree_95 rfl (lv_at hl 0 rfl) ?_
                refine va_get (D := (dC, dI)) (ci := 11) (v := .ref (a0 7)) (C := RX13) (T := TX13) (N := 64) hx hb hts in_X13 hown hK hP 0 rfl rfl 10 (by decide) lk0 (fun _ h9 => h9) rfl dX13_saferThree_96 ?_
                refine lv_iload_n hx hb dX13_saferThree_99 rfl (lv_at hl 3 rfl) ?_
                obtain ⟨hi20, h⟩ := ok_if h
                refine va_iald hx hb hK hP 7 1 rfl rfl (ix_in hi20) dX13_saferThree_100 ?_
                refine lv_icmp_eq (tgt := 119) hx hb dX13_saferThree_101 (by decide) (fun c21 => ?_) (fun c21 => ?_)
                · rw [if_pos c21] at h
                  refine lv_iconst (v := (0 : Int32)) hx hb dX13_saferThree_119 (by decide) ?_
                  exact W.zret (v := (0 : Int32)) (ty := .boolean) hx hb hr rfl (fun t ht hW => by rw [hqq]; have hh := Option.some.inj h; exact ⟨⟨(0 : Int32), ((gvm, gne)), rfl, ⟨fst_of hh, snd_of hh⟩, by rw [ht]; exact hP, va_K.moved hW.alike hK⟩, hS.F ht⟩) hS.2.2 dX13_saferThree_120
                · rw [if_neg c21] at h
                  refine lv_aload_n hx hb dX13_saferThree_104 rfl (lv_at hl 0 rfl) ?_
                  refine va_get (D := (dC, dI)) (ci := 11) (v := .ref (a0 6)) (C := RX13) (T := TX13) (N := 64) hx hb hts in_X13 hown hK hP 0 rfl rfl 9 (by decide) lk3 (fun _ h9 => h9) rfl dX13_saferThree_105 ?_
                  refine lv_iload_n hx hb dX13_saferThree_108 rfl (lv_at hl 3 rfl) ?_
                  obtain ⟨hi22, h⟩ := ok_if h
                  refine va_iald hx hb hK hP 6 1 rfl rfl (ix_in hi22) dX13_saferThree_109 ?_
                  refine lv_aload_n hx hb dX13_saferThree_110 rfl (lv_at hl 0 rfl) ?_
                  refine va_get (D := (dC, dI)) (ci := 11) (v := .ref (a0 7)) (C := RX13) (T := TX13) (N := 64) hx hb hts in_X13 hown hK hP 0 rfl rfl 10 (by decide) lk0 (fun _ h9 => h9) rfl dX13_saferThree_111 ?_
                  refine lv_iload_n hx hb dX13_saferThree_114 rfl (lv_at hl 1 rfl) ?_
                  obtain ⟨hi23, h⟩ := ok_if h
                  refine va_iald hx hb hK hP 7 1 rfl rfl (ix_in hi23) dX13_saferThree_115 ?_
                  refine lv_icmp_ne (tgt := 121) hx hb dX13_saferThree_116 (by decide) (fun c24 => ?_) (fun c24 => ?_)
                  · rw [if_neg c24] at h
                    refine lv_aload_n hx hb dX13_saferThree_121 rfl (lv_at hl 0 rfl) ?_
                    refine va_get (D := (dC, dI)) (ci := 11) (v := .ref (a0 7)) (C := RX13) (T := TX13) (N := 64) hx hb hts in_X13 hown hK hP 0 rfl rfl 10 (by decide) lk0 (fun _ h9 => h9) rfl dX13_saferThree_122 ?_
                    refine lv_iload_n hx hb dX13_saferThree_125 rfl (lv_at hl 1 rfl) ?_
                    refine lv_aload_n hx hb dX13_saferThree_126 rfl (lv_at hl 0 rfl) ?_
                    refine va_get (D := (dC, dI)) (ci := 11) (v := .ref (a0 27)) (C := RX13) (T := TX13) (N := 64) hx hb hts in_X13 hown hK hP 0 rfl rfl 46 (by decide) lk1 (fun _ h9 => h9) rfl dX13_saferThree_127 ?_
                    refine lv_iload_n hx hb dX13_saferThree_130 rfl (lv_at hl 2 rfl) ?_
                    obtain ⟨hi25, h⟩ := ok_if h
                    refine va_iald hx hb hK hP 13 1 rfl rfl (ix_in hi25) dX13_saferThree_131 ?_
                    obtain ⟨hi26, h⟩ := ok_if h
                    refine va_iast hx hb hK hP hD hS 7 1 rfl rfl (ix_in hi26) dX13_saferThree_132 (fun H locs hP hD hS => ?_)
                    have hP : va_P (dC, dI) vwCl (w_X13_saferThree cy a0 gth ((gvm.1, gvm.2.1, gvm.2.2.1, gvm.2.2.2.1, gvm.2.2.2.2.1, gvm.2.2.2.2.2.1, gvm.2.2.2.2.2.2.1, gvm.2.2.2.2.2.2.2.1, gvm.2.2.2.2.2.2.2.2.1, (upd gvm.2.2.2.2.2.2.2.2.2.1 x1.toNatClampNeg (gsp.2 x2.toNatClampNeg)), gvm.2.2.2.2.2.2.2.2.2.2)) gtd gfl grd gnv gac gla gne gsp grc gim) H := hP
                    have hD : va_D A (w_X13_saferThree cy a0 gth ((gvm.1, gvm.2.1, gvm.2.2.1, gvm.2.2.2.1, gvm.2.2.2.2.1, gvm.2.2.2.2.2.1, gvm.2.2.2.2.2.2.1, gvm.2.2.2.2.2.2.2.1, gvm.2.2.2.2.2.2.2.2.1, (upd gvm.2.2.2.2.2.2.2.2.2.1 x1.toNatClampNeg (gsp.2 x2.toNatClampNeg)), gvm.2.2.2.2.2.2.2.2.2.2)) gtd gfl grd gnv gac gla gne gsp grc gim) := hD
                    refine lv_aload_n hx hb dX13_saferThree_133 rfl (lv_at hl 0 rfl) ?_
                    refine va_get (D := (dC, dI)) (ci := 11) (v := .ref (a0 7)) (C := RX13) (T := TX13) (N := 64) hx hb hts in_X13 hown hK hP 0 rfl rfl 10 (by decide) lk0 (fun _ h9 => h9) rfl dX13_saferThree_134 ?_
                    refine lv_iload_n hx hb dX13_saferThree_137 rfl (lv_at hl 2 rfl) ?_
                    refine lv_aload_n hx hb dX13_saferThree_138 rfl (lv_at hl 0 rfl) ?_
                    refine va_get (D := (dC, dI)) (ci := 11) (v := .ref (a0 27)) (C := RX13) (T := TX13) (N := 64) hx hb hts in_X13 hown hK hP 0 rfl rfl 46 (by decide) lk1 (fun _ h9 => h9) rfl dX13_saferThree_139 ?_
                    refine lv_iload_n hx hb dX13_saferThree_142 rfl (lv_at hl 3 rfl) ?_
                    obtain ⟨hi27, h⟩ := ok_if h
                    refine va_iald hx hb hK hP 13 1 rfl rfl (ix_in hi27) dX13_saferThree_143 ?_
                    obtain ⟨hi28, h⟩ := ok_if h
                    refine va_iast hx hb hK hP hD hS 7 1 rfl rfl (ix_in hi28) dX13_saferThree_144 (fun H locs hP hD hS => ?_)
                    have hP : va_P (dC, dI) vwCl (w_X13_saferThree cy a0 gth ((gvm.1, gvm.2.1, gvm.2.2.1, gvm.2.2.2.1, gvm.2.2.2.2.1, gvm.2.2.2.2.2.1, gvm.2.2.2.2.2.2.1, gvm.2.2.2.2.2.2.2.1, gvm.2.2.2.2.2.2.2.2.1, (upd (upd gvm.2.2.2.2.2.2.2.2.2.1 x1.toNatClampNeg (gsp.2 x2.toNatClampNeg)) x2.toNatClampNeg (gsp.2 x3.toNatClampNeg)), gvm.2.2.2.2.2.2.2.2.2.2)) gtd gfl grd gnv gac gla gne gsp grc gim) H := hP
                    have hD : va_D A (w_X13_saferThree cy a0 gth ((gvm.1, gvm.2.1, gvm.2.2.1, gvm.2.2.2.1, gvm.2.2.2.2.1, gvm.2.2.2.2.2.1, gvm.2.2.2.2.2.2.1, gvm.2.2.2.2.2.2.2.1, gvm.2.2.2.2.2.2.2.2.1, (upd (upd gvm.2.2.2.2.2.2.2.2.2.1 x1.toNatClampNeg (gsp.2 x2.toNatClampNeg)) x2.toNatClampNeg (gsp.2 x3.toNatClampNeg)), gvm.2.2.2.2.2.2.2.2.2.2)) gtd gfl grd gnv gac gla gne gsp grc gim) := hD
                    refine lv_aload_n hx hb dX13_saferThree_145 rfl (lv_at hl 0 rfl) ?_
                    refine va_get (D := (dC, dI)) (ci := 11) (v := .ref (a0 7)) (C := RX13) (T := TX13) (N := 64) hx hb hts in_X13 hown hK hP 0 rfl rfl 10 (by decide) lk0 (fun _ h9 => h9) rfl dX13_saferThree_146 ?_
                    refine lv_iload_n hx hb dX13_saferThree_149 rfl (lv_at hl 3 rfl) ?_
                    refine lv_aload_n hx hb dX13_saferThree_150 rfl (lv_at hl 0 rfl) ?_
                    refine va_get (D := (dC, dI)) (ci := 11) (v := .ref (a0 27)) (C := RX13) (T := TX13) (N := 64) hx hb hts in_X13 hown hK hP 0 rfl rfl 46 (by decide) lk1 (fun _ h9 => h9) rfl dX13_saferThree_151 ?_
                    refine lv_iload_n hx hb dX13_saferThree_154 rfl (lv_at hl 1 rfl) ?_
                    obtain ⟨hi29, h⟩ := ok_if h
                    refine va_iald hx hb hK hP 13 1 rfl rfl (ix_in hi29) dX13_saferThree_155 ?_
                    obtain ⟨hi30, h⟩ := ok_if h
                    refine va_iast hx hb hK hP hD hS 7 1 rfl rfl (ix_in hi30) dX13_saferThree_156 (fun H locs hP hD hS => ?_)
                    have hP : va_P (dC, dI) vwCl (w_X13_saferThree cy a0 gth ((gvm.1, gvm.2.1, gvm.2.2.1, gvm.2.2.2.1, gvm.2.2.2.2.1, gvm.2.2.2.2.2.1, gvm.2.2.2.2.2.2.1, gvm.2.2.2.2.2.2.2.1, gvm.2.2.2.2.2.2.2.2.1, (upd (upd (upd gvm.2.2.2.2.2.2.2.2.2.1 x1.toNatClampNeg (gsp.2 x2.toNatClampNeg)) x2.toNatClampNeg (gsp.2 x3.toNatClampNeg)) x3.toNatClampNeg (gsp.2 x1.toNatClampNeg)), gvm.2.2.2.2.2.2.2.2.2.2)) gtd gfl grd gnv gac gla gne gsp grc gim) H := hP
                    have hD : va_D A (w_X13_saferThree cy a0 gth ((gvm.1, gvm.2.1, gvm.2.2.1, gvm.2.2.2.1, gvm.2.2.2.2.1, gvm.2.2.2.2.2.1, gvm.2.2.2.2.2.2.1, gvm.2.2.2.2.2.2.2.1, gvm.2.2.2.2.2.2.2.2.1, (upd (upd (upd gvm.2.2.2.2.2.2.2.2.2.1 x1.toNatClampNeg (gsp.2 x2.toNatClampNeg)) x2.toNatClampNeg (gsp.2 x3.toNatClampNeg)) x3.toNatClampNeg (gsp.2 x1.toNatClampNeg)), gvm.2.2.2.2.2.2.2.2.2.2)) gtd gfl grd gnv gac gla gne gsp grc gim) := hD
                    refine lv_aload_n hx hb dX13_saferThree_157 rfl (lv_at hl 0 rfl) ?_
                    refine lv_aload_n hx hb dX13_saferThree_158 rfl (lv_at hl 0 rfl) ?_
                    refine va_get (D := (dC, dI)) (ci := 11) (v := .ref (a0 27)) (C := RX13) (T := TX13) (N := 64) hx hb hts in_X13 hown hK hP 0 rfl rfl 46 (by decide) lk1 (fun _ h9 => h9) rfl dX13_saferThree_159 ?_
                    refine lv_iload_n hx hb dX13_saferThree_162 rfl (lv_at hl 1 rfl) ?_
                    obtain ⟨hi31, h⟩ := ok_if h
                    refine va_iald hx hb hK hP 13 1 rfl rfl (ix_in hi31) dX13_saferThree_163 ?_
                    refine lv_iload hx hb dX13_saferThree_164 (lv_at hl 4 rfl) ?_
                    refine lv_iload hx hb dX13_saferThree_166 (lv_at hl 5 rfl) ?_
                    obtain ⟨v32, hv33, h⟩ := ok_bind h
                    refine cl_vi (w2 := fun (u : ((Nat → Int32))) => w_X13_saferThree cy a0 gth ((gvm.1, gvm.2.1, gvm.2.2.1, gvm.2.2.2.1, gvm.2.2.2.2.1, gvm.2.2.2.2.2.1, gvm.2.2.2.2.2.2.1, gvm.2.2.2.2.2.2.2.1, gvm.2.2.2.2.2.2.2.2.1, (upd (upd (upd gvm.2.2.2.2.2.2.2.2.2.1 x1.toNatClampNeg (gsp.2 x2.toNatClampNeg)) x2.toNatClampNeg (gsp.2 x3.toNatClampNeg)) x3.toNatClampNeg (gsp.2 x1.toNatClampNeg)), gvm.2.2.2.2.2.2.2.2.2.2)) gtd gfl grd gnv gac gla u gsp grc gim) (As := [.int (gsp.2 x1.toNatClampNeg), .int x4, .int x5]) (rest := []) ⟨hx, hb, hml, hown, hts⟩ (c_X13_isLess l dC dI cy a0 gth (gvm.1, gvm.2.1, gvm.2.2.1, gvm.2.2.2.1, gvm.2.2.2.2.1, gvm.2.2.2.2.2.1, gvm.2.2.2.2.2.2.1, gvm.2.2.2.2.2.2.2.1, gvm.2.2.2.2.2.2.2.2.1, (upd (upd (upd gvm.2.2.2.2.2.2.2.2.2.1 x1.toNatClampNeg (gsp.2 x2.toNatClampNeg)) x2.toNatClampNeg (gsp.2 x3.toNatClampNeg)) x3.toNatClampNeg (gsp.2 x1.toNatClampNeg)), gvm.2.2.2.2.2.2.2.2.2.2) gtd gfl grd gnv gac gla gne gsp grc gim (gsp.2 x1.toNatClampNeg) x4 x5 H.size v32 hv33) (cwV 3 hts gX13_saferThree_X13_isLess rfl rfl rfl (by decide +kernel) ⟨Nat.le_of_ble_eq_true rfl, Nat.le_of_ble_eq_true rfl⟩) (va_recv hK hP (ci := 11) (q0 := 0) rfl rfl) cl_blind (cl_pre hK hP hD [0, 1, 2, 3, 4, 5, 6, 7, 8, 9, 10, 11, 12, 13] (by decide) rfl) hP hD hS hA [0, 1, 2, 3, 4, 5, 6, 7, 8, 9, 10, 11, 12, 13] rfl rfl hl.1 rfl (lv_room (Nat.le_of_ble_eq_true rfl)) dX13_saferThree_168 ⟨Nat.le_of_ble_eq_true rfl, Nat.le_of_ble_eq_true rfl⟩ ⟨rfl, rfl⟩ (fun _ => updM [0, 1, 2, 3, 4, 5, 6, 7, 8, 9, 10, 11, 12, 13] [] [] 14 rfl rfl rfl rfl rfl (by decide +kernel) (by decide +kernel) rfl) (fun r u H locs hw hP hD hS => ?_)
                    obtain ⟨rfl, rfl⟩ := hw
                    have hP : va_P (dC, dI) vwCl (w_X13_saferThree cy a0 gth ((gvm.1, gvm.2.1, gvm.2.2.1, gvm.2.2.2.1, gvm.2.2.2.2.1, gvm.2.2.2.2.2.1, gvm.2.2.2.2.2.2.1, gvm.2.2.2.2.2.2.2.1, gvm.2.2.2.2.2.2.2.2.1, (upd (upd (upd gvm.2.2.2.2.2.2.2.2.2.1 x1.toNatClampNeg (gsp.2 x2.toNatClampNeg)) x2.toNatClampNeg (gsp.2 x3.toNatClampNeg)) x3.toNatClampNeg (gsp.2 x1.toNatClampNeg)), gvm.2.2.2.2.2.2.2.2.2.2)) gtd gfl grd gnv gac gla v32.2 gsp grc gim) H := hP
                    have hD : va_D A (w_X13_saferThree cy a0 gth ((gvm.1, gvm.2.1, gvm.2.2.1, gvm.2.2.2.1, gvm.2.2.2.2.1, gvm.2.2.2.2.2.1, gvm.2.2.2.2.2.2.1, gvm.2.2.2.2.2.2.2.1, gvm.2.2.2.2.2.2.2.2.1, (upd (upd (upd gvm.2.2.2.2.2.2.2.2.2.1 x1.toNatClampNeg (gsp.2 x2.toNatClampNeg)) x2.toNatClampNeg (gsp.2 x3.toNatClampNeg)) x3.toNatClampNeg (gsp.2 x1.toNatClampNeg)), gvm.2.2.2.2.2.2.2.2.2.2)) gtd gfl grd gnv gac gla v32.2 gsp grc gim) := hD
                    refine lv_if_eq (tgt := 212) hx hb dX13_saferThree_171 (by decide) (fun c34 => ?_) (fun c34 => ?_)
                    · rw [if_pos c34] at h
                      exact c212 () (gvm.1, gvm.2.1, gvm.2.2.1, gvm.2.2.2.1, gvm.2.2.2.2.1, gvm.2.2.2.2.2.1, gvm.2.2.2.2.2.2.1, gvm.2.2.2.2.2.2.2.1, gvm.2.2.2.2.2.2.2.2.1, (upd (upd (upd gvm.2.2.2.2.2.2.2.2.2.1 x1.toNatClampNeg (gsp.2 x2.toNatClampNeg)) x2.toNatClampNeg (gsp.2 x3.toNatClampNeg)) x3.toNatClampNeg (gsp.2 x1.toNatClampNeg)), gvm.2.2.2.2.2.2.2.2.2.2) v32.2 x1 x2 x3 H locs ls h hP hD hS (lv_sub hl [0, 1, 2, 3] rfl)
                    · rw [if_neg c34] at h
                      refine lv_aload_n hx hb dX13_saferThree_174 rfl (lv_at hl 0 rfl) ?_
                      refine lv_aload_n hx hb dX13_saferThree_175 rfl (lv_at hl 0 rfl) ?_
                      refine va_get (D := (dC, dI)) (ci := 11) (v := .ref (a0 27)) (C := RX13) (T := TX13) (N := 64) hx hb hts in_X13 hown hK hP 0 rfl rfl 46 (by decide) lk1 (fun _ h9 => h9) rfl dX13_saferThree_176 ?_
                      refine lv_iload_n hx hb dX13_saferThree_179 rfl (lv_at hl 2 rfl) ?_
                      obtain ⟨hi35, h⟩ := ok_if h
                      refine va_iald hx hb hK hP 13 1 rfl rfl (ix_in hi35) dX13_saferThree_180 ?_
                      refine lv_iload hx hb dX13_saferThree_181 (lv_at hl 4 rfl) ?_
                      refine lv_iload hx hb dX13_saferThree_183 (lv_at hl 5 rfl) ?_
                      obtain ⟨v36, hv37, h⟩ := ok_bind h
                      refine cl_vi (w2 := fun (u : ((Nat → Int32))) => w_X13_saferThree cy a0 gth ((gvm.1, gvm.2.1, gvm.2.2.1, gvm.2.2.2.1, gvm.2.2.2.2.1, gvm.2.2.2.2.2.1, gvm.2.2.2.2.2.2.1, gvm.2.2.2.2.2.2.2.1, gvm.2.2.2.2.2.2.2.2.1, (upd (upd (upd gvm.2.2.2.2.2.2.2.2.2.1 x1.toNatClampNeg (gsp.2 x2.toNatClampNeg)) x2.toNatClampNeg (gsp.2 x3.toNatClampNeg)) x3.toNatClampNeg (gsp.2 x1.toNatClampNeg)), gvm.2.2.2.2.2.2.2.2.2.2)) gtd gfl grd gnv gac gla u gsp grc gim) (As := [.int (gsp.2 x2.toNatClampNeg), .int x4, .int x5]) (rest := []) ⟨hx, hb, hml, hown, hts⟩ (c_X13_isLess l dC dI cy a0 gth (gvm.1, gvm.2.1, gvm.2.2.1, gvm.2.2.2.1, gvm.2.2.2.2.1, gvm.2.2.2.2.2.1, gvm.2.2.2.2.2.2.1, gvm.2.2.2.2.2.2.2.1, gvm.2.2.2.2.2.2.2.2.1, (upd (upd (upd gvm.2.2.2.2.2.2.2.2.2.1 x1.toNatClampNeg (gsp.2 x2.toNatClampNeg)) x2.toNatClampNeg (gsp.2 x3.toNatClampNeg)) x3.toNatClampNeg (gsp.2 x1.toNatClampNeg)), gvm.2.2.2.2.2.2.2.2.2.2) gtd gfl grd gnv gac gla v32.2 gsp grc gim (gsp.2 x2.toNatClampNeg) x4 x5 H.size v36 hv37) (cwV 3 hts gX13_saferThree_X13_isLess rfl rfl rfl (by decide +kernel) ⟨Nat.le_of_ble_eq_true rfl, Nat.le_of_ble_eq_true rfl⟩) (va_recv hK hP (ci := 11) (q0 := 0) rfl rfl) cl_blind (cl_pre hK hP hD [0, 1, 2, 3, 4, 5, 6, 7, 8, 9, 10, 11, 12, 13] (by decide) rfl) hP hD hS hA [0, 1, 2, 3, 4, 5, 6, 7, 8, 9, 10, 11, 12, 13] rfl rfl hl.1 rfl (lv_room (Nat.le_of_ble_eq_true rfl)) dX13_saferThree_185 ⟨Nat.le_of_ble_eq_true rfl, Nat.le_of_ble_eq_true rfl⟩ ⟨rfl, rfl⟩ (fun _ => updM [0, 1, 2, 3, 4, 5, 6, 7, 8, 9, 10, 11, 12, 13] [] [] 14 rfl rfl rfl rfl rfl (by decide +kernel) (by decide +kernel) rfl) (fun r u H locs hw hP hD hS => ?_)
                      obtain ⟨rfl, rfl⟩ := hw
                      have hP : va_P (dC, dI) vwCl (w_X13_saferThree cy a0 gth ((gvm.1, gvm.2.1, gvm.2.2.1, gvm.2.2.2.1, gvm.2.2.2.2.1, gvm.2.2.2.2.2.1, gvm.2.2.2.2.2.2.1, gvm.2.2.2.2.2.2.2.1, gvm.2.2.2.2.2.2.2.2.1, (upd (upd (upd gvm.2.2.2.2.2.2.2.2.2.1 x1.toNatClampNeg (gsp.2 x2.toNatClampNeg)) x2.toNatClampNeg (gsp.2 x3.toNatClampNeg)) x3.toNatClampNeg (gsp.2 x1.toNatClampNeg)), gvm.2.2.2.2.2.2.2.2.2.2)) gtd gfl grd gnv gac gla v36.2 gsp grc gim) H := hP
                      have hD : va_D A (w_X13_saferThree cy a0 gth ((gvm.1, gvm.2.1, gvm.2.2.1, gvm.2.2.2.1, gvm.2.2.2.2.1, gvm.2.2.2.2.2.1, gvm.2.2.2.2.2.2.1, gvm.2.2.2.2.2.2.2.1, gvm.2.2.2.2.2.2.2.2.1, (upd (upd (upd gvm.2.2.2.2.2.2.2.2.2.1 x1.toNatClampNeg (gsp.2 x2.toNatClampNeg)) x2.toNatClampNeg (gsp.2 x3.toNatClampNeg)) x3.toNatClampNeg (gsp.2 x1.toNatClampNeg)), gvm.2.2.2.2.2.2.2.2.2.2)) gtd gfl grd gnv gac gla v36.2 gsp grc gim) := hD
                      refine lv_if_eq (tgt := 212) hx hb dX13_saferThree_188 (by decide) (fun c38 => ?_) (fun c38 => ?_)
                      · rw [if_pos c38] at h
                        exact c212 () (gvm.1, gvm.2.1, gvm.2.2.1, gvm.2.2.2.1, gvm.2.2.2.2.1, gvm.2.2.2.2.2.1, gvm.2.2.2.2.2.2.1, gvm.2.2.2.2.2.2.2.1, gvm.2.2.2.2.2.2.2.2.1, (upd (upd (upd gvm.2.2.2.2.2.2.2.2.2.1 x1.toNatClampNeg (gsp.2 x2.toNatClampNeg)) x2.toNatClampNeg (gsp.2 x3.toNatClampNeg)) x3.toNatClampNeg (gsp.2 x1.toNatClampNeg)), gvm.2.2.2.2.2.2.2.2.2.2) v36.2 x1 x2 x3 H locs ls h hP hD hS (lv_sub hl [0, 1, 2, 3] rfl)
                      · rw [if_neg c38] at h
                        refine lv_aload_n hx hb dX13_saferThree_191 rfl (lv_at hl 0 rfl) ?_
                        refine lv_aload_n hx hb dX13_saferThree_192 rfl (lv_at hl 0 rfl) ?_
                        refine va_get (D := (dC, dI)) (ci := 11) (v := .ref (a0 27)) (C := RX13) (T := TX13) (N := 64) hx hb hts in_X13 hown hK hP 0 rfl rfl 46 (by decide) lk1 (fun _ h9 => h9) rfl dX13_saferThree_193 ?_
                        refine lv_iload_n hx hb dX13_saferThree_196 rfl (lv_at hl 3 rfl) ?_
                        obtain ⟨hi39, h⟩ := ok_if h
                        refine va_iald hx hb hK hP 13 1 rfl rfl (ix_in hi39) dX13_saferThree_197 ?_
                        refine lv_iload hx hb dX13_saferThree_198 (lv_at hl 4 rfl) ?_
                        refine lv_iload hx hb dX13_saferThree_200 (lv_at hl 5 rfl) ?_
                        obtain ⟨v40, hv41, h⟩ := ok_bind h
                        refine cl_vi (w2 := fun (u : ((Nat → Int32))) => w_X13_saferThree cy a0 gth ((gvm.1, gvm.2.1, gvm.2.2.1, gvm.2.2.2.1, gvm.2.2.2.2.1, gvm.2.2.2.2.2.1, gvm.2.2.2.2.2.2.1, gvm.2.2.2.2.2.2.2.1, gvm.2.2.2.2.2.2.2.2.1, (upd (upd (upd gvm.2.2.2.2.2.2.2.2.2.1 x1.toNatClampNeg (gsp.2 x2.toNatClampNeg)) x2.toNatClampNeg (gsp.2 x3.toNatClampNeg)) x3.toNatClampNeg (gsp.2 x1.toNatClampNeg)), gvm.2.2.2.2.2.2.2.2.2.2)) gtd gfl grd gnv gac gla u gsp grc gim) (As := [.int (gsp.2 x3.toNatClampNeg), .int x4, .int x5]) (rest := []) ⟨hx, hb, hml, hown, hts⟩ (c_X13_isLess l dC dI cy a0 gth (gvm.1, gvm.2.1, gvm.2.2.1, gvm.2.2.2.1, gvm.2.2.2.2.1, gvm.2.2.2.2.2.1, gvm.2.2.2.2.2.2.1, gvm.2.2.2.2.2.2.2.1, gvm.2.2.2.2.2.2.2.2.1, (upd (upd (upd gvm.2.2.2.2.2.2.2.2.2.1 x1.toNatClampNeg (gsp.2 x2.toNatClampNeg)) x2.toNatClampNeg (gsp.2 x3.toNatClampNeg)) x3.toNatClampNeg (gsp.2 x1.toNatClampNeg)), gvm.2.2.2.2.2.2.2.2.2.2) gtd gfl grd gnv gac gla v36.2 gsp grc gim (gsp.2 x3.toNatClampNeg) x4 x5 H.size v40 hv41) (cwV 3 hts gX13_saferThree_X13_isLess rfl rfl rfl (by decide +kernel) ⟨Nat.le_of_ble_eq_true rfl, Nat.le_of_ble_eq_true rfl⟩) (va_recv hK hP (ci := 11) (q0 := 0) rfl rfl) cl_blind (cl_pre hK hP hD [0, 1, 2, 3, 4, 5, 6, 7, 8, 9, 10, 11, 12, 13] (by decide) rfl) hP hD hS hA [0, 1, 2, 3, 4, 5, 6, 7, 8, 9, 10, 11, 12, 13] rfl rfl hl.1 rfl (lv_room (Nat.le_of_ble_eq_true rfl)) dX13_saferThree_202 ⟨Nat.le_of_ble_eq_true rfl, Nat.le_of_ble_eq_true rfl⟩ ⟨rfl, rfl⟩ (fun _ => updM [0, 1, 2, 3, 4, 5, 6, 7, 8, 9, 10, 11, 12, 13] [] [] 14 rfl rfl rfl rfl rfl (by decide +kernel) (by decide +kernel) rfl) (fun r u H locs hw hP hD hS => ?_)
                        obtain ⟨rfl, rfl⟩ := hw
                        have hP : va_P (dC, dI) vwCl (w_X13_saferThree cy a0 gth ((gvm.1, gvm.2.1, gvm.2.2.1, gvm.2.2.2.1, gvm.2.2.2.2.1, gvm.2.2.2.2.2.1, gvm.2.2.2.2.2.2.1, gvm.2.2.2.2.2.2.2.1, gvm.2.2.2.2.2.2.2.2.1, (upd (upd (upd gvm.2.2.2.2.2.2.2.2.2.1 x1.toNatClampNeg (gsp.2 x2.toNatClampNeg)) x2.toNatClampNeg (gsp.2 x3.toNatClampNeg)) x3.toNatClampNeg (gsp.2 x1.toNatClampNeg)), gvm.2.2.2.2.2.2.2.2.2.2)) gtd gfl grd gnv gac gla v40.2 gsp grc gim) H := hP
                        have hD : va_D A (w_X13_saferThree cy a0 gth ((gvm.1, gvm.2.1, gvm.2.2.1, gvm.2.2.2.1, gvm.2.2.2.2.1, gvm.2.2.2.2.2.1, gvm.2.2.2.2.2.2.1, gvm.2.2.2.2.2.2.2.1, gvm.2.2.2.2.2.2.2.2.1, (upd (upd (upd gvm.2.2.2.2.2.2.2.2.2.1 x1.toNatClampNeg (gsp.2 x2.toNatClampNeg)) x2.toNatClampNeg (gsp.2 x3.toNatClampNeg)) x3.toNatClampNeg (gsp.2 x1.toNatClampNeg)), gvm.2.2.2.2.2.2.2.2.2.2)) gtd gfl grd gnv gac gla v40.2 gsp grc gim) := hD
                        refine lv_if_eq (tgt := 212) hx hb dX13_saferThree_205 (by decide) (fun c42 => ?_) (fun c42 => ?_)
                        · rw [if_pos c42] at h
                          exact c212 () (gvm.1, gvm.2.1, gvm.2.2.1, gvm.2.2.2.1, gvm.2.2.2.2.1, gvm.2.2.2.2.2.1, gvm.2.2.2.2.2.2.1, gvm.2.2.2.2.2.2.2.1, gvm.2.2.2.2.2.2.2.2.1, (upd (upd (upd gvm.2.2.2.2.2.2.2.2.2.1 x1.toNatClampNeg (gsp.2 x2.toNatClampNeg)) x2.toNatClampNeg (gsp.2 x3.toNatClampNeg)) x3.toNatClampNeg (gsp.2 x1.toNatClampNeg)), gvm.2.2.2.2.2.2.2.2.2.2) v40.2 x1 x2 x3 H locs ls h hP hD hS (lv_sub hl [0, 1, 2, 3] rfl)
                        · rw [if_neg c42] at h
                          refine lv_iconst (v := (1 : Int32)) hx hb dX13_saferThree_208 (by decide) ?_
                          refine lv_goto (tgt := 213) hx hb dX13_saferThree_209 (by decide) ?_
                          exact c213 () (gvm.1, gvm.2.1, gvm.2.2.1, gvm.2.2.2.1, gvm.2.2.2.2.1, gvm.2.2.2.2.2.1, gvm.2.2.2.2.2.2.1, gvm.2.2.2.2.2.2.2.1, gvm.2.2.2.2.2.2.2.2.1, (upd (upd (upd gvm.2.2.2.2.2.2.2.2.2.1 x1.toNatClampNeg (gsp.2 x2.toNatClampNeg)) x2.toNatClampNeg (gsp.2 x3.toNatClampNeg)) x3.toNatClampNeg (gsp.2 x1.toNatClampNeg)), gvm.2.2.2.2.2.2.2.2.2.2) v40.2 x1 x2 x3 (1 : Int32) H locs ls h hP hD hS (lv_sub hl [0, 1, 2, 3] rfl)
                  · rw [if_pos c24] at h
                    refine lv_iconst (v := (0 : Int32)) hx hb dX13_saferThree_119 (by decide) ?_
                    exact W.zret (v := (0 : Int32)) (ty := .boolean) hx hb hr rfl (fun t ht hW => by rw [hqq]; have hh := Option.some.inj h; exact ⟨⟨(0 : Int32), ((gvm, gne)), rfl, ⟨fst_of hh, snd_of hh⟩, by rw [ht]; exact hP, va_K.moved hW.alike hK⟩, hS.F ht⟩) hS.2.2 dX13_saferThree_120
            · rw [if_pos c15] at h
              refine lv_iconst (v := (0 : Int32)) hx hb dX13_saferThree_72 (by decide) ?_
              exact W.zret (v := (0 : Int32)) (ty := .boolean) hx hb hr rfl (fun t ht hW => by rw [hqq]; have hh := Option.some.inj h; exact ⟨⟨(0 : Int32), ((gvm, gne)), rfl, ⟨fst_of hh, snd_of hh⟩, by rw [ht]; exact hP, va_K.moved hW.alike hK⟩, hS.F ht⟩) hS.2.2 dX13_saferThree_73

abbrev w_X13_safer (cy : Nat → ClassId) (a0 : Nat → Nat) (gth : Int32) (gvm : Int32 × Int32 × Int32 × (Nat → Int32) × (Nat → Int32) × (Nat → Int32) × (Nat → Int32) × (Nat → Int32) × (Nat → Int32) × (Nat → Int32) × (Nat → Int32) × (Nat → Int32)) (gtd : Int32) (gfl : Int32 × Int32) (grd : Int32 × Int32 × Int32 × Int32 × Int32 × Int32 × Int64 × (Nat → Int32)) (gnv : Int32 × Int32 × Int32 × Int32 × Int32 × (Nat → Int32) × (Nat → Int32) × (Nat → Int32) × (Nat → Int32) × (Nat → Int32) × (Nat → Int32)) (gac : Int32 × (Nat → Int32) × (Nat → Int32)) (gla : (Nat → Int32)) (gne : (Nat → Int32)) (gsp : (Nat → Int32) × (Nat → Int32)) (grc : Int32 × (Nat → Int32)) (gim : Int32 × Int32 × Int32 × (Nat → Int32) × (Nat → Int32) × (Nat → Int32) × (Nat → Int32) × (Nat → Int32) × (Nat → Int32) × (Nat → Int32) × (Nat → Int32) × (Nat → Int32)) : va_W := [(a0 0, .inr (11, [.int (gth), .int (gvm.1), .int (gvm.2.1), .int (gvm.2.2.1), .ref (a0 1), .ref (a0 2), .ref (a0 3), .ref (a0 4), .ref (a0 5), .ref (a0 6), .ref (a0 7), .ref (a0 8), .ref (a0 9), .ref (a0 10), .int (gtd), .int (gfl.1), .int (gfl.2), .ref (a0 11), .int (grd.1), .int (grd.2.1), .int (grd.2.2.1), .int (grd.2.2.2.1), .int (grd.2.2.2.2.1), .int (grd.2.2.2.2.2.1), .long (grd.2.2.2.2.2.2.1), .ref (a0 12), .int (gnv.1), .int (gnv.2.1), .int (gnv.2.2.1), .int (gnv.2.2.2.1), .int (gnv.2.2.2.2.1), .ref (a0 13), .ref (a0 14), .ref (a0 15), .ref (a0 16), .ref (a0 17), .ref (a0 18), .int (gac.1), .ref (a0 19), .ref (a0 20), .ref (a0 21), .ref (a0 22), .ref (a0 23), .ref (a0 24), .ref (a0 25), .ref (a0 26), .ref (a0 27), .int (grc.1), .ref (a0 28), .ref (a0 29), .ref (a0 30), .ref (a0 31), .int (gim.1), .int (gim.2.1), .int (gim.2.2.1), .ref (a0 32), .ref (a0 33), .ref (a0 34), .ref (a0 35), .ref (a0 36), .ref (a0 37), .ref (a0 38), .ref (a0 39), .ref (a0 40)])), (a0 1, .inl (cy 1, 5, .inl (gvm.2.2.2.1))), (a0 2, .inl (cy 1, 5, .inl (gvm.2.2.2.2.1))), (a0 3, .inl (cy 1, 5, .inl (gvm.2.2.2.2.2.1))), (a0 4, .inl (cy 1, 25, .inl (gvm.2.2.2.2.2.2.1))), (a0 5, .inl (cy 1, 10, .inl (gvm.2.2.2.2.2.2.2.1))), (a0 6, .inl (cy 1, 10, .inl (gvm.2.2.2.2.2.2.2.2.1))), (a0 7, .inl (cy 1, 10, .inl (gvm.2.2.2.2.2.2.2.2.2.1))), (a0 8, .inl (cy 1, 10, .inl (gvm.2.2.2.2.2.2.2.2.2.2.1))), (a0 9, .inl (cy 1, 50, .inl (gvm.2.2.2.2.2.2.2.2.2.2.2))), (a0 21, .inl (cy 1, 620, .inl (gla))), (a0 22, .inl (cy 1, 41, .inl (gne))), (a0 26, .inl (cy 1, 5, .inl (gsp.1))), (a0 27, .inl (cy 1, 10, .inl (gsp.2)))]
abbrev rm_X13_safer : Room := { frames := 6, cells := 0, slots := 0, locals := 140 }
set_option maxHeartbeats 1000000 in
set_option maxRecDepth 100000 in
theorem c_X13_safer (l : Launch) (dC : Nat → ClassId) (dI : Nat → Nat → Nat) (cy : Nat → ClassId) (a0 : Nat → Nat) (gth : Int32) (gvm : Int32 × Int32 × Int32 × (Nat → Int32) × (Nat → Int32) × (Nat → Int32) × (Nat → Int32) × (Nat → Int32) × (Nat → Int32) × (Nat → Int32) × (Nat → Int32) × (Nat → Int32)) (gtd : Int32) (gfl : Int32 × Int32) (grd : Int32 × Int32 × Int32 × Int32 × Int32 × Int32 × Int64 × (Nat → Int32)) (gnv : Int32 × Int32 × Int32 × Int32 × Int32 × (Nat → Int32) × (Nat → Int32) × (Nat → Int32) × (Nat → Int32) × (Nat → Int32) × (Nat → Int32)) (gac : Int32 × (Nat → Int32) × (Nat → Int32)) (gla : (Nat → Int32)) (gne : (Nat → Int32)) (gsp : (Nat → Int32) × (Nat → Int32)) (grc : Int32 × (Nat → Int32)) (gim : Int32 × Int32 × Int32 × (Nat → Int32) × (Nat → Int32) × (Nat → Int32) × (Nat → Int32) × (Nat → Int32) × (Nat → Int32) × (Nat → Int32) × (Nat → Int32) × (Nat → Int32)) (x1 : Int32) (x2 : Int32) (x3 : Int32) (sz : Nat) (R0 : Int32 × (Int32) × (Int32 × Int32 × Int32 × (Nat → Int32) × (Nat → Int32) × (Nat → Int32) × (Nat → Int32) × (Nat → Int32) × (Nat → Int32) × (Nat → Int32) × (Nat → Int32) × (Nat → Int32)) × ((Nat → Int32)) × ((Nat → Int32)) × ((Nat → Int32) × (Nat → Int32))) (h : p_X13_safer gth gvm gla gne gsp x1 x2 x3 = some R0) : Met l yX13_safer wsX13_safer rm_X13_safer (va_Pc [.ref (a0 0), .int x1, .int x2, .int x3] (prC dC dI cy (w_X13_safer cy a0 gth gvm gtd gfl grd gnv gac gla gne gsp grc gim) sz)) (va_Qi (fun (r : Int32) (u : (Int32) × (Int32 × Int32 × Int32 × (Nat → Int32) × (Nat → Int32) × (Nat → Int32) × (Nat → Int32) × (Nat → Int32) × (Nat → Int32) × (Nat → Int32) × (Nat → Int32) × (Nat → Int32)) × ((Nat → Int32)) × ((Nat → Int32)) × ((Nat → Int32) × (Nat → Int32))) => r = R0.1 ∧ u = R0.2) (fun (u : (Int32) × (Int32 × Int32 × Int32 × (Nat → Int32) × (Nat → Int32) × (Nat → Int32) × (Nat → Int32) × (Nat → Int32) × (Nat → Int32) × (Nat → Int32) × (Nat → Int32) × (Nat → Int32)) × ((Nat → Int32)) × ((Nat → Int32)) × ((Nat → Int32) × (Nat → Int32))) t => poC dC dI cy (w_X13_safer cy a0 u.1 u.2.1 gtd gfl grd gnv gac u.2.2.1 u.2.2.2.1 u.2.2.2.2 grc gim) t) (va_A (w_X13_safer cy a0 gth gvm gtd gfl grd gnv gac gla gne gsp grc gim) sz)) 0 0 (va_A (w_X13_safer cy a0 gth gvm gtd gfl grd gnv gac gla gne gsp grc gim) sz) := by
  refine Met.ofW (cc := cX13_safer) (maxL := 10) (ret := (some .int)) (by decide) rfl ?_
  intro p e s m aa below meth c s₁ B hml hv
  obtain ⟨haa, hsz, hP, hK, hD0⟩ := hv
  have hx := B.exec
  have hb := B.bytes
  have hr := B.returns
  have hts := atoms_spec (ws := wsX13_safer) B.pre
  have hown : s.vm.findClass RX13 = some m.cls := findClass_of_methodNamed B.named
  have hlocks := B.notSynchronized
  subst hsz
  have hD := hD0.self (sz := s.heap.size)
  obtain ⟨qq, hqq⟩ : ∃ qq, qq = (va_Qi (fun (r : Int32) (u : (Int32) × (Int32 × Int32 × Int32 × (Nat → Int32) × (Nat → Int32) × (Nat → Int32) × (Nat → Int32) × (Nat → Int32) × (Nat → Int32) × (Nat → Int32) × (Nat → Int32) × (Nat → Int32)) × ((Nat → Int32)) × ((Nat → Int32)) × ((Nat → Int32) × (Nat → Int32))) => r = R0.1 ∧ u = R0.2) (fun (u : (Int32) × (Int32 × Int32 × Int32 × (Nat → Int32) × (Nat → Int32) × (Nat → Int32) × (Nat → Int32) × (Nat → Int32) × (Nat → Int32) × (Nat → Int32) × (Nat → Int32) × (Nat → Int32)) × ((Nat → Int32)) × ((Nat → Int32)) × ((Nat → Int32) × (Nat → Int32))) t => poC dC dI cy (w_X13_safer cy a0 u.1 u.2.1 gtd gfl grd gnv gac u.2.2.1 u.2.2.2.1 u.2.2.2.2 grc gim) t) (va_A (w_X13_safer cy a0 gth gvm gtd gfl grd gnv gac gla gne gsp grc gim) s.heap.size)) := ⟨_, rfl⟩
  rw [← hqq]
  generalize hAe : va_A (w_X13_safer cy a0 gth gvm gtd gfl grd gnv gac gla gne gsp grc gim) s.heap.size = A at hD hqq ⊢
  have hA : ∀ q : Nat, s.heap.size ≤ q → A q := fun q h => by rw [← hAe]; exact Or.inr h
  have hS : va_S A s.heap s.heap [] := va_S.rf
  have hl := lv_entry ([.ref (a0 0), .int x1, .int x2, .int x3]) (n := 10) (Nat.le_of_ble_eq_true rfl)
  have hE : entryFrame m aa 10 = F0 m 0 ((lg_sl ([.ref (a0 0), .int x1, .int x2, .int x3]) ++ List.replicate (10 - (lg_sl ([.ref (a0 0), .int x1, .int x2, .int x3])).length) Slot.unset).toArray) [] := by rw [haa]; exact lg_entry_eq m _ 10
  refine W.eq hE ?_
  generalize (lg_sl ([.ref (a0 0), .int x1, .int x2, .int x3]) ++ List.replicate (10 - (lg_sl ([.ref (a0 0), .int x1, .int x2, .int x3])).length) Slot.unset).toArray = ls at hl ⊢
  have hl : lv_has ls 10 [(0, .ref (a0 0)), (1, .int x1), (2, .int x2), (3, .int x3)] := hl
  change W p l e rm_X13_safer s m aa below meth c s.heap [] 0 0 (MQ below qq aa s 0 0 A) (F0 m 0 ls [])
  have hS0 := hS
  have lk0 := hts (.fieldLink RX13 245 "GoatDoorsModel" "owners" "I") (by decide +kernel)
  have lk1 := hts (.fieldLink RX13 28 "GoatDoorsModel" "to" "[I") (by decide +kernel)
  have lk2 := hts (.fieldLink RX13 92 "GoatDoorsModel" "wasTo" "[I") (by decide +kernel)
  have lk3 := hts (.fieldLink RX13 89 "GoatDoorsModel" "spans" "[I") (by decide +kernel)
  have lk4 := hts (.fieldLink RX13 135 "GoatDoorsModel" "thrown" "I") (by decide +kernel)
  have in_X13 : ∀ w ∈ wsX130, w ∈ wsX13_safer := by decide +kernel
  have c251 : ∀ (k89 : (Int32) → (Int32 × Int32 × Int32 × (Nat → Int32) × (Nat → Int32) × (Nat → Int32) × (Nat → Int32) × (Nat → Int32) × (Nat → Int32) × (Nat → Int32) × (Nat → Int32) × (Nat → Int32)) → ((Nat → Int32)) → ((Nat → Int32)) → ((Nat → Int32) × (Nat → Int32)) → Int32 → Int32 → Int32 → Int32 → Int32 → Int32 → Option (Int32 × (Int32) × (Int32 × Int32 × Int32 × (Nat → Int32) × (Nat → Int32) × (Nat → Int32) × (Nat → Int32) × (Nat → Int32) × (Nat → Int32) × (Nat → Int32) × (Nat → Int32) × (Nat → Int32)) × ((Nat → Int32)) × ((Nat → Int32)) × ((Nat → Int32) × (Nat → Int32)))) (hk89 : ∀ (gth : Int32) (gvm : Int32 × Int32 × Int32 × (Nat → Int32) × (Nat → Int32) × (Nat → Int32) × (Nat → Int32) × (Nat → Int32) × (Nat → Int32) × (Nat → Int32) × (Nat → Int32) × (Nat → Int32)) (gla : (Nat → Int32)) (gne : (Nat → Int32)) (gsp : (Nat → Int32) × (Nat → Int32)) (x1 : Int32) (x2 : Int32) (x3 : Int32) (x4 : Int32) (x5 : Int32) (x6 : Int32) (H : Heap) (locs : List Loc) (ls : Array Slot), k89 gth gvm gla gne gsp x1 x2 x3 x4 x5 x6 = some R0 → va_P (dC, dI) vwCl (w_X13_safer cy a0 gth gvm gtd gfl grd gnv gac gla gne gsp grc gim) H → va_D A (w_X13_safer cy a0 gth gvm gtd gfl grd gnv gac gla gne gsp grc gim) → va_S A s.heap H locs → lv_has ls 10 [(0, .ref (a0 0)), (1, .int x1), (2, .int x2), (3, .int x3), (4, .int x4), (5, .int x5), (6, .int x6)] → W p l e rm_X13_safer s m aa below meth c H locs 0 0 (MQ below qq aa s 0 0 A) (F0 m 89 ls [])) (k99 : (Int32) → (Int32 × Int32 × Int32 × (Nat → Int32) × (Nat → Int32) × (Nat → Int32) × (Nat → Int32) × (Nat → Int32) × (Nat → Int32) × (Nat → Int32) × (Nat → Int32) × (Nat → Int32)) → ((Nat → Int32)) → ((Nat → Int32)) → ((Nat → Int32) × (Nat → Int32)) → Int32 → Int32 → Int32 → Int32 → Int32 → Int32 → Int32 → Option (Int32 × (Int32) × (Int32 × Int32 × Int32 × (Nat → Int32) × (Nat → Int32) × (Nat → Int32) × (Nat → Int32) × (Nat → Int32) × (Nat → Int32) × (Nat → Int32) × (Nat → Int32) × (Nat → Int32)) × ((Nat → Int32)) × ((Nat → Int32)) × ((Nat → Int32) × (Nat → Int32)))) (hk99 : ∀ (gth : Int32) (gvm : Int32 × Int32 × Int32 × (Nat → Int32) × (Nat → Int32) × (Nat → Int32) × (Nat → Int32) × (Nat → Int32) × (Nat → Int32) × (Nat → Int32) × (Nat → Int32) × (Nat → Int32)) (gla : (Nat → Int32)) (gne : (Nat → Int32)) (gsp : (Nat → Int32) × (Nat → Int32)) (x1 : Int32) (x2 : Int32) (x3 : Int32) (x4 : Int32) (x5 : Int32) (x6 : Int32) (x7 : Int32) (H : Heap) (locs : List Loc) (ls : Array Slot), k99 gth gvm gla gne gsp x1 x2 x3 x4 x5 x6 x7 = some R0 → va_P (dC, dI) vwCl (w_X13_safer cy a0 gth gvm gtd gfl grd gnv gac gla gne gsp grc gim) H → va_D A (w_X13_safer cy a0 gth gvm gtd gfl grd gnv gac gla gne gsp grc gim) → va_S A s.heap H locs → lv_has ls 10 [(0, .ref (a0 0)), (1, .int x1), (2, .int x2), (3, .int x3), (4, .int x4), (5, .int x5), (6, .int x6), (7, .int x7)] → W p l e rm_X13_safer s m aa below meth c H locs 0 0 (MQ below qq aa s 0 0 A) (F0 m 99 ls [])) (k109 : (Int32) → (Int32 × Int32 × Int32 × (Nat → Int32) × (Nat → Int32) × (Nat → Int32) × (Nat → Int32) × (Nat → Int32) × (Nat → Int32) × (Nat → Int32) × (Nat → Int32) × (Nat → Int32)) → ((Nat → Int32)) → ((Nat → Int32)) → ((Nat → Int32) × (Nat → Int32)) → Int32 → Int32 → Int32 → Int32 → Int32 → Int32 → Int32 → Int32 → Option (Int32 × (Int32) × (Int32 × Int32 × Int32 × (Nat → Int32) × (Nat → Int32) × (Nat → Int32) × (Nat → Int32) × (Nat → Int32) × (Nat → Int32) × (Nat → Int32) × (Nat → Int32) × (Nat → Int32)) × ((Nat → Int32)) × ((Nat → Int32)) × ((Nat → Int32) × (Nat → Int32)))) (hk109 : ∀ (gth : Int32) (gvm : Int32 × Int32 × Int32 × (Nat → Int32) × (Nat → Int32) × (Nat → Int32) × (Nat → Int32) × (Nat → Int32) × (Nat → Int32) × (Nat → Int32) × (Nat → Int32) × (Nat → Int32)) (gla : (Nat → Int32)) (gne : (Nat → Int32)) (gsp : (Nat → Int32) × (Nat → Int32)) (x1 : Int32) (x2 : Int32) (x3 : Int32) (x4 : Int32) (x5 : Int32) (x6 : Int32) (x7 : Int32) (x8 : Int32) (H : Heap) (locs : List Loc) (ls : Array Slot), k109 gth gvm gla gne gsp x1 x2 x3 x4 x5 x6 x7 x8 = some R0 → va_P (dC, dI) vwCl (w_X13_safer cy a0 gth gvm gtd gfl grd gnv gac gla gne gsp grc gim) H → va_D A (w_X13_safer cy a0 gth gvm gtd gfl grd gnv gac gla gne gsp grc gim) → va_S A s.heap H locs → lv_has ls 10 [(0, .ref (a0 0)), (1, .int x1), (2, .int x2), (3, .int x3), (4, .int x4), (5, .int x5), (6, .int x6), (7, .int x7), (8, .int x8)] → W p l e rm_X13_safer s m aa below meth c H locs 0 0 (MQ below qq aa s 0 0 A) (F0 m 109 ls [])), ∀ (gth : Int32) (gvm : Int32 × Int32 × Int32 × (Nat → Int32) × (Nat → Int32) × (Nat → Int32) × (Nat → Int32) × (Nat → Int32) × (Nat → Int32) × (Nat → Int32) × (Nat → Int32) × (Nat → Int32)) (gla : (Nat → Int32)) (gne : (Nat → Int32)) (gsp : (Nat → Int32) × (Nat → Int32)) (x1 : Int32) (x2 : Int32) (x3 : Int32) (x4 : Int32) (x5 : Int32) (x6 : Int32) (x7 : Int32) (x8 : Int32) (H : Heap) (locs : List Loc) (ls : Array Slot), p_X13_safer_251 k89 k99 k109 gth gvm gla gne gsp x1 x2 x3 x4 x5 x6 x7 x8 = some R0 → va_P (dC, dI) vwCl (w_X13_safer cy a0 gth gvm gtd gfl grd gnv gac gla gne gsp grc gim) H → va_D A (w_X13_safer cy a0 gth gvm gtd gfl grd gnv gac gla gne gsp grc gim) → va_S A s.heap H locs → lv_has ls 10 [(0, .ref (a0 0)), (1, .int x1), (2, .int x2), (3, .int x3), (4, .int x4), (5, .int x5), (6, .int x6), (7, .int x7), (8, .int x8)] → W p l e rm_X13_safer s m aa below meth c H locs 0 0 (MQ below qq aa s 0 0 A) (F0 m 251 ls []) := by
    intro k89 hk89 k99 hk99 k109 hk109 gth gvm gla gne gsp x1 x2 x3 x4 x5 x6 x7 x8 H locs ls h hP hD hS hl
    unfold p_X13_safer_251 at h
    refine lv_iinc (v := (x8 + (1 : Int32))) (lv' := [(8, .int (x8 + (1 : Int32))), (0, .ref (a0 0)), (1, .int x1), (2, .int x2), (3, .int x3), (4, .int x4), (5, .int x5), (6, .int x6), (7, .int x7)]) hx hb dX13_safer_251 hl (k := 8) rfl rfl (by decide) rfl (fun ls hl => ?_)
    refine lv_goto (tgt := 109) hx hb dX13_safer_254 (by decide) ?_
    exact hk109 gth gvm gla gne gsp x1 x2 x3 x4 x5 x6 x7 (x8 + (1 : Int32)) H locs ls h hP hD hS (lv_sub hl [1, 2, 3, 4, 5, 6, 7, 8, 0] rfl)
  have c249 : ∀ (k89 : (Int32) → (Int32 × Int32 × Int32 × (Nat → Int32) × (Nat → Int32) × (Nat → Int32) × (Nat → Int32) × (Nat → Int32) × (Nat → Int32) × (Nat → Int32) × (Nat → Int32) × (Nat → Int32)) → ((Nat → Int32)) → ((Nat → Int32)) → ((Nat → Int32) × (Nat → Int32)) → Int32 → Int32 → Int32 → Int32 → Int32 → Int32 → Option (Int32 × (Int32) × (Int32 × Int32 × Int32 × (Nat → Int32) × (Nat → Int32) × (Nat → Int32) × (Nat → Int32) × (Nat → Int32) × (Nat → Int32) × (Nat → Int32) × (Nat → Int32) × (Nat → Int32)) × ((Nat → Int32)) × ((Nat → Int32)) × ((Nat → Int32) × (Nat → Int32)))) (hk89 : ∀ (gth : Int32) (gvm : Int32 × Int32 × Int32 × (Nat → Int32) × (Nat → Int32) × (Nat → Int32) × (Nat → Int32) × (Nat → Int32) × (Nat → Int32) × (Nat → Int32) × (Nat → Int32) × (Nat → Int32)) (gla : (Nat → Int32)) (gne : (Nat → Int32)) (gsp : (Nat → Int32) × (Nat → Int32)) (x1 : Int32) (x2 : Int32) (x3 : Int32) (x4 : Int32) (x5 : Int32) (x6 : Int32) (H : Heap) (locs : List Loc) (ls : Array Slot), k89 gth gvm gla gne gsp x1 x2 x3 x4 x5 x6 = some R0 → va_P (dC, dI) vwCl (w_X13_safer cy a0 gth gvm gtd gfl grd gnv gac gla gne gsp grc gim) H → va_D A (w_X13_safer cy a0 gth gvm gtd gfl grd gnv gac gla gne gsp grc gim) → va_S A s.heap H locs → lv_has ls 10 [(0, .ref (a0 0)), (1, .int x1), (2, .int x2), (3, .int x3), (4, .int x4), (5, .int x5), (6, .int x6)] → W p l e rm_X13_safer s m aa below meth c H locs 0 0 (MQ below qq aa s 0 0 A) (F0 m 89 ls [])) (k99 : (Int32) → (Int32 × Int32 × Int32 × (Nat → Int32) × (Nat → Int32) × (Nat → Int32) × (Nat → Int32) × (Nat → Int32) × (Nat → Int32) × (Nat → Int32) × (Nat → Int32) × (Nat → Int32)) → ((Nat → Int32)) → ((Nat → Int32)) → ((Nat → Int32) × (Nat → Int32)) → Int32 → Int32 → Int32 → Int32 → Int32 → Int32 → Int32 → Option (Int32 × (Int32) × (Int32 × Int32 × Int32 × (Nat → Int32) × (Nat → Int32) × (Nat → Int32) × (Nat → Int32) × (Nat → Int32) × (Nat → Int32) × (Nat → Int32) × (Nat → Int32) × (Nat → Int32)) × ((Nat → Int32)) × ((Nat → Int32)) × ((Nat → Int32) × (Nat → Int32)))) (hk99 : ∀ (gth : Int32) (gvm : Int32 × Int32 × Int32 × (Nat → Int32) × (Nat → Int32) × (Nat → Int32) × (Nat → Int32) × (Nat → Int32) × (Nat → Int32) × (Nat → Int32) × (Nat → Int32) × (Nat → Int32)) (gla : (Nat → Int32)) (gne : (Nat → Int32)) (gsp : (Nat → Int32) × (Nat → Int32)) (x1 : Int32) (x2 : Int32) (x3 : Int32) (x4 : Int32) (x5 : Int32) (x6 : Int32) (x7 : Int32) (H : Heap) (locs : List Loc) (ls : Array Slot), k99 gth gvm gla gne gsp x1 x2 x3 x4 x5 x6 x7 = some R0 → va_P (dC, dI) vwCl (w_X13_safer cy a0 gth gvm gtd gfl grd gnv gac gla gne gsp grc gim) H → va_D A (w_X13_safer cy a0 gth gvm gtd gfl grd gnv gac gla gne gsp grc gim) → va_S A s.heap H locs → lv_has ls 10 [(0, .ref (a0 0)), (1, .int x1), (2, .int x2), (3, .int x3), (4, .int x4), (5, .int x5), (6, .int x6), (7, .int x7)] → W p l e rm_X13_safer s m aa below meth c H locs 0 0 (MQ below qq aa s 0 0 A) (F0 m 99 ls [])) (k109 : (Int32) → (Int32 × Int32 × Int32 × (Nat → Int32) × (Nat → Int32) × (Nat → Int32) × (Nat → Int32) × (Nat → Int32) × (Nat → Int32) × (Nat → Int32) × (Nat → Int32) × (Nat → Int32)) → ((Nat → Int32)) → ((Nat → Int32)) → ((Nat → Int32) × (Nat → Int32)) → Int32 → Int32 → Int32 → Int32 → Int32 → Int32 → Int32 → Int32 → Option (Int32 × (Int32) × (Int32 × Int32 × Int32 × (Nat → Int32) × (Nat → Int32) × (Nat → Int32) × (Nat → Int32) × (Nat → Int32) × (Nat → Int32) × (Nat → Int32) × (Nat → Int32) × (Nat → Int32)) × ((Nat → Int32)) × ((Nat → Int32)) × ((Nat → Int32) × (Nat → Int32)))) (hk109 : ∀ (gth : Int32) (gvm : Int32 × Int32 × Int32 × (Nat → Int32) × (Nat → Int32) × (Nat → Int32) × (Nat → Int32) × (Nat → Int32) × (Nat → Int32) × (Nat → Int32) × (Nat → Int32) × (Nat → Int32)) (gla : (Nat → Int32)) (gne : (Nat → Int32)) (gsp : (Nat → Int32) × (Nat → Int32)) (x1 : Int32) (x2 : Int32) (x3 : Int32) (x4 : Int32) (x5 : Int32) (x6 : Int32) (x7 : Int32) (x8 : Int32) (H : Heap) (locs : List Loc) (ls : Array Slot), k109 gth gvm gla gne gsp x1 x2 x3 x4 x5 x6 x7 x8 = some R0 → va_P (dC, dI) vwCl (w_X13_safer cy a0 gth gvm gtd gfl grd gnv gac gla gne gsp grc gim) H → va_D A (w_X13_safer cy a0 gth gvm gtd gfl grd gnv gac gla gne gsp grc gim) → va_S A s.heap H locs → lv_has ls 10 [(0, .ref (a0 0)), (1, .int x1), (2, .int x2), (3, .int x3), (4, .int x4), (5, .int x5), (6, .int x6), (7, .int x7), (8, .int x8)] → W p l e rm_X13_safer s m aa below meth c H locs 0 0 (MQ below qq aa s 0 0 A) (F0 m 109 ls [])), ∀ (gth : Int32) (gvm : Int32 × Int32 × Int32 × (Nat → Int32) × (Nat → Int32) × (Nat → Int32) × (Nat → Int32) × (Nat → Int32) × (Nat → Int32) × (Nat → Int32) × (Nat → Int32) × (Nat → Int32)) (gla : (Nat → Int32)) (gne : (Nat → Int32)) (gsp : (Nat → Int32) × (Nat → Int32)) (x1 : Int32) (x2 : Int32) (x3 : Int32) (x4 : Int32) (x6 : Int32) (x7 : Int32) (x8 : Int32) (t0 : Int32) (H : Heap) (locs : List Loc) (ls : Array Slot), p_X13_safer_249 k89 k99 k109 gth gvm gla gne gsp x1 x2 x3 x4 x6 x7 x8 t0 = some R0 → va_P (dC, dI) vwCl (w_X13_safer cy a0 gth gvm gtd gfl grd gnv gac gla gne gsp grc gim) H → va_D A (w_X13_safer cy a0 gth gvm gtd gfl grd gnv gac gla gne gsp grc gim) → va_S A s.heap H locs → lv_has ls 10 [(0, .ref (a0 0)), (1, .int x1), (2, .int x2), (3, .int x3), (4, .int x4), (6, .int x6), (7, .int x7), (8, .int x8)] → W p l e rm_X13_safer s m aa below meth c H locs 0 0 (MQ below qq aa s 0 0 A) (F0 m 249 ls [.int t0]) := by
    intro k89 hk89 k99 hk99 k109 hk109 gth gvm gla gne gsp x1 x2 x3 x4 x6 x7 x8 t0 H locs ls h hP hD hS hl
    unfold p_X13_safer_249 at h
    refine lv_istore (lv' := [(5, .int t0), (0, .ref (a0 0)), (1, .int x1), (2, .int x2), (3, .int x3), (4, .int x4), (6, .int x6), (7, .int x7), (8, .int x8)]) hx hb dX13_safer_249 hl (by decide) rfl (fun ls hl => ?_)
    exact c251 k89 hk89 k99 hk99 k109 hk109 gth gvm gla gne gsp x1 x2 x3 x4 t0 x6 x7 x8 H locs ls h hP hD hS (lv_sub hl [1, 2, 3, 4, 5, 0, 6, 7, 8] rfl)
  have c199 : ∀ (k89 : (Int32) → (Int32 × Int32 × Int32 × (Nat → Int32) × (Nat → Int32) × (Nat → Int32) × (Nat → Int32) × (Nat → Int32) × (Nat → Int32) × (Nat → Int32) × (Nat → Int32) × (Nat → Int32)) → ((Nat → Int32)) → ((Nat → Int32)) → ((Nat → Int32) × (Nat → Int32)) → Int32 → Int32 → Int32 → Int32 → Int32 → Int32 → Option (Int32 × (Int32) × (Int32 × Int32 × Int32 × (Nat → Int32) × (Nat → Int32) × (Nat → Int32) × (Nat → Int32) × (Nat → Int32) × (Nat → Int32) × (Nat → Int32) × (Nat → Int32) × (Nat → Int32)) × ((Nat → Int32)) × ((Nat → Int32)) × ((Nat → Int32) × (Nat → Int32)))) (hk89 : ∀ (gth : Int32) (gvm : Int32 × Int32 × Int32 × (Nat → Int32) × (Nat → Int32) × (Nat → Int32) × (Nat → Int32) × (Nat → Int32) × (Nat → Int32) × (Nat → Int32) × (Nat → Int32) × (Nat → Int32)) (gla : (Nat → Int32)) (gne : (Nat → Int32)) (gsp : (Nat → Int32) × (Nat → Int32)) (x1 : Int32) (x2 : Int32) (x3 : Int32) (x4 : Int32) (x5 : Int32) (x6 : Int32) (H : Heap) (locs : List Loc) (ls : Array Slot), k89 gth gvm gla gne gsp x1 x2 x3 x4 x5 x6 = some R0 → va_P (dC, dI) vwCl (w_X13_safer cy a0 gth gvm gtd gfl grd gnv gac gla gne gsp grc gim) H → va_D A (w_X13_safer cy a0 gth gvm gtd gfl grd gnv gac gla gne gsp grc gim) → va_S A s.heap H locs → lv_has ls 10 [(0, .ref (a0 0)), (1, .int x1), (2, .int x2), (3, .int x3), (4, .int x4), (5, .int x5), (6, .int x6)] → W p l e rm_X13_safer s m aa below meth c H locs 0 0 (MQ below qq aa s 0 0 A) (F0 m 89 ls [])) (k99 : (Int32) → (Int32 × Int32 × Int32 × (Nat → Int32) × (Nat → Int32) × (Nat → Int32) × (Nat → Int32) × (Nat → Int32) × (Nat → Int32) × (Nat → Int32) × (Nat → Int32) × (Nat → Int32)) → ((Nat → Int32)) → ((Nat → Int32)) → ((Nat → Int32) × (Nat → Int32)) → Int32 → Int32 → Int32 → Int32 → Int32 → Int32 → Int32 → Option (Int32 × (Int32) × (Int32 × Int32 × Int32 × (Nat → Int32) × (Nat → Int32) × (Nat → Int32) × (Nat → Int32) × (Nat → Int32) × (Nat → Int32) × (Nat → Int32) × (Nat → Int32) × (Nat → Int32)) × ((Nat → Int32)) × ((Nat → Int32)) × ((Nat → Int32) × (Nat → Int32)))) (hk99 : ∀ (gth : Int32) (gvm : Int32 × Int32 × Int32 × (Nat → Int32) × (Nat → Int32) × (Nat → Int32) × (Nat → Int32) × (Nat → Int32) × (Nat → Int32) × (Nat → Int32) × (Nat → Int32) × (Nat → Int32)) (gla : (Nat → Int32)) (gne : (Nat → Int32)) (gsp : (Nat → Int32) × (Nat → Int32)) (x1 : Int32) (x2 : Int32) (x3 : Int32) (x4 : Int32) (x5 : Int32) (x6 : Int32) (x7 : Int32) (H : Heap) (locs : List Loc) (ls : Array Slot), k99 gth gvm gla gne gsp x1 x2 x3 x4 x5 x6 x7 = some R0 → va_P (dC, dI) vwCl (w_X13_safer cy a0 gth gvm gtd gfl grd gnv gac gla gne gsp grc gim) H → va_D A (w_X13_safer cy a0 gth gvm gtd gfl grd gnv gac gla gne gsp grc gim) → va_S A s.heap H locs → lv_has ls 10 [(0, .ref (a0 0)), (1, .int x1), (2, .int x2), (3, .int x3), (4, .int x4), (5, .int x5), (6, .int x6), (7, .int x7)] → W p l e rm_X13_safer s m aa below meth c H locs 0 0 (MQ below qq aa s 0 0 A) (F0 m 99 ls [])) (k109 : (Int32) → (Int32 × Int32 × Int32 × (Nat → Int32) × (Nat → Int32) × (Nat → Int32) × (Nat → Int32) × (Nat → Int32) × (Nat → Int32) × (Nat → Int32) × (Nat → Int32) × (Nat → Int32)) → ((Nat → Int32)) → ((Nat → Int32)) → ((Nat → Int32) × (Nat → Int32)) → Int32 → Int32 → Int32 → Int32 → Int32 → Int32 → Int32 → Int32 → Option (Int32 × (Int32) × (Int32 × Int32 × Int32 × (Nat → Int32) × (Nat → Int32) × (Nat → Int32) × (Nat → Int32) × (Nat → Int32) × (Nat → Int32) × (Nat → Int32) × (Nat → Int32) × (Nat → Int32)) × ((Nat → Int32)) × ((Nat → Int32)) × ((Nat → Int32) × (Nat → Int32)))) (hk109 : ∀ (gth : Int32) (gvm : Int32 × Int32 × Int32 × (Nat → Int32) × (Nat → Int32) × (Nat → Int32) × (Nat → Int32) × (Nat → Int32) × (Nat → Int32) × (Nat → Int32) × (Nat → Int32) × (Nat → Int32)) (gla : (Nat → Int32)) (gne : (Nat → Int32)) (gsp : (Nat → Int32) × (Nat → Int32)) (x1 : Int32) (x2 : Int32) (x3 : Int32) (x4 : Int32) (x5 : Int32) (x6 : Int32) (x7 : Int32) (x8 : Int32) (H : Heap) (locs : List Loc) (ls : Array Slot), k109 gth gvm gla gne gsp x1 x2 x3 x4 x5 x6 x7 x8 = some R0 → va_P (dC, dI) vwCl (w_X13_safer cy a0 gth gvm gtd gfl grd gnv gac gla gne gsp grc gim) H → va_D A (w_X13_safer cy a0 gth gvm gtd gfl grd gnv gac gla gne gsp grc gim) → va_S A s.heap H locs → lv_has ls 10 [(0, .ref (a0 0)), (1, .int x1), (2, .int x2), (3, .int x3), (4, .int x4), (5, .int x5), (6, .int x6), (7, .int x7), (8, .int x8)] → W p l e rm_X13_safer s m aa below meth c H locs 0 0 (MQ below qq aa s 0 0 A) (F0 m 109 ls [])), ∀ (gth : Int32) (gvm : Int32 × Int32 × Int32 × (Nat → Int32) × (Nat → Int32) × (Nat → Int32) × (Nat → Int32) × (Nat → Int32) × (Nat → Int32) × (Nat → Int32) × (Nat → Int32) × (Nat → Int32)) (gla : (Nat → Int32)) (gne : (Nat → Int32)) (gsp : (Nat → Int32) × (Nat → Int32)) (x1 : Int32) (x2 : Int32) (x3 : Int32) (x4 : Int32) (x5 : Int32) (x6 : Int32) (x7 : Int32) (x8 : Int32) (t0 : Int32) (H : Heap) (locs : List Loc) (ls : Array Slot), p_X13_safer_199 k89 k99 k109 gth gvm gla gne gsp x1 x2 x3 x4 x5 x6 x7 x8 t0 = some R0 → va_P (dC, dI) vwCl (w_X13_safer cy a0 gth gvm gtd gfl grd gnv gac gla gne gsp grc gim) H → va_D A (w_X13_safer cy a0 gth gvm gtd gfl grd gnv gac gla gne gsp grc gim) → va_S A s.heap H locs → lv_has ls 10 [(0, .ref (a0 0)), (1, .int x1), (2, .int x2), (3, .int x3), (4, .int x4), (5, .int x5), (6, .int x6), (7, .int x7), (8, .int x8)] → W p l e rm_X13_safer s m aa below meth c H locs 0 0 (MQ below qq aa s 0 0 A) (F0 m 199 ls [.int t0]) := by
    intro k89 hk89 k99 hk99 k109 hk109 gth gvm gla gne gsp x1 x2 x3 x4 x5 x6 x7 x8 t0 H locs ls h hP hD hS hl
    unfold p_X13_safer_199 at h
    refine lv_istore (lv' := [(9, .int t0), (0, .ref (a0 0)), (1, .int x1), (2, .int x2), (3, .int x3), (4, .int x4), (5, .int x5), (6, .int x6), (7, .int x7), (8, .int x8)]) hx hb dX13_safer_199 hl (by decide) rfl (fun ls hl => ?_)
    refine lv_iload hx hb dX13_safer_201 (lv_at hl 0 rfl) ?_
    refine lv_if_ne (tgt := 209) hx hb dX13_safer_203 (by decide) (fun c1 => ?_) (fun c1 => ?_)
    · rw [if_neg c1] at h
      refine lv_iinc (v := (x4 + (1 : Int32))) (lv' := [(4, .int (x4 + (1 : Int32))), (9, .int t0), (0, .ref (a0 0)), (1, .int x1), (2, .int x2), (3, .int x3), (5, .int x5), (6, .int x6), (7, .int x7), (8, .int x8)]) hx hb dX13_safer_209 hl (k := 5) rfl rfl (by decide) rfl (fun ls hl => ?_)
      refine lv_iload hx hb dX13_safer_212 (lv_at hl 6 rfl) ?_
      refine lv_iconst (v := (-1 : Int32)) hx hb dX13_safer_214 (by decide) ?_
      refine lv_icmp_ne (tgt := 251) hx hb dX13_safer_215 (by decide) (fun c2 => ?_) (fun c2 => ?_)
      · rw [if_neg c2] at h
        exact c251 k89 hk89 k99 hk99 k109 hk109 gth gvm gla gne gsp x1 x2 x3 (x4 + (1 : Int32)) x5 x6 x7 x8 H locs ls h hP hD hS (lv_sub hl [2, 3, 4, 5, 0, 6, 7, 8, 9] rfl)
      · rw [if_pos c2] at h
        refine lv_iload_n hx hb dX13_safer_218 rfl (lv_at hl 5 rfl) ?_
        refine lv_iconst (v := (2 : Int32)) hx hb dX13_safer_219 (by decide) ?_
        refine lv_icmp_ge (tgt := 234) hx hb dX13_safer_220 (by decide) (fun c3 => ?_) (fun c3 => ?_)
        · rw [if_pos c3] at h
          refine lv_sipush (v := (256 : Int32)) hx hb dX13_safer_234 (by decide) ?_
          refine lv_iload hx hb dX13_safer_237 (lv_at hl 7 rfl) ?_
          refine lv_imul hx hb dX13_safer_239 ?_
          refine lv_bipush (v := (16 : Int32)) hx hb dX13_safer_240 (by decide) ?_
          refine lv_iload hx hb dX13_safer_242 (lv_at hl 8 rfl) ?_
          refine lv_imul hx hb dX13_safer_244 ?_
          refine lv_iadd hx hb dX13_safer_245 ?_
          refine lv_iload hx hb dX13_safer_246 (lv_at hl 9 rfl) ?_
          refine lv_iadd hx hb dX13_safer_248 ?_
          exact c249 k89 hk89 k99 hk99 k109 hk109 gth gvm gla gne gsp x1 x2 x3 (x4 + (1 : Int32)) x6 x7 x8 ((((256 : Int32) * x6) + ((16 : Int32) * x7)) + x8) H locs ls h hP hD hS (lv_sub hl [2, 3, 4, 5, 0, 7, 8, 9] rfl)
        · rw [if_neg c3] at h
          refine lv_bipush (v := (16 : Int32)) hx hb dX13_safer_223 (by decide) ?_
          refine lv_iload hx hb dX13_safer_225 (lv_at hl 7 rfl) ?_
          refine lv_imul hx hb dX13_safer_227 ?_
          refine lv_iload hx hb dX13_safer_228 (lv_at hl 8 rfl) ?_
          refine lv_iadd hx hb dX13_safer_230 ?_
          refine lv_goto (tgt := 249) hx hb dX13_safer_231 (by decide) ?_
          exact c249 k89 hk89 k99 hk99 k109 hk109 gth gvm gla gne gsp x1 x2 x3 (x4 + (1 : Int32)) x6 x7 x8 (((16 : Int32) * x6) + x7) H locs ls h hP hD hS (lv_sub hl [2, 3, 4, 5, 0, 7, 8, 9] rfl)
    · rw [if_pos c1] at h
      refine lv_goto (tgt := 251) hx hb dX13_safer_206 (by decide) ?_
      exact c251 k89 hk89 k99 hk99 k109 hk109 gth gvm gla gne gsp x1 x2 x3 x4 x5 x6 x7 x8 H locs ls h hP hD hS (lv_sub hl [1, 2, 3, 4, 5, 6, 7, 8, 9] rfl)
  have c198 : ∀ (k89 : (Int32) → (Int32 × Int32 × Int32 × (Nat → Int32) × (Nat → Int32) × (Nat → Int32) × (Nat → Int32) × (Nat → Int32) × (Nat → Int32) × (Nat → Int32) × (Nat → Int32) × (Nat → Int32)) → ((Nat → Int32)) → ((Nat → Int32)) → ((Nat → Int32) × (Nat → Int32)) → Int32 → Int32 → Int32 → Int32 → Int32 → Int32 → Option (Int32 × (Int32) × (Int32 × Int32 × Int32 × (Nat → Int32) × (Nat → Int32) × (Nat → Int32) × (Nat → Int32) × (Nat → Int32) × (Nat → Int32) × (Nat → Int32) × (Nat → Int32) × (Nat → Int32)) × ((Nat → Int32)) × ((Nat → Int32)) × ((Nat → Int32) × (Nat → Int32)))) (hk89 : ∀ (gth : Int32) (gvm : Int32 × Int32 × Int32 × (Nat → Int32) × (Nat → Int32) × (Nat → Int32) × (Nat → Int32) × (Nat → Int32) × (Nat → Int32) × (Nat → Int32) × (Nat → Int32) × (Nat → Int32)) (gla : (Nat → Int32)) (gne : (Nat → Int32)) (gsp : (Nat → Int32) × (Nat → Int32)) (x1 : Int32) (x2 : Int32) (x3 : Int32) (x4 : Int32) (x5 : Int32) (x6 : Int32) (H : Heap) (locs : List Loc) (ls : Array Slot), k89 gth gvm gla gne gsp x1 x2 x3 x4 x5 x6 = some R0 → va_P (dC, dI) vwCl (w_X13_safer cy a0 gth gvm gtd gfl grd gnv gac gla gne gsp grc gim) H → va_D A (w_X13_safer cy a0 gth gvm gtd gfl grd gnv gac gla gne gsp grc gim) → va_S A s.heap H locs → lv_has ls 10 [(0, .ref (a0 0)), (1, .int x1), (2, .int x2), (3, .int x3), (4, .int x4), (5, .int x5), (6, .int x6)] → W p l e rm_X13_safer s m aa below meth c H locs 0 0 (MQ below qq aa s 0 0 A) (F0 m 89 ls [])) (k99 : (Int32) → (Int32 × Int32 × Int32 × (Nat → Int32) × (Nat → Int32) × (Nat → Int32) × (Nat → Int32) × (Nat → Int32) × (Nat → Int32) × (Nat → Int32) × (Nat → Int32) × (Nat → Int32)) → ((Nat → Int32)) → ((Nat → Int32)) → ((Nat → Int32) × (Nat → Int32)) → Int32 → Int32 → Int32 → Int32 → Int32 → Int32 → Int32 → Option (Int32 × (Int32) × (Int32 × Int32 × Int32 × (Nat → Int32) × (Nat → Int32) × (Nat → Int32) × (Nat → Int32) × (Nat → Int32) × (Nat → Int32) × (Nat → Int32) × (Nat → Int32) × (Nat → Int32)) × ((Nat → Int32)) × ((Nat → Int32)) × ((Nat → Int32) × (Nat → Int32)))) (hk99 : ∀ (gth : Int32) (gvm : Int32 × Int32 × Int32 × (Nat → Int32) × (Nat → Int32) × (Nat → Int32) × (Nat → Int32) × (Nat → Int32) × (Nat → Int32) × (Nat → Int32) × (Nat → Int32) × (Nat → Int32)) (gla : (Nat → Int32)) (gne : (Nat → Int32)) (gsp : (Nat → Int32) × (Nat → Int32)) (x1 : Int32) (x2 : Int32) (x3 : Int32) (x4 : Int32) (x5 : Int32) (x6 : Int32) (x7 : Int32) (H : Heap) (locs : List Loc) (ls : Array Slot), k99 gth gvm gla gne gsp x1 x2 x3 x4 x5 x6 x7 = some R0 → va_P (dC, dI) vwCl (w_X13_safer cy a0 gth gvm gtd gfl grd gnv gac gla gne gsp grc gim) H → va_D A (w_X13_safer cy a0 gth gvm gtd gfl grd gnv gac gla gne gsp grc gim) → va_S A s.heap H locs → lv_has ls 10 [(0, .ref (a0 0)), (1, .int x1), (2, .int x2), (3, .int x3), (4, .int x4), (5, .int x5), (6, .int x6), (7, .int x7)] → W p l e rm_X13_safer s m aa below meth c H locs 0 0 (MQ below qq aa s 0 0 A) (F0 m 99 ls [])) (k109 : (Int32) → (Int32 × Int32 × Int32 × (Nat → Int32) × (Nat → Int32) × (Nat → Int32) × (Nat → Int32) × (Nat → Int32) × (Nat → Int32) × (Nat → Int32) × (Nat → Int32) × (Nat → Int32)) → ((Nat → Int32)) → ((Nat → Int32)) → ((Nat → Int32) × (Nat → Int32)) → Int32 → Int32 → Int32 → Int32 → Int32 → Int32 → Int32 → Int32 → Option (Int32 × (Int32) × (Int32 × Int32 × Int32 × (Nat → Int32) × (Nat → Int32) × (Nat → Int32) × (Nat → Int32) × (Nat → Int32) × (Nat → Int32) × (Nat → Int32) × (Nat → Int32) × (Nat → Int32)) × ((Nat → Int32)) × ((Nat → Int32)) × ((Nat → Int32) × (Nat → Int32)))) (hk109 : ∀ (gth : Int32) (gvm : Int32 × Int32 × Int32 × (Nat → Int32) × (Nat → Int32) × (Nat → Int32) × (Nat → Int32) × (Nat → Int32) × (Nat → Int32) × (Nat → Int32) × (Nat → Int32) × (Nat → Int32)) (gla : (Nat → Int32)) (gne : (Nat → Int32)) (gsp : (Nat → Int32) × (Nat → Int32)) (x1 : Int32) (x2 : Int32) (x3 : Int32) (x4 : Int32) (x5 : Int32) (x6 : Int32) (x7 : Int32) (x8 : Int32) (H : Heap) (locs : List Loc) (ls : Array Slot), k109 gth gvm gla gne gsp x1 x2 x3 x4 x5 x6 x7 x8 = some R0 → va_P (dC, dI) vwCl (w_X13_safer cy a0 gth gvm gtd gfl grd gnv gac gla gne gsp grc gim) H → va_D A (w_X13_safer cy a0 gth gvm gtd gfl grd gnv gac gla gne gsp grc gim) → va_S A s.heap H locs → lv_has ls 10 [(0, .ref (a0 0)), (1, .int x1), (2, .int x2), (3, .int x3), (4, .int x4), (5, .int x5), (6, .int x6), (7, .int x7), (8, .int x8)] → W p l e rm_X13_safer s m aa below meth c H locs 0 0 (MQ below qq aa s 0 0 A) (F0 m 109 ls [])), ∀ (gth : Int32) (gvm : Int32 × Int32 × Int32 × (Nat → Int32) × (Nat → Int32) × (Nat → Int32) × (Nat → Int32) × (Nat → Int32) × (Nat → Int32) × (Nat → Int32) × (Nat → Int32) × (Nat → Int32)) (gla : (Nat → Int32)) (gne : (Nat → Int32)) (gsp : (Nat → Int32) × (Nat → Int32)) (x1 : Int32) (x2 : Int32) (x3 : Int32) (x4 : Int32) (x5 : Int32) (x6 : Int32) (x7 : Int32) (x8 : Int32) (H : Heap) (locs : List Loc) (ls : Array Slot), p_X13_safer_198 k89 k99 k109 gth gvm gla gne gsp x1 x2 x3 x4 x5 x6 x7 x8 = some R0 → va_P (dC, dI) vwCl (w_X13_safer cy a0 gth gvm gtd gfl grd gnv gac gla gne gsp grc gim) H → va_D A (w_X13_safer cy a0 gth gvm gtd gfl grd gnv gac gla gne gsp grc gim) → va_S A s.heap H locs → lv_has ls 10 [(0, .ref (a0 0)), (1, .int x1), (2, .int x2), (3, .int x3), (4, .int x4), (5, .int x5), (6, .int x6), (7, .int x7), (8, .int x8)] → W p l e rm_X13_safer s m aa below meth c H locs 0 0 (MQ below qq aa s 0 0 A) (F0 m 198 ls []) := by
    intro k89 hk89 k99 hk99 k109 hk109 gth gvm gla gne gsp x1 x2 x3 x4 x5 x6 x7 x8 H locs ls h hP hD hS hl
    unfold p_X13_safer_198 at h
    refine lv_iconst (v := (0 : Int32)) hx hb dX13_safer_198 (by decide) ?_
    exact c199 k89 hk89 k99 hk99 k109 hk109 gth gvm gla gne gsp x1 x2 x3 x4 x5 x6 x7 x8 (0 : Int32) H locs ls h hP hD hS (lv_sub hl [0, 1, 2, 3, 4, 5, 6, 7, 8] rfl)
  have c154 : ∀ (k89 : (Int32) → (Int32 × Int32 × Int32 × (Nat → Int32) × (Nat → Int32) × (Nat → Int32) × (Nat → Int32) × (Nat → Int32) × (Nat → Int32) × (Nat → Int32) × (Nat → Int32) × (Nat → Int32)) → ((Nat → Int32)) → ((Nat → Int32)) → ((Nat → Int32) × (Nat → Int32)) → Int32 → Int32 → Int32 → Int32 → Int32 → Int32 → Option (Int32 × (Int32) × (Int32 × Int32 × Int32 × (Nat → Int32) × (Nat → Int32) × (Nat → Int32) × (Nat → Int32) × (Nat → Int32) × (Nat → Int32) × (Nat → Int32) × (Nat → Int32) × (Nat → Int32)) × ((Nat → Int32)) × ((Nat → Int32)) × ((Nat → Int32) × (Nat → Int32)))) (hk89 : ∀ (gth : Int32) (gvm : Int32 × Int32 × Int32 × (Nat → Int32) × (Nat → Int32) × (Nat → Int32) × (Nat → Int32) × (Nat → Int32) × (Nat → Int32) × (Nat → Int32) × (Nat → Int32) × (Nat → Int32)) (gla : (Nat → Int32)) (gne : (Nat → Int32)) (gsp : (Nat → Int32) × (Nat → Int32)) (x1 : Int32) (x2 : Int32) (x3 : Int32) (x4 : Int32) (x5 : Int32) (x6 : Int32) (H : Heap) (locs : List Loc) (ls : Array Slot), k89 gth gvm gla gne gsp x1 x2 x3 x4 x5 x6 = some R0 → va_P (dC, dI) vwCl (w_X13_safer cy a0 gth gvm gtd gfl grd gnv gac gla gne gsp grc gim) H → va_D A (w_X13_safer cy a0 gth gvm gtd gfl grd gnv gac gla gne gsp grc gim) → va_S A s.heap H locs → lv_has ls 10 [(0, .ref (a0 0)), (1, .int x1), (2, .int x2), (3, .int x3), (4, .int x4), (5, .int x5), (6, .int x6)] → W p l e rm_X13_safer s m aa below meth c H locs 0 0 (MQ below qq aa s 0 0 A) (F0 m 89 ls [])) (k99 : (Int32) → (Int32 × Int32 × Int32 × (Nat → Int32) × (Nat → Int32) × (Nat → Int32) × (Nat → Int32) × (Nat → Int32) × (Nat → Int32) × (Nat → Int32) × (Nat → Int32) × (Nat → Int32)) → ((Nat → Int32)) → ((Nat → Int32)) → ((Nat → Int32) × (Nat → Int32)) → Int32 → Int32 → Int32 → Int32 → Int32 → Int32 → Int32 → Option (Int32 × (Int32) × (Int32 × Int32 × Int32 × (Nat → Int32) × (Nat → Int32) × (Nat → Int32) × (Nat → Int32) × (Nat → Int32) × (Nat → Int32) × (Nat → Int32) × (Nat → Int32) × (Nat → Int32)) × ((Nat → Int32)) × ((Nat → Int32)) × ((Nat → Int32) × (Nat → Int32)))) (hk99 : ∀ (gth : Int32) (gvm : Int32 × Int32 × Int32 × (Nat → Int32) × (Nat → Int32) × (Nat → Int32) × (Nat → Int32) × (Nat → Int32) × (Nat → Int32) × (Nat → Int32) × (Nat → Int32) × (Nat → Int32)) (gla : (Nat → Int32)) (gne : (Nat → Int32)) (gsp : (Nat → Int32) × (Nat → Int32)) (x1 : Int32) (x2 : Int32) (x3 : Int32) (x4 : Int32) (x5 : Int32) (x6 : Int32) (x7 : Int32) (H : Heap) (locs : List Loc) (ls : Array Slot), k99 gth gvm gla gne gsp x1 x2 x3 x4 x5 x6 x7 = some R0 → va_P (dC, dI) vwCl (w_X13_safer cy a0 gth gvm gtd gfl grd gnv gac gla gne gsp grc gim) H → va_D A (w_X13_safer cy a0 gth gvm gtd gfl grd gnv gac gla gne gsp grc gim) → va_S A s.heap H locs → lv_has ls 10 [(0, .ref (a0 0)), (1, .int x1), (2, .int x2), (3, .int x3), (4, .int x4), (5, .int x5), (6, .int x6), (7, .int x7)] → W p l e rm_X13_safer s m aa below meth c H locs 0 0 (MQ below qq aa s 0 0 A) (F0 m 99 ls [])) (k109 : (Int32) → (Int32 × Int32 × Int32 × (Nat → Int32) × (Nat → Int32) × (Nat → Int32) × (Nat → Int32) × (Nat → Int32) × (Nat → Int32) × (Nat → Int32) × (Nat → Int32) × (Nat → Int32)) → ((Nat → Int32)) → ((Nat → Int32)) → ((Nat → Int32) × (Nat → Int32)) → Int32 → Int32 → Int32 → Int32 → Int32 → Int32 → Int32 → Int32 → Option (Int32 × (Int32) × (Int32 × Int32 × Int32 × (Nat → Int32) × (Nat → Int32) × (Nat → Int32) × (Nat → Int32) × (Nat → Int32) × (Nat → Int32) × (Nat → Int32) × (Nat → Int32) × (Nat → Int32)) × ((Nat → Int32)) × ((Nat → Int32)) × ((Nat → Int32) × (Nat → Int32)))) (hk109 : ∀ (gth : Int32) (gvm : Int32 × Int32 × Int32 × (Nat → Int32) × (Nat → Int32) × (Nat → Int32) × (Nat → Int32) × (Nat → Int32) × (Nat → Int32) × (Nat → Int32) × (Nat → Int32) × (Nat → Int32)) (gla : (Nat → Int32)) (gne : (Nat → Int32)) (gsp : (Nat → Int32) × (Nat → Int32)) (x1 : Int32) (x2 : Int32) (x3 : Int32) (x4 : Int32) (x5 : Int32) (x6 : Int32) (x7 : Int32) (x8 : Int32) (H : Heap) (locs : List Loc) (ls : Array Slot), k109 gth gvm gla gne gsp x1 x2 x3 x4 x5 x6 x7 x8 = some R0 → va_P (dC, dI) vwCl (w_X13_safer cy a0 gth gvm gtd gfl grd gnv gac gla gne gsp grc gim) H → va_D A (w_X13_safer cy a0 gth gvm gtd gfl grd gnv gac gla gne gsp grc gim) → va_S A s.heap H locs → lv_has ls 10 [(0, .ref (a0 0)), (1, .int x1), (2, .int x2), (3, .int x3), (4, .int x4), (5, .int x5), (6, .int x6), (7, .int x7), (8, .int x8)] → W p l e rm_X13_safer s m aa below meth c H locs 0 0 (MQ below qq aa s 0 0 A) (F0 m 109 ls [])), ∀ (gth : Int32) (gvm : Int32 × Int32 × Int32 × (Nat → Int32) × (Nat → Int32) × (Nat → Int32) × (Nat → Int32) × (Nat → Int32) × (Nat → Int32) × (Nat → Int32) × (Nat → Int32) × (Nat → Int32)) (gla : (Nat → Int32)) (gne : (Nat → Int32)) (gsp : (Nat → Int32) × (Nat → Int32)) (x1 : Int32) (x2 : Int32) (x3 : Int32) (x4 : Int32) (x5 : Int32) (x6 : Int32) (x7 : Int32) (x8 : Int32) (H : Heap) (locs : List Loc) (ls : Array Slot), p_X13_safer_154 k89 k99 k109 gth gvm gla gne gsp x1 x2 x3 x4 x5 x6 x7 x8 = some R0 → va_P (dC, dI) vwCl (w_X13_safer cy a0 gth gvm gtd gfl grd gnv gac gla gne gsp grc gim) H → va_D A (w_X13_safer cy a0 gth gvm gtd gfl grd gnv gac gla gne gsp grc gim) → va_S A s.heap H locs → lv_has ls 10 [(0, .ref (a0 0)), (1, .int x1), (2, .int x2), (3, .int x3), (4, .int x4), (5, .int x5), (6, .int x6), (7, .int x7), (8, .int x8)] → W p l e rm_X13_safer s m aa below meth c H locs 0 0 (MQ below qq aa s 0 0 A) (F0 m 154 ls []) := by
    intro k89 hk89 k99 hk99 k109 hk109 gth gvm gla gne gsp x1 x2 x3 x4 x5 x6 x7 x8 H locs ls h hP hD hS hl
    unfold p_X13_safer_154 at h
    refine lv_iconst (v := (0 : Int32)) hx hb dX13_safer_154 (by decide) ?_
    refine lv_goto (tgt := 199) hx hb dX13_safer_155 (by decide) ?_
    exact c199 k89 hk89 k99 hk99 k109 hk109 gth gvm gla gne gsp x1 x2 x3 x4 x5 x6 x7 x8 (0 : Int32) H locs ls h hP hD hS (lv_sub hl [0, 1, 2, 3, 4, 5, 6, 7, 8] rfl)
  have c122 : ∀ (k89 : (Int32) → (Int32 × Int32 × Int32 × (Nat → Int32) × (Nat → Int32) × (Nat → Int32) × (Nat → Int32) × (Nat → Int32) × (Nat → Int32) × (Nat → Int32) × (Nat → Int32) × (Nat → Int32)) → ((Nat → Int32)) → ((Nat → Int32)) → ((Nat → Int32) × (Nat → Int32)) → Int32 → Int32 → Int32 → Int32 → Int32 → Int32 → Option (Int32 × (Int32) × (Int32 × Int32 × Int32 × (Nat → Int32) × (Nat → Int32) × (Nat → Int32) × (Nat → Int32) × (Nat → Int32) × (Nat → Int32) × (Nat → Int32) × (Nat → Int32) × (Nat → Int32)) × ((Nat → Int32)) × ((Nat → Int32)) × ((Nat → Int32) × (Nat → Int32)))) (hk89 : ∀ (gth : Int32) (gvm : Int32 × Int32 × Int32 × (Nat → Int32) × (Nat → Int32) × (Nat → Int32) × (Nat → Int32) × (Nat → Int32) × (Nat → Int32) × (Nat → Int32) × (Nat → Int32) × (Nat → Int32)) (gla : (Nat → Int32)) (gne : (Nat → Int32)) (gsp : (Nat → Int32) × (Nat → Int32)) (x1 : Int32) (x2 : Int32) (x3 : Int32) (x4 : Int32) (x5 : Int32) (x6 : Int32) (H : Heap) (locs : List Loc) (ls : Array Slot), k89 gth gvm gla gne gsp x1 x2 x3 x4 x5 x6 = some R0 → va_P (dC, dI) vwCl (w_X13_safer cy a0 gth gvm gtd gfl grd gnv gac gla gne gsp grc gim) H → va_D A (w_X13_safer cy a0 gth gvm gtd gfl grd gnv gac gla gne gsp grc gim) → va_S A s.heap H locs → lv_has ls 10 [(0, .ref (a0 0)), (1, .int x1), (2, .int x2), (3, .int x3), (4, .int x4), (5, .int x5), (6, .int x6)] → W p l e rm_X13_safer s m aa below meth c H locs 0 0 (MQ below qq aa s 0 0 A) (F0 m 89 ls [])) (k99 : (Int32) → (Int32 × Int32 × Int32 × (Nat → Int32) × (Nat → Int32) × (Nat → Int32) × (Nat → Int32) × (Nat → Int32) × (Nat → Int32) × (Nat → Int32) × (Nat → Int32) × (Nat → Int32)) → ((Nat → Int32)) → ((Nat → Int32)) → ((Nat → Int32) × (Nat → Int32)) → Int32 → Int32 → Int32 → Int32 → Int32 → Int32 → Int32 → Option (Int32 × (Int32) × (Int32 × Int32 × Int32 × (Nat → Int32) × (Nat → Int32) × (Nat → Int32) × (Nat → Int32) × (Nat → Int32) × (Nat → Int32) × (Nat → Int32) × (Nat → Int32) × (Nat → Int32)) × ((Nat → Int32)) × ((Nat → Int32)) × ((Nat → Int32) × (Nat → Int32)))) (hk99 : ∀ (gth : Int32) (gvm : Int32 × Int32 × Int32 × (Nat → Int32) × (Nat → Int32) × (Nat → Int32) × (Nat → Int32) × (Nat → Int32) × (Nat → Int32) × (Nat → Int32) × (Nat → Int32) × (Nat → Int32)) (gla : (Nat → Int32)) (gne : (Nat → Int32)) (gsp : (Nat → Int32) × (Nat → Int32)) (x1 : Int32) (x2 : Int32) (x3 : Int32) (x4 : Int32) (x5 : Int32) (x6 : Int32) (x7 : Int32) (H : Heap) (locs : List Loc) (ls : Array Slot), k99 gth gvm gla gne gsp x1 x2 x3 x4 x5 x6 x7 = some R0 → va_P (dC, dI) vwCl (w_X13_safer cy a0 gth gvm gtd gfl grd gnv gac gla gne gsp grc gim) H → va_D A (w_X13_safer cy a0 gth gvm gtd gfl grd gnv gac gla gne gsp grc gim) → va_S A s.heap H locs → lv_has ls 10 [(0, .ref (a0 0)), (1, .int x1), (2, .int x2), (3, .int x3), (4, .int x4), (5, .int x5), (6, .int x6), (7, .int x7)] → W p l e rm_X13_safer s m aa below meth c H locs 0 0 (MQ below qq aa s 0 0 A) (F0 m 99 ls [])) (k109 : (Int32) → (Int32 × Int32 × Int32 × (Nat → Int32) × (Nat → Int32) × (Nat → Int32) × (Nat → Int32) × (Nat → Int32) × (Nat → Int32) × (Nat → Int32) × (Nat → Int32) × (Nat → Int32)) → ((Nat → Int32)) → ((Nat → Int32)) → ((Nat → Int32) × (Nat → Int32)) → Int32 → Int32 → Int32 → Int32 → Int32 → Int32 → Int32 → Int32 → Option (Int32 × (Int32) × (Int32 × Int32 × Int32 × (Nat → Int32) × (Nat → Int32) × (Nat → Int32) × (Nat → Int32) × (Nat → Int32) × (Nat → Int32) × (Nat → Int32) × (Nat → Int32) × (Nat → Int32)) × ((Nat → Int32)) × ((Nat → Int32)) × ((Nat → Int32) × (Nat → Int32)))) (hk109 : ∀ (gth : Int32) (gvm : Int32 × Int32 × Int32 × (Nat → Int32) × (Nat → Int32) × (Nat → Int32) × (Nat → Int32) × (Nat → Int32) × (Nat → Int32) × (Nat → Int32) × (Nat → Int32) × (Nat → Int32)) (gla : (Nat → Int32)) (gne : (Nat → Int32)) (gsp : (Nat → Int32) × (Nat → Int32)) (x1 : Int32) (x2 : Int32) (x3 : Int32) (x4 : Int32) (x5 : Int32) (x6 : Int32) (x7 : Int32) (x8 : Int32) (H : Heap) (locs : List Loc) (ls : Array Slot), k109 gth gvm gla gne gsp x1 x2 x3 x4 x5 x6 x7 x8 = some R0 → va_P (dC, dI) vwCl (w_X13_safer cy a0 gth gvm gtd gfl grd gnv gac gla gne gsp grc gim) H → va_D A (w_X13_safer cy a0 gth gvm gtd gfl grd gnv gac gla gne gsp grc gim) → va_S A s.heap H locs → lv_has ls 10 [(0, .ref (a0 0)), (1, .int x1), (2, .int x2), (3, .int x3), (4, .int x4), (5, .int x5), (6, .int x6), (7, .int x7), (8, .int x8)] → W p l e rm_X13_safer s m aa below meth c H locs 0 0 (MQ below qq aa s 0 0 A) (F0 m 109 ls [])), ∀ (gth : Int32) (gvm : Int32 × Int32 × Int32 × (Nat → Int32) × (Nat → Int32) × (Nat → Int32) × (Nat → Int32) × (Nat → Int32) × (Nat → Int32) × (Nat → Int32) × (Nat → Int32) × (Nat → Int32)) (gla : (Nat → Int32)) (gne : (Nat → Int32)) (gsp : (Nat → Int32) × (Nat → Int32)) (x1 : Int32) (x2 : Int32) (x3 : Int32) (x4 : Int32) (x5 : Int32) (x6 : Int32) (x7 : Int32) (x8 : Int32) (t0 : Int32) (t1 : Int32) (H : Heap) (locs : List Loc) (ls : Array Slot), p_X13_safer_122 k89 k99 k109 gth gvm gla gne gsp x1 x2 x3 x4 x5 x6 x7 x8 t0 t1 = some R0 → va_P (dC, dI) vwCl (w_X13_safer cy a0 gth gvm gtd gfl grd gnv gac gla gne gsp grc gim) H → va_D A (w_X13_safer cy a0 gth gvm gtd gfl grd gnv gac gla gne gsp grc gim) → va_S A s.heap H locs → lv_has ls 10 [(0, .ref (a0 0)), (1, .int x1), (2, .int x2), (3, .int x3), (4, .int x4), (5, .int x5), (6, .int x6), (7, .int x7), (8, .int x8)] → W p l e rm_X13_safer s m aa below meth c H locs 0 0 (MQ below qq aa s 0 0 A) (F0 m 122 ls [.int t1, .int t0]) := by
    intro k89 hk89 k99 hk99 k109 hk109 gth gvm gla gne gsp x1 x2 x3 x4 x5 x6 x7 x8 t0 t1 H locs ls h hP hD hS hl
    unfold p_X13_safer_122 at h
    refine lv_icmp_ge (tgt := 257) hx hb dX13_safer_122 (by decide) (fun c1 => ?_) (fun c1 => ?_)
    · rw [if_pos c1] at h
      refine lv_iinc (v := (x7 + (1 : Int32))) (lv' := [(7, .int (x7 + (1 : Int32))), (0, .ref (a0 0)), (1, .int x1), (2, .int x2), (3, .int x3), (4, .int x4), (5, .int x5), (6, .int x6), (8, .int x8)]) hx hb dX13_safer_257 hl (k := 7) rfl rfl (by decide) rfl (fun ls hl => ?_)
      refine lv_goto (tgt := 99) hx hb dX13_safer_260 (by decide) ?_
      exact hk99 gth gvm gla gne gsp x1 x2 x3 x4 x5 x6 (x7 + (1 : Int32)) H locs ls h hP hD hS (lv_sub hl [1, 2, 3, 4, 5, 6, 7, 0] rfl)
    · rw [if_neg c1] at h
      refine lv_iload_n hx hb dX13_safer_125 rfl (lv_at hl 3 rfl) ?_
      refine lv_iconst (v := (2 : Int32)) hx hb dX13_safer_126 (by decide) ?_
      refine lv_icmp_ge (tgt := 158) hx hb dX13_safer_127 (by decide) (fun c2 => ?_) (fun c2 => ?_)
      · rw [if_pos c2] at h
        refine lv_iload hx hb dX13_safer_158 (lv_at hl 6 rfl) ?_
        refine lv_iload hx hb dX13_safer_160 (lv_at hl 7 rfl) ?_
        refine lv_icmp_ge (tgt := 198) hx hb dX13_safer_162 (by decide) (fun c3 => ?_) (fun c3 => ?_)
        · rw [if_pos c3] at h
          exact c198 k89 hk89 k99 hk99 k109 hk109 gth gvm gla gne gsp x1 x2 x3 x4 x5 x6 x7 x8 H locs ls h hP hD hS (lv_sub hl [0, 1, 2, 3, 4, 5, 6, 7, 8] rfl)
        · rw [if_neg c3] at h
          refine lv_iload hx hb dX13_safer_165 (lv_at hl 6 rfl) ?_
          refine lv_iload hx hb dX13_safer_167 (lv_at hl 8 rfl) ?_
          refine lv_icmp_ge (tgt := 198) hx hb dX13_safer_169 (by decide) (fun c4 => ?_) (fun c4 => ?_)
          · rw [if_pos c4] at h
            exact c198 k89 hk89 k99 hk99 k109 hk109 gth gvm gla gne gsp x1 x2 x3 x4 x5 x6 x7 x8 H locs ls h hP hD hS (lv_sub hl [0, 1, 2, 3, 4, 5, 6, 7, 8] rfl)
          · rw [if_neg c4] at h
            refine lv_iload hx hb dX13_safer_172 (lv_at hl 7 rfl) ?_
            refine lv_iload hx hb dX13_safer_174 (lv_at hl 8 rfl) ?_
            refine lv_icmp_eq (tgt := 198) hx hb dX13_safer_176 (by decide) (fun c5 => ?_) (fun c5 => ?_)
            · rw [if_pos c5] at h
              exact c198 k89 hk89 k99 hk99 k109 hk109 gth gvm gla gne gsp x1 x2 x3 x4 x5 x6 x7 x8 H locs ls h hP hD hS (lv_sub hl [0, 1, 2, 3, 4, 5, 6, 7, 8] rfl)
            · rw [if_neg c5] at h
              refine lv_aload_n hx hb dX13_safer_179 rfl (lv_at hl 0 rfl) ?_
              refine lv_iload hx hb dX13_safer_180 (lv_at hl 6 rfl) ?_
              refine lv_iload hx hb dX13_safer_182 (lv_at hl 7 rfl) ?_
              refine lv_iload hx hb dX13_safer_184 (lv_at hl 8 rfl) ?_
              refine lv_iload_n hx hb dX13_safer_186 rfl (lv_at hl 1 rfl) ?_
              refine lv_iload_n hx hb dX13_safer_187 rfl (lv_at hl 2 rfl) ?_
              obtain ⟨v6, hv7, h⟩ := ok_bind h
              refine cl_vi (w2 := fun (u : (Int32 × Int32 × Int32 × (Nat → Int32) × (Nat → Int32) × (Nat → Int32) × (Nat → Int32) × (Nat → Int32) × (Nat → Int32) × (Nat → Int32) × (Nat → Int32) × (Nat → Int32)) × ((Nat → Int32))) => w_X13_safer cy a0 gth u.1 gtd gfl grd gnv gac gla u.2 gsp grc gim) (As := [.int x6, .int x7, .int x8, .int x1, .int x2]) (rest := []) ⟨hx, hb, hml, hown, hts⟩ (c_X13_saferThree l dC dI cy a0 gth gvm gtd gfl grd gnv gac gla gne gsp grc gim x6 x7 x8 x1 x2 H.size v6 hv7) (cwV 5 hts gX13_safer_X13_saferThree rfl rfl rfl (by decide +kernel) ⟨Nat.le_of_ble_eq_true rfl, Nat.le_of_ble_eq_true rfl⟩) (va_recv hK hP (ci := 11) (q0 := 0) rfl rfl) cl_blind (cl_pre hK hP hD [0, 1, 2, 3, 4, 5, 6, 7, 8, 9, 10, 11, 12, 13] (by decide) rfl) hP hD hS hA [0, 1, 2, 3, 4, 5, 6, 7, 8, 9, 10, 11, 12, 13] rfl rfl hl.1 rfl (lv_room (Nat.le_of_ble_eq_true rfl)) dX13_safer_188 ⟨Nat.le_of_ble_eq_true rfl, Nat.le_of_ble_eq_true rfl⟩ ⟨rfl, rfl⟩ (fun _ => updM [0, 1, 2, 3, 4, 5, 6, 7, 8, 9, 10, 11, 12, 13] [] [] 14 rfl rfl rfl rfl rfl (by decide +kernel) (by decide +kernel) rfl) (fun r u H locs hw hP hD hS => ?_)
              obtain ⟨rfl, rfl⟩ := hw
              have hP : va_P (dC, dI) vwCl (w_X13_safer cy a0 gth v6.2.1 gtd gfl grd gnv gac gla v6.2.2 gsp grc gim) H := hP
              have hD : va_D A (w_X13_safer cy a0 gth v6.2.1 gtd gfl grd gnv gac gla v6.2.2 gsp grc gim) := hD
              refine lv_if_eq (tgt := 198) hx hb dX13_safer_191 (by decide) (fun c8 => ?_) (fun c8 => ?_)
              · rw [if_pos c8] at h
                exact c198 k89 hk89 k99 hk99 k109 hk109 gth v6.2.1 gla v6.2.2 gsp x1 x2 x3 x4 x5 x6 x7 x8 H locs ls h hP hD hS (lv_sub hl [0, 1, 2, 3, 4, 5, 6, 7, 8] rfl)
              · rw [if_neg c8] at h
                refine lv_iconst (v := (1 : Int32)) hx hb dX13_safer_194 (by decide) ?_
                refine lv_goto (tgt := 199) hx hb dX13_safer_195 (by decide) ?_
                exact c199 k89 hk89 k99 hk99 k109 hk109 gth v6.2.1 gla v6.2.2 gsp x1 x2 x3 x4 x5 x6 x7 x8 (1 : Int32) H locs ls h hP hD hS (lv_sub hl [0, 1, 2, 3, 4, 5, 6, 7, 8] rfl)
      · rw [if_neg c2] at h
        refine lv_iload hx hb dX13_safer_130 (lv_at hl 6 rfl) ?_
        refine lv_iload hx hb dX13_safer_132 (lv_at hl 7 rfl) ?_
        refine lv_icmp_ge (tgt := 154) hx hb dX13_safer_134 (by decide) (fun c9 => ?_) (fun c9 => ?_)
        · rw [if_pos c9] at h
          exact c154 k89 hk89 k99 hk99 k109 hk109 gth gvm gla gne gsp x1 x2 x3 x4 x5 x6 x7 x8 H locs ls h hP hD hS (lv_sub hl [0, 1, 2, 3, 4, 5, 6, 7, 8] rfl)
        · rw [if_neg c9] at h
          refine lv_aload_n hx hb dX13_safer_137 rfl (lv_at hl 0 rfl) ?_
          refine lv_iload hx hb dX13_safer_138 (lv_at hl 6 rfl) ?_
          refine lv_iload hx hb dX13_safer_140 (lv_at hl 7 rfl) ?_
          refine lv_iload_n hx hb dX13_safer_142 rfl (lv_at hl 1 rfl) ?_
          refine lv_iload_n hx hb dX13_safer_143 rfl (lv_at hl 2 rfl) ?_
          obtain ⟨v10, hv11, h⟩ := ok_bind h
          refine cl_vi (w2 := fun (u : (Int32 × Int32 × Int32 × (Nat → Int32) × (Nat → Int32) × (Nat → Int32) × (Nat → Int32) × (Nat → Int32) × (Nat → Int32) × (Nat → Int32) × (Nat → Int32) × (Nat → Int32)) × ((Nat → Int32))) => w_X13_safer cy a0 gth u.1 gtd gfl grd gnv gac gla u.2 gsp grc gim) (As := [.int x6, .int x7, .int x1, .int x2]) (rest := []) ⟨hx, hb, hml, hown, hts⟩ (c_X13_saferTwo l dC dI cy a0 gth gvm gtd gfl grd gnv gac gla gne gsp grc gim x6 x7 x1 x2 H.size v10 hv11) (cwV 4 hts gX13_safer_X13_saferTwo rfl rfl rfl (by decide +kernel) ⟨Nat.le_of_ble_eq_true rfl, Nat.le_of_ble_eq_true rfl⟩) (va_recv hK hP (ci := 11) (q0 := 0) rfl rfl) cl_blind (cl_pre hK hP hD [0, 1, 2, 3, 4, 5, 6, 7, 8, 9, 10, 11, 12, 13] (by decide) rfl) hP hD hS hA [0, 1, 2, 3, 4, 5, 6, 7, 8, 9, 10, 11, 12, 13] rfl rfl hl.1 rfl (lv_room (Nat.le_of_ble_eq_true rfl)) dX13_safer_144 ⟨Nat.le_of_ble_eq_true rfl, Nat.le_of_ble_eq_true rfl⟩ ⟨rfl, rfl⟩ (fun _ => updM [0, 1, 2, 3, 4, 5, 6, 7, 8, 9, 10, 11, 12, 13] [] [] 14 rfl rfl rfl rfl rfl (by decide +kernel) (by decide +kernel) rfl) (fun r u H locs hw hP hD hS => ?_)
          obtain ⟨rfl, rfl⟩ := hw
          have hP : va_P (dC, dI) vwCl (w_X13_safer cy a0 gth v10.2.1 gtd gfl grd gnv gac gla v10.2.2 gsp grc gim) H := hP
          have hD : va_D A (w_X13_safer cy a0 gth v10.2.1 gtd gfl grd gnv gac gla v10.2.2 gsp grc gim) := hD
          refine lv_if_eq (tgt := 154) hx hb dX13_safer_147 (by decide) (fun c12 => ?_) (fun c12 => ?_)
          · rw [if_pos c12] at h
            exact c154 k89 hk89 k99 hk99 k109 hk109 gth v10.2.1 gla v10.2.2 gsp x1 x2 x3 x4 x5 x6 x7 x8 H locs ls h hP hD hS (lv_sub hl [0, 1, 2, 3, 4, 5, 6, 7, 8] rfl)
          · rw [if_neg c12] at h
            refine lv_iconst (v := (1 : Int32)) hx hb dX13_safer_150 (by decide) ?_
            refine lv_goto (tgt := 199) hx hb dX13_safer_151 (by decide) ?_
            exact c199 k89 hk89 k99 hk99 k109 hk109 gth v10.2.1 gla v10.2.2 gsp x1 x2 x3 x4 x5 x6 x7 x8 (1 : Int32) H locs ls h hP hD hS (lv_sub hl [0, 1, 2, 3, 4, 5, 6, 7, 8] rfl)
  have c109 : ∀ (k89 : (Int32) → (Int32 × Int32 × Int32 × (Nat → Int32) × (Nat → Int32) × (Nat → Int32) × (Nat → Int32) × (Nat → Int32) × (Nat → Int32) × (Nat → Int32) × (Nat → Int32) × (Nat → Int32)) → ((Nat → Int32)) → ((Nat → Int32)) → ((Nat → Int32) × (Nat → Int32)) → Int32 → Int32 → Int32 → Int32 → Int32 → Int32 → Option (Int32 × (Int32) × (Int32 × Int32 × Int32 × (Nat → Int32) × (Nat → Int32) × (Nat → Int32) × (Nat → Int32) × (Nat → Int32) × (Nat → Int32) × (Nat → Int32) × (Nat → Int32) × (Nat → Int32)) × ((Nat → Int32)) × ((Nat → Int32)) × ((Nat → Int32) × (Nat → Int32)))) (hk89 : ∀ (gth : Int32) (gvm : Int32 × Int32 × Int32 × (Nat → Int32) × (Nat → Int32) × (Nat → Int32) × (Nat → Int32) × (Nat → Int32) × (Nat → Int32) × (Nat → Int32) × (Nat → Int32) × (Nat → Int32)) (gla : (Nat → Int32)) (gne : (Nat → Int32)) (gsp : (Nat → Int32) × (Nat → Int32)) (x1 : Int32) (x2 : Int32) (x3 : Int32) (x4 : Int32) (x5 : Int32) (x6 : Int32) (H : Heap) (locs : List Loc) (ls : Array Slot), k89 gth gvm gla gne gsp x1 x2 x3 x4 x5 x6 = some R0 → va_P (dC, dI) vwCl (w_X13_safer cy a0 gth gvm gtd gfl grd gnv gac gla gne gsp grc gim) H → va_D A (w_X13_safer cy a0 gth gvm gtd gfl grd gnv gac gla gne gsp grc gim) → va_S A s.heap H locs → lv_has ls 10 [(0, .ref (a0 0)), (1, .int x1), (2, .int x2), (3, .int x3), (4, .int x4), (5, .int x5), (6, .int x6)] → W p l e rm_X13_safer s m aa below meth c H locs 0 0 (MQ below qq aa s 0 0 A) (F0 m 89 ls [])) (k99 : (Int32) → (Int32 × Int32 × Int32 × (Nat → Int32) × (Nat → Int32) × (Nat → Int32) × (Nat → Int32) × (Nat → Int32) × (Nat → Int32) × (Nat → Int32) × (Nat → Int32) × (Nat → Int32)) → ((Nat → Int32)) → ((Nat → Int32)) → ((Nat → Int32) × (Nat → Int32)) → Int32 → Int32 → Int32 → Int32 → Int32 → Int32 → Int32 → Option (Int32 × (Int32) × (Int32 × Int32 × Int32 × (Nat → Int32) × (Nat → Int32) × (Nat → Int32) × (Nat → Int32) × (Nat → Int32) × (Nat → Int32) × (Nat → Int32) × (Nat → Int32) × (Nat → Int32)) × ((Nat → Int32)) × ((Nat → Int32)) × ((Nat → Int32) × (Nat → Int32)))) (hk99 : ∀ (gth : Int32) (gvm : Int32 × Int32 × Int32 × (Nat → Int32) × (Nat → Int32) × (Nat → Int32) × (Nat → Int32) × (Nat → Int32) × (Nat → Int32) × (Nat → Int32) × (Nat → Int32) × (Nat → Int32)) (gla : (Nat → Int32)) (gne : (Nat → Int32)) (gsp : (Nat → Int32) × (Nat → Int32)) (x1 : Int32) (x2 : Int32) (x3 : Int32) (x4 : Int32) (x5 : Int32) (x6 : Int32) (x7 : Int32) (H : Heap) (locs : List Loc) (ls : Array Slot), k99 gth gvm gla gne gsp x1 x2 x3 x4 x5 x6 x7 = some R0 → va_P (dC, dI) vwCl (w_X13_safer cy a0 gth gvm gtd gfl grd gnv gac gla gne gsp grc gim) H → va_D A (w_X13_safer cy a0 gth gvm gtd gfl grd gnv gac gla gne gsp grc gim) → va_S A s.heap H locs → lv_has ls 10 [(0, .ref (a0 0)), (1, .int x1), (2, .int x2), (3, .int x3), (4, .int x4), (5, .int x5), (6, .int x6), (7, .int x7)] → W p l e rm_X13_safer s m aa below meth c H locs 0 0 (MQ below qq aa s 0 0 A) (F0 m 99 ls [])) (n : Nat), ∀ (gth : Int32) (gvm : Int32 × Int32 × Int32 × (Nat → Int32) × (Nat → Int32) × (Nat → Int32) × (Nat → Int32) × (Nat → Int32) × (Nat → Int32) × (Nat → Int32) × (Nat → Int32) × (Nat → Int32)) (gla : (Nat → Int32)) (gne : (Nat → Int32)) (gsp : (Nat → Int32) × (Nat → Int32)) (x1 : Int32) (x2 : Int32) (x3 : Int32) (x4 : Int32) (x5 : Int32) (x6 : Int32) (x7 : Int32) (x8 : Int32) (H : Heap) (locs : List Loc) (ls : Array Slot), p_X13_safer_109 k89 k99 n gth gvm gla gne gsp x1 x2 x3 x4 x5 x6 x7 x8 = some R0 → va_P (dC, dI) vwCl (w_X13_safer cy a0 gth gvm gtd gfl grd gnv gac gla gne gsp grc gim) H → va_D A (w_X13_safer cy a0 gth gvm gtd gfl grd gnv gac gla gne gsp grc gim) → va_S A s.heap H locs → lv_has ls 10 [(0, .ref (a0 0)), (1, .int x1), (2, .int x2), (3, .int x3), (4, .int x4), (5, .int x5), (6, .int x6), (7, .int x7), (8, .int x8)] → W p l e rm_X13_safer s m aa below meth c H locs 0 0 (MQ below qq aa s 0 0 A) (F0 m 109 ls []) := by
    intro k89 hk89 k99 hk99 n
    induction n with
    | zero => intro gth gvm gla gne gsp x1 x2 x3 x4 x5 x6 x7 x8 H locs ls h; exact no_some h
    | succ n ih =>
      intro gth gvm gla gne gsp x1 x2 x3 x4 x5 x6 x7 x8 H locs ls h hP hD hS hl
      rw [p_X13_safer_109.eq_2] at h
      refine lv_iload hx hb dX13_safer_109 (lv_at hl 8 rfl) ?_
      refine lv_iload_n hx hb dX13_safer_111 rfl (lv_at hl 3 rfl) ?_
      refine lv_iconst (v := (2 : Int32)) hx hb dX13_safer_112 (by decide) ?_
      refine lv_icmp_ge (tgt := 120) hx hb dX13_safer_113 (by decide) (fun c1 => ?_) (fun c1 => ?_)
      · rw [if_pos c1] at h
        refine lv_bipush (v := (10 : Int32)) hx hb dX13_safer_120 (by decide) ?_
        exact c122 k89 hk89 k99 hk99 (p_X13_safer_109 k89 k99 n) ih gth gvm gla gne gsp x1 x2 x3 x4 x5 x6 x7 x8 x8 (10 : Int32) H locs ls h hP hD hS (lv_sub hl [0, 1, 2, 3, 4, 5, 6, 7, 8] rfl)
      · rw [if_neg c1] at h
        refine lv_iconst (v := (1 : Int32)) hx hb dX13_safer_116 (by decide) ?_
        refine lv_goto (tgt := 122) hx hb dX13_safer_117 (by decide) ?_
        exact c122 k89 hk89 k99 hk99 (p_X13_safer_109 k89 k99 n) ih gth gvm gla gne gsp x1 x2 x3 x4 x5 x6 x7 x8 x8 (1 : Int32) H locs ls h hP hD hS (lv_sub hl [0, 1, 2, 3, 4, 5, 6, 7, 8] rfl)
  have c99 : ∀ (k89 : (Int32) → (Int32 × Int32 × Int32 × (Nat → Int32) × (Nat → Int32) × (Nat → Int32) × (Nat → Int32) × (Nat → Int32) × (Nat → Int32) × (Nat → Int32) × (Nat → Int32) × (Nat → Int32)) → ((Nat → Int32)) → ((Nat → Int32)) → ((Nat → Int32) × (Nat → Int32)) → Int32 → Int32 → Int32 → Int32 → Int32 → Int32 → Option (Int32 × (Int32) × (Int32 × Int32 × Int32 × (Nat → Int32) × (Nat → Int32) × (Nat → Int32) × (Nat → Int32) × (Nat → Int32) × (Nat → Int32) × (Nat → Int32) × (Nat → Int32) × (Nat → Int32)) × ((Nat → Int32)) × ((Nat → Int32)) × ((Nat → Int32) × (Nat → Int32)))) (hk89 : ∀ (gth : Int32) (gvm : Int32 × Int32 × Int32 × (Nat → Int32) × (Nat → Int32) × (Nat → Int32) × (Nat → Int32) × (Nat → Int32) × (Nat → Int32) × (Nat → Int32) × (Nat → Int32) × (Nat → Int32)) (gla : (Nat → Int32)) (gne : (Nat → Int32)) (gsp : (Nat → Int32) × (Nat → Int32)) (x1 : Int32) (x2 : Int32) (x3 : Int32) (x4 : Int32) (x5 : Int32) (x6 : Int32) (H : Heap) (locs : List Loc) (ls : Array Slot), k89 gth gvm gla gne gsp x1 x2 x3 x4 x5 x6 = some R0 → va_P (dC, dI) vwCl (w_X13_safer cy a0 gth gvm gtd gfl grd gnv gac gla gne gsp grc gim) H → va_D A (w_X13_safer cy a0 gth gvm gtd gfl grd gnv gac gla gne gsp grc gim) → va_S A s.heap H locs → lv_has ls 10 [(0, .ref (a0 0)), (1, .int x1), (2, .int x2), (3, .int x3), (4, .int x4), (5, .int x5), (6, .int x6)] → W p l e rm_X13_safer s m aa below meth c H locs 0 0 (MQ below qq aa s 0 0 A) (F0 m 89 ls [])) (n : Nat), ∀ (gth : Int32) (gvm : Int32 × Int32 × Int32 × (Nat → Int32) × (Nat → Int32) × (Nat → Int32) × (Nat → Int32) × (Nat → Int32) × (Nat → Int32) × (Nat → Int32) × (Nat → Int32) × (Nat → Int32)) (gla : (Nat → Int32)) (gne : (Nat → Int32)) (gsp : (Nat → Int32) × (Nat → Int32)) (x1 : Int32) (x2 : Int32) (x3 : Int32) (x4 : Int32) (x5 : Int32) (x6 : Int32) (x7 : Int32) (H : Heap) (locs : List Loc) (ls : Array Slot), p_X13_safer_99 k89 n gth gvm gla gne gsp x1 x2 x3 x4 x5 x6 x7 = some R0 → va_P (dC, dI) vwCl (w_X13_safer cy a0 gth gvm gtd gfl grd gnv gac gla gne gsp grc gim) H → va_D A (w_X13_safer cy a0 gth gvm gtd gfl grd gnv gac gla gne gsp grc gim) → va_S A s.heap H locs → lv_has ls 10 [(0, .ref (a0 0)), (1, .int x1), (2, .int x2), (3, .int x3), (4, .int x4), (5, .int x5), (6, .int x6), (7, .int x7)] → W p l e rm_X13_safer s m aa below meth c H locs 0 0 (MQ below qq aa s 0 0 A) (F0 m 99 ls []) := by
    intro k89 hk89 n
    induction n with
    | zero => intro gth gvm gla gne gsp x1 x2 x3 x4 x5 x6 x7 H locs ls h; exact no_some h
    | succ n ih =>
      intro gth gvm gla gne gsp x1 x2 x3 x4 x5 x6 x7 H locs ls h hP hD hS hl
      rw [p_X13_safer_99.eq_2] at h
      refine lv_iload hx hb dX13_safer_99 (lv_at hl 7 rfl) ?_
      refine lv_bipush (v := (10 : Int32)) hx hb dX13_safer_101 (by decide) ?_
      refine lv_icmp_ge (tgt := 263) hx hb dX13_safer_103 (by decide) (fun c1 => ?_) (fun c1 => ?_)
      · rw [if_pos c1] at h
        refine lv_iinc (v := (x6 + (1 : Int32))) (lv' := [(6, .int (x6 + (1 : Int32))), (0, .ref (a0 0)), (1, .int x1), (2, .int x2), (3, .int x3), (4, .int x4), (5, .int x5), (7, .int x7)]) hx hb dX13_safer_263 hl (k := 6) rfl rfl (by decide) rfl (fun ls hl => ?_)
        refine lv_goto (tgt := 89) hx hb dX13_safer_266 (by decide) ?_
        exact hk89 gth gvm gla gne gsp x1 x2 x3 x4 x5 (x6 + (1 : Int32)) H locs ls h hP hD hS (lv_sub hl [1, 2, 3, 4, 5, 6, 0] rfl)
      · rw [if_neg c1] at h
        refine lv_iconst (v := (0 : Int32)) hx hb dX13_safer_106 (by decide) ?_
        refine lv_istore (lv' := [(8, .int (0 : Int32)), (0, .ref (a0 0)), (1, .int x1), (2, .int x2), (3, .int x3), (4, .int x4), (5, .int x5), (6, .int x6), (7, .int x7)]) hx hb dX13_safer_107 hl (by decide) rfl (fun ls hl => ?_)
        exact c109 k89 hk89 (p_X13_safer_99 k89 n) ih fu gth gvm gla gne gsp x1 x2 x3 x4 x5 x6 x7 (0 : Int32) H locs ls h hP hD hS (lv_sub hl [1, 2, 3, 4, 5, 6, 7, 8, 0] rfl)
  have c89 : ∀ (n : Nat), ∀ (gth : Int32) (gvm : Int32 × Int32 × Int32 × (Nat → Int32) × (Nat → Int32) × (Nat → Int32) × (Nat → Int32) × (Nat → Int32) × (Nat → Int32) × (Nat → Int32) × (Nat → Int32) × (Nat → Int32)) (gla : (Nat → Int32)) (gne : (Nat → Int32)) (gsp : (Nat → Int32) × (Nat → Int32)) (x1 : Int32) (x2 : Int32) (x3 : Int32) (x4 : Int32) (x5 : Int32) (x6 : Int32) (H : Heap) (locs : List Loc) (ls : Array Slot), p_X13_safer_89 n gth gvm gla gne gsp x1 x2 x3 x4 x5 x6 = some R0 → va_P (dC, dI) vwCl (w_X13_safer cy a0 gth gvm gtd gfl grd gnv gac gla gne gsp grc gim) H → va_D A (w_X13_safer cy a0 gth gvm gtd gfl grd gnv gac gla gne gsp grc gim) → va_S A s.heap H locs → lv_has ls 10 [(0, .ref (a0 0)), (1, .int x1), (2, .int x2), (3, .int x3), (4, .int x4), (5, .int x5), (6, .int x6)] → W p l e rm_X13_safer s m aa below meth c H locs 0 0 (MQ below qq aa s 0 0 A) (F0 m 89 ls []) := by
    intro  n
    induction n with
    | zero => intro gth gvm gla gne gsp x1 x2 x3 x4 x5 x6 H locs ls h; exact no_some h
    | succ n ih =>
      intro gth gvm gla gne gsp x1 x2 x3 x4 x5 x6 H locs ls h hP hD hS hl
      rw [p_X13_safer_89.eq_2] at h
      refine lv_iload hx hb dX13_safer_89 (lv_at hl 6 rfl) ?_
      refine lv_bipush (v := (10 : Int32)) hx hb dX13_safer_91 (by decide) ?_
      refine lv_icmp_ge (tgt := 269) hx hb dX13_safer_93 (by decide) (fun c1 => ?_) (fun c1 => ?_)
      · rw [if_pos c1] at h
        refine lv_iload_n hx hb dX13_safer_269 rfl (lv_at hl 3 rfl) ?_
        refine lv_iconst (v := (2 : Int32)) hx hb dX13_safer_270 (by decide) ?_
        refine lv_irem hx hb dX13_safer_271 (by decide) ?_
        refine lv_if_ne (tgt := 280) hx hb dX13_safer_272 (by decide) (fun c3 => ?_) (fun c3 => ?_)
        · rw [if_neg c3] at h
          refine lv_iload hx hb dX13_safer_280 (lv_at hl 5 rfl) ?_
          exact W.iret (v := x5) hx hb hr (fun t ht hW => by rw [hqq]; have hh := Option.some.inj h; exact ⟨⟨x5, ((gth, gvm, gla, gne, gsp)), rfl, ⟨fst_of hh, snd_of hh⟩, by rw [ht]; exact hP, va_K.moved hW.alike hK⟩, hS.F ht⟩) hS.2.2 dX13_safer_282
        · rw [if_pos c3] at h
          refine lv_iload hx hb dX13_safer_275 (lv_at hl 4 rfl) ?_
          refine lv_goto (tgt := 282) hx hb dX13_safer_277 (by decide) ?_
          exact W.iret (v := x4) hx hb hr (fun t ht hW => by rw [hqq]; have hh := Option.some.inj h; exact ⟨⟨x4, ((gth, gvm, gla, gne, gsp)), rfl, ⟨fst_of hh, snd_of hh⟩, by rw [ht]; exact hP, va_K.moved hW.alike hK⟩, hS.F ht⟩) hS.2.2 dX13_safer_282
      · rw [if_neg c1] at h
        refine lv_iconst (v := (0 : Int32)) hx hb dX13_safer_96 (by decide) ?_
        refine lv_istore (lv' := [(7, .int (0 : Int32)), (0, .ref (a0 0)), (1, .int x1), (2, .int x2), (3, .int x3), (4, .int x4), (5, .int x5), (6, .int x6)]) hx hb dX13_safer_97 hl (by decide) rfl (fun ls hl => ?_)
        exact c99 (p_X13_safer_89 n) ih fu gth gvm gla gne gsp x1 x2 x3 x4 x5 x6 (0 : Int32) H locs ls h hP hD hS (lv_sub hl [1, 2, 3, 4, 5, 6, 7, 0] rfl)
  have c38 : ∀ (n : Nat), ∀ (gth : Int32) (gvm : Int32 × Int32 × Int32 × (Nat → Int32) × (Nat → Int32) × (Nat → Int32) × (Nat → Int32) × (Nat → Int32) × (Nat → Int32) × (Nat → Int32) × (Nat → Int32) × (Nat → Int32)) (gla : (Nat → Int32)) (gne : (Nat → Int32)) (gsp : (Nat → Int32) × (Nat → Int32)) (x1 : Int32) (x2 : Int32) (x3 : Int32) (x4 : Int32) (H : Heap) (locs : List Loc) (ls : Array Slot), p_X13_safer_38 n gth gvm gla gne gsp x1 x2 x3 x4 = some R0 → va_P (dC, dI) vwCl (w_X13_safer cy a0 gth gvm gtd gfl grd gnv gac gla gne gsp grc gim) H → va_D A (w_X13_safer cy a0 gth gvm gtd gfl grd gnv gac gla gne gsp grc gim) → va_S A s.heap H locs → lv_has ls 10 [(0, .ref (a0 0)), (1, .int x1), (2, .int x2), (3, .int x3), (4, .int x4)] → W p l e rm_X13_safer s m aa below meth c H locs 0 0 (MQ below qq aa s 0 0 A) (F0 m 38 ls []) := by
    intro  n
    induction n with
    | zero => intro gth gvm gla gne gsp x1 x2 x3 x4 H locs ls h; exact no_some h
    | succ n ih =>
      intro gth gvm gla gne gsp x1 x2 x3 x4 H locs ls h hP hD hS hl
      rw [p_X13_safer_38.eq_2] at h
      refine lv_iload hx hb dX13_safer_38 (lv_at hl 4 rfl) ?_
      refine lv_aload_n hx hb dX13_safer_40 rfl (lv_at hl 0 rfl) ?_
      refine va_get (D := (dC, dI)) (ci := 11) (v := .int gvm.1) (C := RX13) (T := TX13) (N := 64) hx hb hts in_X13 hown hK hP 0 rfl rfl 1 (by decide) lk0 (fun _ h9 => h9) rfl dX13_safer_41 ?_
      refine lv_icmp_ge (tgt := 68) hx hb dX13_safer_44 (by decide) (fun c1 => ?_) (fun c1 => ?_)
      · rw [if_pos c1] at h
        refine lv_aload_n hx hb dX13_safer_68 rfl (lv_at hl 0 rfl) ?_
        refine lv_aload_n hx hb dX13_safer_69 rfl (lv_at hl 0 rfl) ?_
        refine va_get (D := (dC, dI)) (ci := 11) (v := .ref (a0 7)) (C := RX13) (T := TX13) (N := 64) hx hb hts in_X13 hown hK hP 0 rfl rfl 10 (by decide) lk1 (fun _ h9 => h9) rfl dX13_safer_70 ?_
        refine lv_aload_n hx hb dX13_safer_73 rfl (lv_at hl 0 rfl) ?_
        refine va_get (D := (dC, dI)) (ci := 11) (v := .ref (a0 27)) (C := RX13) (T := TX13) (N := 64) hx hb hts in_X13 hown hK hP 0 rfl rfl 46 (by decide) lk2 (fun _ h9 => h9) rfl dX13_safer_74 ?_
        obtain ⟨v2, hv3, h⟩ := ok_bind h
        refine cl_vv (w2 := fun (u : ((Nat → Int32))) => w_X13_safer cy a0 gth gvm gtd gfl grd gnv gac gla gne ((gsp.1, u)) grc gim) (As := [.ref (a0 7), .ref (a0 27)]) (rest := []) ⟨hx, hb, hml, hown, hts⟩ (c_X13_copies l dC dI cy a0 (fun k => a0 (k + 7)) (fun k => a0 (k + 27)) 10 10 gvm.2.2.2.2.2.2.2.2.2.1 gsp.2 H.size v2 hv3) (cwV 2 hts gX13_safer_X13_copies rfl rfl rfl (by decide +kernel) ⟨Nat.le_of_ble_eq_true rfl, Nat.le_of_ble_eq_true rfl⟩) (va_recv hK hP (ci := 11) (q0 := 0) rfl rfl) cl_blind (cl_pre hK hP hD [7, 13] (by decide) rfl) hP hD hS hA [7, 13] rfl rfl hl.1 rfl (lv_room (Nat.le_of_ble_eq_true rfl)) dX13_safer_77 ⟨Nat.le_of_ble_eq_true rfl, Nat.le_of_ble_eq_true rfl⟩ ⟨rfl, rfl⟩ (fun _ => updM [7, 13] [0, 1, 2, 3, 4, 5, 6, 8, 9, 10, 11, 12] [(a0 0, .inr (11, [.int (gth), .int (gvm.1), .int (gvm.2.1), .int (gvm.2.2.1), .ref (a0 1), .ref (a0 2), .ref (a0 3), .ref (a0 4), .ref (a0 5), .ref (a0 6), .ref (a0 7), .ref (a0 8), .ref (a0 9), .ref (a0 10), .int (gtd), .int (gfl.1), .int (gfl.2), .ref (a0 11), .int (grd.1), .int (grd.2.1), .int (grd.2.2.1), .int (grd.2.2.2.1), .int (grd.2.2.2.2.1), .int (grd.2.2.2.2.2.1), .long (grd.2.2.2.2.2.2.1), .ref (a0 12), .int (gnv.1), .int (gnv.2.1), .int (gnv.2.2.1), .int (gnv.2.2.2.1), .int (gnv.2.2.2.2.1), .ref (a0 13), .ref (a0 14), .ref (a0 15), .ref (a0 16), .ref (a0 17), .ref (a0 18), .int (gac.1), .ref (a0 19), .ref (a0 20), .ref (a0 21), .ref (a0 22), .ref (a0 23), .ref (a0 24), .ref (a0 25), .ref (a0 26), .ref (a0 27), .int (grc.1), .ref (a0 28), .ref (a0 29), .ref (a0 30), .ref (a0 31), .int (gim.1), .int (gim.2.1), .int (gim.2.2.1), .ref (a0 32), .ref (a0 33), .ref (a0 34), .ref (a0 35), .ref (a0 36), .ref (a0 37), .ref (a0 38), .ref (a0 39), .ref (a0 40)])), (a0 1, .inl (cy 1, 5, .inl (gvm.2.2.2.1))), (a0 2, .inl (cy 1, 5, .inl (gvm.2.2.2.2.1))), (a0 3, .inl (cy 1, 5, .inl (gvm.2.2.2.2.2.1))), (a0 4, .inl (cy 1, 25, .inl (gvm.2.2.2.2.2.2.1))), (a0 5, .inl (cy 1, 10, .inl (gvm.2.2.2.2.2.2.2.1))), (a0 6, .inl (cy 1, 10, .inl (gvm.2.2.2.2.2.2.2.2.1))), (a0 8, .inl (cy 1, 10, .inl (gvm.2.2.2.2.2.2.2.2.2.2.1))), (a0 9, .inl (cy 1, 50, .inl (gvm.2.2.2.2.2.2.2.2.2.2.2))), (a0 21, .inl (cy 1, 620, .inl (gla))), (a0 22, .inl (cy 1, 41, .inl (gne))), (a0 26, .inl (cy 1, 5, .inl (gsp.1)))] 14 rfl rfl rfl rfl rfl (by decide +kernel) (by decide +kernel) rfl) (fun u H locs hw hP hD hS => ?_)
        have hw := hw.symm
        subst hw
        have hP : va_P (dC, dI) vwCl (w_X13_safer cy a0 gth gvm gtd gfl grd gnv gac gla gne ((gsp.1, v2)) grc gim) H := hP
        have hD : va_D A (w_X13_safer cy a0 gth gvm gtd gfl grd gnv gac gla gne ((gsp.1, v2)) grc gim) := hD
        refine lv_iconst (v := (0 : Int32)) hx hb dX13_safer_80 (by decide) ?_
        refine lv_istore (lv' := [(4, .int (0 : Int32)), (0, .ref (a0 0)), (1, .int x1), (2, .int x2), (3, .int x3)]) hx hb dX13_safer_81 hl (by decide) rfl (fun ls hl => ?_)
        refine lv_iconst (v := (-1 : Int32)) hx hb dX13_safer_83 (by decide) ?_
        refine lv_istore (lv' := [(5, .int (-1 : Int32)), (4, .int (0 : Int32)), (0, .ref (a0 0)), (1, .int x1), (2, .int x2), (3, .int x3)]) hx hb dX13_safer_84 hl (by decide) rfl (fun ls hl => ?_)
        refine lv_iconst (v := (0 : Int32)) hx hb dX13_safer_86 (by decide) ?_
        refine lv_istore (lv' := [(6, .int (0 : Int32)), (5, .int (-1 : Int32)), (4, .int (0 : Int32)), (0, .ref (a0 0)), (1, .int x1), (2, .int x2), (3, .int x3)]) hx hb dX13_safer_87 hl (by decide) rfl (fun ls hl => ?_)
        exact c89 fu gth gvm gla gne (gsp.1, v2) x1 x2 x3 (0 : Int32) (-1 : Int32) (0 : Int32) H locs ls h hP hD hS (lv_sub hl [3, 4, 5, 6, 2, 1, 0] rfl)
      · rw [if_neg c1] at h
        refine lv_aload_n hx hb dX13_safer_47 rfl (lv_at hl 0 rfl) ?_
        refine va_get (D := (dC, dI)) (ci := 11) (v := .ref (a0 26)) (C := RX13) (T := TX13) (N := 64) hx hb hts in_X13 hown hK hP 0 rfl rfl 45 (by decide) lk3 (fun _ h9 => h9) rfl dX13_safer_48 ?_
        refine lv_iload hx hb dX13_safer_51 (lv_at hl 4 rfl) ?_
        refine lv_aload_n hx hb dX13_safer_53 rfl (lv_at hl 0 rfl) ?_
        refine lv_iload hx hb dX13_safer_54 (lv_at hl 4 rfl) ?_
        refine lv_iload_n hx hb dX13_safer_56 rfl (lv_at hl 1 rfl) ?_
        refine lv_iload_n hx hb dX13_safer_57 rfl (lv_at hl 2 rfl) ?_
        obtain ⟨v4, hv5, h⟩ := ok_bind h
        refine cl_vi (w2 := fun (u : ((Nat → Int32))) => w_X13_safer cy a0 gth gvm gtd gfl grd gnv gac gla u gsp grc gim) (As := [.int x4, .int x1, .int x2]) (rest := [.int x4, .ref (a0 26)]) ⟨hx, hb, hml, hown, hts⟩ (c_X13_spanOf l dC dI cy a0 gth gvm gtd gfl grd gnv gac gla gne grc gim x4 x1 x2 H.size v4 hv5) (cwV 3 hts gX13_safer_X13_spanOf rfl rfl rfl (by decide +kernel) ⟨Nat.le_of_ble_eq_true rfl, Nat.le_of_ble_eq_true rfl⟩) (va_recv hK hP (ci := 11) (q0 := 0) rfl rfl) cl_blind (cl_pre hK hP hD [0, 1, 2, 3, 4, 5, 6, 7, 8, 9, 10, 11] (by decide) rfl) hP hD hS hA [0, 1, 2, 3, 4, 5, 6, 7, 8, 9, 10, 11] rfl rfl hl.1 rfl (lv_room (Nat.le_of_ble_eq_true rfl)) dX13_safer_58 ⟨Nat.le_of_ble_eq_true rfl, Nat.le_of_ble_eq_true rfl⟩ ⟨rfl, rfl⟩ (fun _ => updM [0, 1, 2, 3, 4, 5, 6, 7, 8, 9, 10, 11] [12, 13] [(a0 26, .inl (cy 1, 5, .inl (gsp.1))), (a0 27, .inl (cy 1, 10, .inl (gsp.2)))] 14 rfl rfl rfl rfl rfl (by decide +kernel) (by decide +kernel) rfl) (fun r u H locs hw hP hD hS => ?_)
        obtain ⟨rfl, rfl⟩ := hw
        have hP : va_P (dC, dI) vwCl (w_X13_safer cy a0 gth gvm gtd gfl grd gnv gac gla v4.2 gsp grc gim) H := hP
        have hD : va_D A (w_X13_safer cy a0 gth gvm gtd gfl grd gnv gac gla v4.2 gsp grc gim) := hD
        obtain ⟨hi6, h⟩ := ok_if h
        refine va_iast hx hb hK hP hD hS 12 1 rfl rfl (ix_in hi6) dX13_safer_61 (fun H locs hP hD hS => ?_)
        have hP : va_P (dC, dI) vwCl (w_X13_safer cy a0 gth gvm gtd gfl grd gnv gac gla v4.2 (((upd gsp.1 x4.toNatClampNeg v4.1), gsp.2)) grc gim) H := hP
        have hD : va_D A (w_X13_safer cy a0 gth gvm gtd gfl grd gnv gac gla v4.2 (((upd gsp.1 x4.toNatClampNeg v4.1), gsp.2)) grc gim) := hD
        refine lv_iinc (v := (x4 + (1 : Int32))) (lv' := [(4, .int (x4 + (1 : Int32))), (0, .ref (a0 0)), (1, .int x1), (2, .int x2), (3, .int x3)]) hx hb dX13_safer_62 hl (k := 4) rfl rfl (by decide) rfl (fun ls hl => ?_)
        refine lv_goto (tgt := 38) hx hb dX13_safer_65 (by decide) ?_
        exact ih gth gvm gla v4.2 ((upd gsp.1 x4.toNatClampNeg v4.1), gsp.2) x1 x2 x3 (x4 + (1 : Int32)) H locs ls h hP hD hS (lv_sub hl [1, 2, 3, 4, 0] rfl)
  obtain ⟨H, hH⟩ : ∃ H : Heap, H = s.heap := ⟨_, rfl⟩
  obtain ⟨locs, hlocs⟩ : ∃ locs : List Loc, locs = [] := ⟨_, rfl⟩
  have hS : va_S A s.heap H locs := by rw [hH, hlocs]; exact hS
  rw [← hH] at hP
  suffices hg : W p l e rm_X13_safer s m aa below meth c H locs 0 0 (MQ below qq aa s 0 0 A) (F0 m 0 ls []) by subst hH; subst hlocs; exact hg
  unfold p_X13_safer at h
  refine lv_aload_n hx hb dX13_safer_0 rfl (lv_at hl 0 rfl) ?_
  refine lv_iconst (v := (0 : Int32)) hx hb dX13_safer_1 (by decide) ?_
  refine va_put (D := (dC, dI)) (ci := 11) (v := .int (0 : Int32)) (ty := .int) (C := RX13) (T := TX13) (N := 64) hx hb hts in_X13 tyX13 tyX13_ok nmX13 hown hK hP hD hS 0 rfl rfl 0 (by decide) lk4 (fun _ h9 => h9) rfl (by decide +kernel) rfl rfl (Nat.le_of_ble_eq_true rfl) dX13_safer_2 (fun H locs hP hD hS => ?_)
  have hP : va_P (dC, dI) vwCl (w_X13_safer cy a0 ((0 : Int32)) gvm gtd gfl grd gnv gac gla gne gsp grc gim) H := hP
  have hD : va_D A (w_X13_safer cy a0 ((0 : Int32)) gvm gtd gfl grd gnv gac gla gne gsp grc gim) := hD
  refine lv_aload_n hx hb dX13_safer_5 rfl (lv_at hl 0 rfl) ?_
  refine lv_iload_n hx hb dX13_safer_6 rfl (lv_at hl 3 rfl) ?_
  refine lv_iconst (v := (0 : Int32)) hx hb dX13_safer_7 (by decide) ?_
  refine lv_iconst (v := (3 : Int32)) hx hb dX13_safer_8 (by decide) ?_
  obtain ⟨v1, hv2, h⟩ := ok_bind h
  refine cl_si (w2 := fun (_ : Unit) => w_X13_safer cy a0 ((0 : Int32)) gvm gtd gfl grd gnv gac gla gne gsp grc gim) (As := [.int x3, .int (0 : Int32), .int (3 : Int32)]) (rest := [.ref (a0 0)]) ⟨hx, hb, hml, hown, hts⟩ (c_X13_within l dC dI cy  x3 (0 : Int32) (3 : Int32) H.size v1 hv2) (va_cwS 3 hts gX13_safer_X13_within rfl rfl rfl (by decide +kernel) ⟨Nat.le_of_ble_eq_true rfl, Nat.le_of_ble_eq_true rfl⟩) cl_blind (cl_pre hK hP hD [] (by decide) rfl) hP hD hS hA [] rfl rfl hl.1 rfl (lv_room (Nat.le_of_ble_eq_true rfl)) dX13_safer_9 ⟨Nat.le_of_ble_eq_true rfl, Nat.le_of_ble_eq_true rfl⟩ ⟨rfl, rfl⟩ (fun _ => updR [] rfl) (fun r u H locs hw hP hD hS => ?_)
  have hw := hw.symm
  subst hw
  have hP : va_P (dC, dI) vwCl (w_X13_safer cy a0 ((0 : Int32)) gvm gtd gfl grd gnv gac gla gne gsp grc gim) H := hP
  have hD : va_D A (w_X13_safer cy a0 ((0 : Int32)) gvm gtd gfl grd gnv gac gla gne gsp grc gim) := hD
  refine lv_iconst (v := (1 : Int32)) hx hb dX13_safer_12 (by decide) ?_
  obtain ⟨v3, hv4, h⟩ := ok_bind h
  refine cl_vi (w2 := fun (u : (Int32)) => w_X13_safer cy a0 u gvm gtd gfl grd gnv gac gla gne gsp grc gim) (As := [.int v1, .int (1 : Int32)]) (rest := []) ⟨hx, hb, hml, hown, hts⟩ (c_X13_right l dC dI cy a0 (0 : Int32) gvm gtd gfl grd gnv gac grc gim v1 (1 : Int32) H.size v3 hv4) (cwV 2 hts gX13_safer_X13_right rfl rfl rfl (by decide +kernel) ⟨Nat.le_of_ble_eq_true rfl, Nat.le_of_ble_eq_true rfl⟩) (va_recv hK hP (ci := 11) (q0 := 0) rfl rfl) cl_blind (cl_pre hK hP hD [0] (by decide) rfl) hP hD hS hA [0] rfl rfl hl.1 rfl (lv_room (Nat.le_of_ble_eq_true rfl)) dX13_safer_13 ⟨Nat.le_of_ble_eq_true rfl, Nat.le_of_ble_eq_true rfl⟩ ⟨rfl, rfl⟩ (fun _ => updM [0] [1, 2, 3, 4, 5, 6, 7, 8, 9, 10, 11, 12, 13] [(a0 1, .inl (cy 1, 5, .inl (gvm.2.2.2.1))), (a0 2, .inl (cy 1, 5, .inl (gvm.2.2.2.2.1))), (a0 3, .inl (cy 1, 5, .inl (gvm.2.2.2.2.2.1))), (a0 4, .inl (cy 1, 25, .inl (gvm.2.2.2.2.2.2.1))), (a0 5, .inl (cy 1, 10, .inl (gvm.2.2.2.2.2.2.2.1))), (a0 6, .inl (cy 1, 10, .inl (gvm.2.2.2.2.2.2.2.2.1))), (a0 7, .inl (cy 1, 10, .inl (gvm.2.2.2.2.2.2.2.2.2.1))), (a0 8, .inl (cy 1, 10, .inl (gvm.2.2.2.2.2.2.2.2.2.2.1))), (a0 9, .inl (cy 1, 50, .inl (gvm.2.2.2.2.2.2.2.2.2.2.2))), (a0 21, .inl (cy 1, 620, .inl (gla))), (a0 22, .inl (cy 1, 41, .inl (gne))), (a0 26, .inl (cy 1, 5, .inl (gsp.1))), (a0 27, .inl (cy 1, 10, .inl (gsp.2)))] 14 rfl rfl rfl rfl rfl (by decide +kernel) (by decide +kernel) rfl) (fun r u H locs hw hP hD hS => ?_)
  obtain ⟨rfl, rfl⟩ := hw
  have hP : va_P (dC, dI) vwCl (w_X13_safer cy a0 v3.2 gvm gtd gfl grd gnv gac gla gne gsp grc gim) H := hP
  have hD : va_D A (w_X13_safer cy a0 v3.2 gvm gtd gfl grd gnv gac gla gne gsp grc gim) := hD
  refine lv_if_eq (tgt := 29) hx hb dX13_safer_16 (by decide) (fun c5 => ?_) (fun c5 => ?_)
  · rw [if_pos c5] at h
    refine lv_iconst (v := (0 : Int32)) hx hb dX13_safer_29 (by decide) ?_
    exact W.iret (v := (0 : Int32)) hx hb hr (fun t ht hW => by rw [hqq]; have hh := Option.some.inj h; exact ⟨⟨(0 : Int32), ((v3.2, gvm, gla, gne, gsp)), rfl, ⟨fst_of hh, snd_of hh⟩, by rw [ht]; exact hP, va_K.moved hW.alike hK⟩, hS.F ht⟩) hS.2.2 dX13_safer_30
  · rw [if_neg c5] at h
    refine lv_aload_n hx hb dX13_safer_19 rfl (lv_at hl 0 rfl) ?_
    refine lv_iload_n hx hb dX13_safer_20 rfl (lv_at hl 1 rfl) ?_
    refine lv_iload_n hx hb dX13_safer_21 rfl (lv_at hl 2 rfl) ?_
    refine lv_iconst (v := (2 : Int32)) hx hb dX13_safer_22 (by decide) ?_
    obtain ⟨v6, hv7, h⟩ := ok_bind h
    refine cl_vi (w2 := fun (u : (Int32)) => w_X13_safer cy a0 u gvm gtd gfl grd gnv gac gla gne gsp grc gim) (As := [.int x1, .int x2, .int (2 : Int32)]) (rest := []) ⟨hx, hb, hml, hown, hts⟩ (c_X13_isSpan l dC dI cy a0 v3.2 gvm gtd gfl grd gnv gac grc gim x1 x2 (2 : Int32) H.size v6 hv7) (cwV 3 hts gX13_safer_X13_isSpan rfl rfl rfl (by decide +kernel) ⟨Nat.le_of_ble_eq_true rfl, Nat.le_of_ble_eq_true rfl⟩) (va_recv hK hP (ci := 11) (q0 := 0) rfl rfl) cl_blind (cl_pre hK hP hD [0] (by decide) rfl) hP hD hS hA [0] rfl rfl hl.1 rfl (lv_room (Nat.le_of_ble_eq_true rfl)) dX13_safer_23 ⟨Nat.le_of_ble_eq_true rfl, Nat.le_of_ble_eq_true rfl⟩ ⟨rfl, rfl⟩ (fun _ => updM [0] [1, 2, 3, 4, 5, 6, 7, 8, 9, 10, 11, 12, 13] [(a0 1, .inl (cy 1, 5, .inl (gvm.2.2.2.1))), (a0 2, .inl (cy 1, 5, .inl (gvm.2.2.2.2.1))), (a0 3, .inl (cy 1, 5, .inl (gvm.2.2.2.2.2.1))), (a0 4, .inl (cy 1, 25, .inl (gvm.2.2.2.2.2.2.1))), (a0 5, .inl (cy 1, 10, .inl (gvm.2.2.2.2.2.2.2.1))), (a0 6, .inl (cy 1, 10, .inl (gvm.2.2.2.2.2.2.2.2.1))), (a0 7, .inl (cy 1, 10, .inl (gvm.2.2.2.2.2.2.2.2.2.1))), (a0 8, .inl (cy 1, 10, .inl (gvm.2.2.2.2.2.2.2.2.2.2.1))), (a0 9, .inl (cy 1, 50, .inl (gvm.2.2.2.2.2.2.2.2.2.2.2))), (a0 21, .inl (cy 1, 620, .inl (gla))), (a0 22, .inl (cy 1, 41, .inl (gne))), (a0 26, .inl (cy 1, 5, .inl (gsp.1))), (a0 27, .inl (cy 1, 10, .inl (gsp.2)))] 14 rfl rfl rfl rfl rfl (by decide +kernel) (by decide +kernel) rfl) (fun r u H locs hw hP hD hS => ?_)
    obtain ⟨rfl, rfl⟩ := hw
    have hP : va_P (dC, dI) vwCl (w_X13_safer cy a0 v6.2 gvm gtd gfl grd gnv gac gla gne gsp grc gim) H := hP
    have hD : va_D A (w_X13_safer cy a0 v6.2 gvm gtd gfl grd gnv gac gla gne gsp grc gim) := hD
    refine lv_if_ne (tgt := 31) hx hb dX13_safer_26 (by decide) (fun c8 => ?_) (fun c8 => ?_)
    · rw [if_neg c8] at h
      refine lv_aload_n hx hb dX13_safer_31 rfl (lv_at hl 0 rfl) ?_
      obtain ⟨v9, hv10, h⟩ := ok_bind h
      refine cl_vv (w2 := fun (u : ((Nat → Int32))) => w_X13_safer cy a0 v6.2 gvm gtd gfl grd gnv gac u gne gsp grc gim) (As := []) (rest := []) ⟨hx, hb, hml, hown, hts⟩ (c_X13_lay l dC dI cy a0 v6.2 gvm gtd gfl grd gnv gac gla grc gim H.size v9 hv10) (cwV 0 hts gX13_safer_X13_lay rfl rfl rfl (by decide +kernel) ⟨Nat.le_of_ble_eq_true rfl, Nat.le_of_ble_eq_true rfl⟩) (va_recv hK hP (ci := 11) (q0 := 0) rfl rfl) cl_blind (cl_pre hK hP hD [0, 1, 2, 3, 4, 5, 6, 7, 8, 9, 10] (by decide) rfl) hP hD hS hA [0, 1, 2, 3, 4, 5, 6, 7, 8, 9, 10] rfl rfl hl.1 rfl (lv_room (Nat.le_of_ble_eq_true rfl)) dX13_safer_32 ⟨Nat.le_of_ble_eq_true rfl, Nat.le_of_ble_eq_true rfl⟩ ⟨rfl, rfl⟩ (fun _ => updM [0, 1, 2, 3, 4, 5, 6, 7, 8, 9, 10] [11, 12, 13] [(a0 22, .inl (cy 1, 41, .inl (gne))), (a0 26, .inl (cy 1, 5, .inl (gsp.1))), (a0 27, .inl (cy 1, 10, .inl (gsp.2)))] 14 rfl rfl rfl rfl rfl (by decide +kernel) (by decide +kernel) rfl) (fun u H locs hw hP hD hS => ?_)
      have hw := hw.symm
      subst hw
      have hP : va_P (dC, dI) vwCl (w_X13_safer cy a0 v6.2 gvm gtd gfl grd gnv gac v9 gne gsp grc gim) H := hP
      have hD : va_D A (w_X13_safer cy a0 v6.2 gvm gtd gfl grd gnv gac v9 gne gsp grc gim) := hD
      refine lv_iconst (v := (0 : Int32)) hx hb dX13_safer_35 (by decide) ?_
      refine lv_istore (lv' := [(4, .int (0 : Int32)), (0, .ref (a0 0)), (1, .int x1), (2, .int x2), (3, .int x3)]) hx hb dX13_safer_36 hl (by decide) rfl (fun ls hl => ?_)
      exact c38 fu v6.2 gvm v9 gne gsp x1 x2 x3 (0 : Int32) H locs ls h hP hD hS (lv_sub hl [1, 2, 3, 4, 0] rfl)
    · rw [if_pos c8] at h
      refine lv_iconst (v := (0 : Int32)) hx hb dX13_safer_29 (by decide) ?_
      exact W.iret (v := (0 : Int32)) hx hb hr (fun t ht hW => by rw [hqq]; have hh := Option.some.inj h; exact ⟨⟨(0 : Int32), ((v6.2, gvm, gla, gne, gsp)), rfl, ⟨fst_of hh, snd_of hh⟩, by rw [ht]; exact hP, va_K.moved hW.alike hK⟩, hS.F ht⟩) hS.2.2 dX13_safer_30

abbrev w_X13_receipt (cy : Nat → ClassId) (a0 : Nat → Nat) (gth : Int32) (gvm : Int32 × Int32 × Int32 × (Nat → Int32) × (Nat → Int32) × (Nat → Int32) × (Nat → Int32) × (Nat → Int32) × (Nat → Int32) × (Nat → Int32) × (Nat → Int32) × (Nat → Int32)) (gtd : Int32) (gfl : Int32 × Int32) (grf : (Nat → Int32)) (grd : Int32 × Int32 × Int32 × Int32 × Int32 × Int32 × Int64 × (Nat → Int32)) (gnv : Int32 × Int32 × Int32 × Int32 × Int32 × (Nat → Int32) × (Nat → Int32) × (Nat → Int32) × (Nat → Int32) × (Nat → Int32) × (Nat → Int32)) (gac : Int32 × (Nat → Int32) × (Nat → Int32)) (grc : Int32 × (Nat → Int32)) (gim : Int32 × Int32 × Int32 × (Nat → Int32) × (Nat → Int32) × (Nat → Int32) × (Nat → Int32) × (Nat → Int32) × (Nat → Int32) × (Nat → Int32) × (Nat → Int32) × (Nat → Int32)) : va_W := [(a0 0, .inr (11, [.int (gth), .int (gvm.1), .int (gvm.2.1), .int (gvm.2.2.1), .ref (a0 1), .ref (a0 2), .ref (a0 3), .ref (a0 4), .ref (a0 5), .ref (a0 6), .ref (a0 7), .ref (a0 8), .ref (a0 9), .ref (a0 10), .int (gtd), .int (gfl.1), .int (gfl.2), .ref (a0 11), .int (grd.1), .int (grd.2.1), .int (grd.2.2.1), .int (grd.2.2.2.1), .int (grd.2.2.2.2.1), .int (grd.2.2.2.2.2.1), .long (grd.2.2.2.2.2.2.1), .ref (a0 12), .int (gnv.1), .int (gnv.2.1), .int (gnv.2.2.1), .int (gnv.2.2.2.1), .int (gnv.2.2.2.2.1), .ref (a0 13), .ref (a0 14), .ref (a0 15), .ref (a0 16), .ref (a0 17), .ref (a0 18), .int (gac.1), .ref (a0 19), .ref (a0 20), .ref (a0 21), .ref (a0 22), .ref (a0 23), .ref (a0 24), .ref (a0 25), .ref (a0 26), .ref (a0 27), .int (grc.1), .ref (a0 28), .ref (a0 29), .ref (a0 30), .ref (a0 31), .int (gim.1), .int (gim.2.1), .int (gim.2.2.1), .ref (a0 32), .ref (a0 33), .ref (a0 34), .ref (a0 35), .ref (a0 36), .ref (a0 37), .ref (a0 38), .ref (a0 39), .ref (a0 40)])), (a0 11, .inl (cy 1, 3, .inl (grf))), (a0 28, .inl (cy 1, 36, .inl (grc.2)))]
abbrev rm_X13_receipt : Room := { frames := 1, cells := 0, slots := 0, locals := 22 }
set_option maxHeartbeats 1000000 in
set_option maxRecDepth 100000 in
theorem c_X13_receipt (l : Launch) (dC : Nat → ClassId) (dI : Nat → Nat → Nat) (cy : Nat → ClassId) (a0 : Nat → Nat) (gth : Int32) (gvm : Int32 × Int32 × Int32 × (Nat → Int32) × (Nat → Int32) × (Nat → Int32) × (Nat → Int32) × (Nat → Int32) × (Nat → Int32) × (Nat → Int32) × (Nat → Int32) × (Nat → Int32)) (gtd : Int32) (gfl : Int32 × Int32) (grf : (Nat → Int32)) (grd : Int32 × Int32 × Int32 × Int32 × Int32 × Int32 × Int64 × (Nat → Int32)) (gnv : Int32 × Int32 × Int32 × Int32 × Int32 × (Nat → Int32) × (Nat → Int32) × (Nat → Int32) × (Nat → Int32) × (Nat → Int32) × (Nat → Int32)) (gac : Int32 × (Nat → Int32) × (Nat → Int32)) (grc : Int32 × (Nat → Int32)) (gim : Int32 × Int32 × Int32 × (Nat → Int32) × (Nat → Int32) × (Nat → Int32) × (Nat → Int32) × (Nat → Int32) × (Nat → Int32) × (Nat → Int32) × (Nat → Int32) × (Nat → Int32)) (x1 : Int32) (x2 : Int32) (x3 : Int32) (sz : Nat) (R0 : Int32 × (Int32) × ((Nat → Int32)) × (Int32 × (Nat → Int32))) (h : p_X13_receipt gth grf grc x1 x2 x3 = some R0) : Met l yX13_receipt wsX13_receipt rm_X13_receipt (va_Pc [.ref (a0 0), .int x1, .int x2, .int x3] (prC dC dI cy (w_X13_receipt cy a0 gth gvm gtd gfl grf grd gnv gac grc gim) sz)) (va_Qi (fun (r : Int32) (u : (Int32) × ((Nat → Int32)) × (Int32 × (Nat → Int32))) => r = R0.1 ∧ u = R0.2) (fun (u : (Int32) × ((Nat → Int32)) × (Int32 × (Nat → Int32))) t => poC dC dI cy (w_X13_receipt cy a0 u.1 gvm gtd gfl u.2.1 grd gnv gac u.2.2 gim) t) (va_A (w_X13_receipt cy a0 gth gvm gtd gfl grf grd gnv gac grc gim) sz)) 0 0 (va_A (w_X13_receipt cy a0 gth gvm gtd gfl grf grd gnv gac grc gim) sz) := by
  refine Met.ofW (cc := cX13_receipt) (maxL := 4) (ret := (some .int)) (by decide) rfl ?_
  intro p e s m aa below meth c s₁ B hml hv
  obtain ⟨haa, hsz, hP, hK, hD0⟩ := hv
  have hx := B.exec
  have hb := B.bytes
  have hr := B.returns
  have hts := atoms_spec (ws := wsX13_receipt) B.pre
  have hown : s.vm.findClass RX13 = some m.cls := findClass_of_methodNamed B.named
  have hlocks := B.notSynchronized
  subst hsz
  have hD := hD0.self (sz := s.heap.size)
  obtain ⟨qq, hqq⟩ : ∃ qq, qq = (va_Qi (fun (r : Int32) (u : (Int32) × ((Nat → Int32)) × (Int32 × (Nat → Int32))) => r = R0.1 ∧ u = R0.2) (fun (u : (Int32) × ((Nat → Int32)) × (Int32 × (Nat → Int32))) t => poC dC dI cy (w_X13_receipt cy a0 u.1 gvm gtd gfl u.2.1 grd gnv gac u.2.2 gim) t) (va_A (w_X13_receipt cy a0 gth gvm gtd gfl grf grd gnv gac grc gim) s.heap.size)) := ⟨_, rfl⟩
  rw [← hqq]
  generalize hAe : va_A (w_X13_receipt cy a0 gth gvm gtd gfl grf grd gnv gac grc gim) s.heap.size = A at hD hqq ⊢
  have hA : ∀ q : Nat, s.heap.size ≤ q → A q := fun q h => by rw [← hAe]; exact Or.inr h
  have hS : va_S A s.heap s.heap [] := va_S.rf
  have hl := lv_entry ([.ref (a0 0), .int x1, .int x2, .int x3]) (n := 4) (Nat.le_of_ble_eq_true rfl)
  have hE : entryFrame m aa 4 = F0 m 0 ((lg_sl ([.ref (a0 0), .int x1, .int x2, .int x3]) ++ List.replicate (4 - (lg_sl ([.ref (a0 0), .int x1, .int x2, .int x3])).length) Slot.unset).toArray) [] := by rw [haa]; exact lg_entry_eq m _ 4
  refine W.eq hE ?_
  generalize (lg_sl ([.ref (a0 0), .int x1, .int x2, .int x3]) ++ List.replicate (4 - (lg_sl ([.ref (a0 0), .int x1, .int x2, .int x3])).length) Slot.unset).toArray = ls at hl ⊢
  have hl : lv_has ls 4 [(0, .ref (a0 0)), (1, .int x1), (2, .int x2), (3, .int x3)] := hl
  change W p l e rm_X13_receipt s m aa below meth c s.heap [] 0 0 (MQ below qq aa s 0 0 A) (F0 m 0 ls [])
  have hS0 := hS
  have lk0 := hts (.fieldLink RX13 44 "GoatDoorsModel" "refused" "[I") (by decide +kernel)
  have lk1 := hts (.fieldLink RX13 135 "GoatDoorsModel" "thrown" "I") (by decide +kernel)
  have lk2 := hts (.fieldLink RX13 261 "GoatDoorsModel" "receipts" "I") (by decide +kernel)
  have lk3 := hts (.constant RX13 358 (99999999 : Int32)) (by decide +kernel)
  have lk4 := hts (.fieldLink RX13 95 "GoatDoorsModel" "receipt" "[I") (by decide +kernel)
  have in_X13 : ∀ w ∈ wsX130, w ∈ wsX13_receipt := by decide +kernel
  have c47 : ∀ (_u : Unit), ∀ (gth : Int32) (grf : (Nat → Int32)) (grc : Int32 × (Nat → Int32)) (H : Heap) (locs : List Loc) (ls : Array Slot), p_X13_receipt_47 gth grf grc = some R0 → va_P (dC, dI) vwCl (w_X13_receipt cy a0 gth gvm gtd gfl grf grd gnv gac grc gim) H → va_D A (w_X13_receipt cy a0 gth gvm gtd gfl grf grd gnv gac grc gim) → va_S A s.heap H locs → lv_has ls 4 [(0, .ref (a0 0))] → W p l e rm_X13_receipt s m aa below meth c H locs 0 0 (MQ below qq aa s 0 0 A) (F0 m 47 ls []) := by
    intro _ gth grf grc H locs ls h hP hD hS hl
    unfold p_X13_receipt_47 at h
    refine lv_aload_n hx hb dX13_receipt_47 rfl (lv_at hl 0 rfl) ?_
    refine va_get (D := (dC, dI)) (ci := 11) (v := .ref (a0 11)) (C := RX13) (T := TX13) (N := 64) hx hb hts in_X13 hown hK hP 0 rfl rfl 17 (by decide) lk0 (fun _ h9 => h9) rfl dX13_receipt_48 ?_
    refine lv_iconst (v := (2 : Int32)) hx hb dX13_receipt_51 (by decide) ?_
    refine lv_dup2_11 hx hb dX13_receipt_52 rfl rfl ?_
    obtain ⟨hi1, h⟩ := ok_if h
    refine va_iald hx hb hK hP 1 1 rfl rfl (ix_in hi1) dX13_receipt_53 ?_
    refine lv_iconst (v := (1 : Int32)) hx hb dX13_receipt_54 (by decide) ?_
    refine lv_iadd hx hb dX13_receipt_55 ?_
    obtain ⟨hi2, h⟩ := ok_if h
    refine va_iast hx hb hK hP hD hS 1 1 rfl rfl (ix_in hi2) dX13_receipt_56 (fun H locs hP hD hS => ?_)
    have hP : va_P (dC, dI) vwCl (w_X13_receipt cy a0 gth gvm gtd gfl ((upd grf (2 : Int32).toNatClampNeg ((grf (2 : Int32).toNatClampNeg) + (1 : Int32)))) grd gnv gac grc gim) H := hP
    have hD : va_D A (w_X13_receipt cy a0 gth gvm gtd gfl ((upd grf (2 : Int32).toNatClampNeg ((grf (2 : Int32).toNatClampNeg) + (1 : Int32)))) grd gnv gac grc gim) := hD
    refine lv_iconst (v := (-1 : Int32)) hx hb dX13_receipt_57 (by decide) ?_
    exact W.iret (v := (-1 : Int32)) hx hb hr (fun t ht hW => by rw [hqq]; have hh := Option.some.inj h; exact ⟨⟨(-1 : Int32), ((gth, (upd grf (2 : Int32).toNatClampNeg ((grf (2 : Int32).toNatClampNeg) + (1 : Int32))), grc)), rfl, ⟨fst_of hh, snd_of hh⟩, by rw [ht]; exact hP, va_K.moved hW.alike hK⟩, hS.F ht⟩) hS.2.2 dX13_receipt_58
  obtain ⟨H, hH⟩ : ∃ H : Heap, H = s.heap := ⟨_, rfl⟩
  obtain ⟨locs, hlocs⟩ : ∃ locs : List Loc, locs = [] := ⟨_, rfl⟩
  have hS : va_S A s.heap H locs := by rw [hH, hlocs]; exact hS
  rw [← hH] at hP
  suffices hg : W p l e rm_X13_receipt s m aa below meth c H locs 0 0 (MQ below qq aa s 0 0 A) (F0 m 0 ls []) by subst hH; subst hlocs; exact hg
  unfold p_X13_receipt at h
  refine lv_aload_n hx hb dX13_receipt_0 rfl (lv_at hl 0 rfl) ?_
  refine lv_iconst (v := (0 : Int32)) hx hb dX13_receipt_1 (by decide) ?_
  refine va_put (D := (dC, dI)) (ci := 11) (v := .int (0 : Int32)) (ty := .int) (C := RX13) (T := TX13) (N := 64) hx hb hts in_X13 tyX13 tyX13_ok nmX13 hown hK hP hD hS 0 rfl rfl 0 (by decide) lk1 (fun _ h9 => h9) rfl (by decide +kernel) rfl rfl (Nat.le_of_ble_eq_true rfl) dX13_receipt_2 (fun H locs hP hD hS => ?_)
  have hP : va_P (dC, dI) vwCl (w_X13_receipt cy a0 ((0 : Int32)) gvm gtd gfl grf grd gnv gac grc gim) H := hP
  have hD : va_D A (w_X13_receipt cy a0 ((0 : Int32)) gvm gtd gfl grf grd gnv gac grc gim) := hD
  refine lv_aload_n hx hb dX13_receipt_5 rfl (lv_at hl 0 rfl) ?_
  refine va_get (D := (dC, dI)) (ci := 11) (v := .int grc.1) (C := RX13) (T := TX13) (N := 64) hx hb hts in_X13 hown hK hP 0 rfl rfl 47 (by decide) lk2 (fun _ h9 => h9) rfl dX13_receipt_6 ?_
  refine lv_bipush (v := (12 : Int32)) hx hb dX13_receipt_9 (by decide) ?_
  refine lv_icmp_eq (tgt := 47) hx hb dX13_receipt_11 (by decide) (fun c1 => ?_) (fun c1 => ?_)
  · rw [if_pos c1] at h
    exact c47 () (0 : Int32) grf grc H locs ls h hP hD hS (lv_sub hl [0] rfl)
  · rw [if_neg c1] at h
    refine lv_iload_n hx hb dX13_receipt_14 rfl (lv_at hl 1 rfl) ?_
    refine lv_if_lt (tgt := 47) hx hb dX13_receipt_15 (by decide) (fun c2 => ?_) (fun c2 => ?_)
    · rw [if_pos c2] at h
      exact c47 () (0 : Int32) grf grc H locs ls h hP hD hS (lv_sub hl [0] rfl)
    · rw [if_neg c2] at h
      refine lv_iload_n hx hb dX13_receipt_18 rfl (lv_at hl 1 rfl) ?_
      refine lv_sipush (v := (1024 : Int32)) hx hb dX13_receipt_19 (by decide) ?_
      refine lv_icmp_ge (tgt := 47) hx hb dX13_receipt_22 (by decide) (fun c3 => ?_) (fun c3 => ?_)
      · rw [if_pos c3] at h
        exact c47 () (0 : Int32) grf grc H locs ls h hP hD hS (lv_sub hl [0] rfl)
      · rw [if_neg c3] at h
        refine lv_iload_n hx hb dX13_receipt_25 rfl (lv_at hl 2 rfl) ?_
        refine lv_iconst (v := (0 : Int32)) hx hb dX13_receipt_26 (by decide) ?_
        refine lv_ldcw hx hb hown lk3 dX13_receipt_27 ?_
        obtain ⟨v4, hv5, h⟩ := ok_bind h
        refine cl_si (w2 := fun (_ : Unit) => w_X13_receipt cy a0 ((0 : Int32)) gvm gtd gfl grf grd gnv gac grc gim) (As := [.int x2, .int (0 : Int32), .int (99999999 : Int32)]) (rest := []) ⟨hx, hb, hml, hown, hts⟩ (c_X13_within l dC dI cy  x2 (0 : Int32) (99999999 : Int32) H.size v4 hv5) (va_cwS 3 hts gX13_receipt_X13_within rfl rfl rfl (by decide +kernel) ⟨Nat.le_of_ble_eq_true rfl, Nat.le_of_ble_eq_true rfl⟩) cl_blind (cl_pre hK hP hD [] (by decide) rfl) hP hD hS hA [] rfl rfl hl.1 rfl (lv_room (Nat.le_of_ble_eq_true rfl)) dX13_receipt_30 ⟨Nat.le_of_ble_eq_true rfl, Nat.le_of_ble_eq_true rfl⟩ ⟨rfl, rfl⟩ (fun _ => updR [] rfl) (fun r u H locs hw hP hD hS => ?_)
        have hw := hw.symm
        subst hw
        have hP : va_P (dC, dI) vwCl (w_X13_receipt cy a0 ((0 : Int32)) gvm gtd gfl grf grd gnv gac grc gim) H := hP
        have hD : va_D A (w_X13_receipt cy a0 ((0 : Int32)) gvm gtd gfl grf grd gnv gac grc gim) := hD
        refine lv_if_eq (tgt := 47) hx hb dX13_receipt_33 (by decide) (fun c6 => ?_) (fun c6 => ?_)
        · rw [if_pos c6] at h
          exact c47 () (0 : Int32) grf grc H locs ls h hP hD hS (lv_sub hl [0] rfl)
        · rw [if_neg c6] at h
          refine lv_iload_n hx hb dX13_receipt_36 rfl (lv_at hl 3 rfl) ?_
          refine lv_bipush (v := (-20 : Int32)) hx hb dX13_receipt_37 (by decide) ?_
          refine lv_bipush (v := (20 : Int32)) hx hb dX13_receipt_39 (by decide) ?_
          obtain ⟨v7, hv8, h⟩ := ok_bind h
          refine cl_si (w2 := fun (_ : Unit) => w_X13_receipt cy a0 ((0 : Int32)) gvm gtd gfl grf grd gnv gac grc gim) (As := [.int x3, .int (-20 : Int32), .int (20 : Int32)]) (rest := []) ⟨hx, hb, hml, hown, hts⟩ (c_X13_within l dC dI cy  x3 (-20 : Int32) (20 : Int32) H.size v7 hv8) (va_cwS 3 hts gX13_receipt_X13_within rfl rfl rfl (by decide +kernel) ⟨Nat.le_of_ble_eq_true rfl, Nat.le_of_ble_eq_true rfl⟩) cl_blind (cl_pre hK hP hD [] (by decide) rfl) hP hD hS hA [] rfl rfl hl.1 rfl (lv_room (Nat.le_of_ble_eq_true rfl)) dX13_receipt_41 ⟨Nat.le_of_ble_eq_true rfl, Nat.le_of_ble_eq_true rfl⟩ ⟨rfl, rfl⟩ (fun _ => updR [] rfl) (fun r u H locs hw hP hD hS => ?_)
          have hw := hw.symm
          subst hw
          have hP : va_P (dC, dI) vwCl (w_X13_receipt cy a0 ((0 : Int32)) gvm gtd gfl grf grd gnv gac grc gim) H := hP
          have hD : va_D A (w_X13_receipt cy a0 ((0 : Int32)) gvm gtd gfl grf grd gnv gac grc gim) := hD
          refine lv_if_ne (tgt := 59) hx hb dX13_receipt_44 (by decide) (fun c9 => ?_) (fun c9 => ?_)
          · rw [if_neg c9] at h
            refine lv_aload_n hx hb dX13_receipt_59 rfl (lv_at hl 0 rfl) ?_
            refine va_get (D := (dC, dI)) (ci := 11) (v := .ref (a0 28)) (C := RX13) (T := TX13) (N := 64) hx hb hts in_X13 hown hK hP 0 rfl rfl 48 (by decide) lk4 (fun _ h9 => h9) rfl dX13_receipt_60 ?_
            refine lv_iconst (v := (3 : Int32)) hx hb dX13_receipt_63 (by decide) ?_
            refine lv_aload_n hx hb dX13_receipt_64 rfl (lv_at hl 0 rfl) ?_
            refine va_get (D := (dC, dI)) (ci := 11) (v := .int grc.1) (C := RX13) (T := TX13) (N := 64) hx hb hts in_X13 hown hK hP 0 rfl rfl 47 (by decide) lk2 (fun _ h9 => h9) rfl dX13_receipt_65 ?_
            refine lv_imul hx hb dX13_receipt_68 ?_
            refine lv_iload_n hx hb dX13_receipt_69 rfl (lv_at hl 1 rfl) ?_
            obtain ⟨hi10, h⟩ := ok_if h
            refine va_iast hx hb hK hP hD hS 2 1 rfl rfl (ix_in hi10) dX13_receipt_70 (fun H locs hP hD hS => ?_)
            have hP : va_P (dC, dI) vwCl (w_X13_receipt cy a0 ((0 : Int32)) gvm gtd gfl grf grd gnv gac ((grc.1, (upd grc.2 ((3 : Int32) * grc.1).toNatClampNeg x1))) gim) H := hP
            have hD : va_D A (w_X13_receipt cy a0 ((0 : Int32)) gvm gtd gfl grf grd gnv gac ((grc.1, (upd grc.2 ((3 : Int32) * grc.1).toNatClampNeg x1))) gim) := hD
            refine lv_aload_n hx hb dX13_receipt_71 rfl (lv_at hl 0 rfl) ?_
            refine va_get (D := (dC, dI)) (ci := 11) (v := .ref (a0 28)) (C := RX13) (T := TX13) (N := 64) hx hb hts in_X13 hown hK hP 0 rfl rfl 48 (by decide) lk4 (fun _ h9 => h9) rfl dX13_receipt_72 ?_
            refine lv_iconst (v := (3 : Int32)) hx hb dX13_receipt_75 (by decide) ?_
            refine lv_aload_n hx hb dX13_receipt_76 rfl (lv_at hl 0 rfl) ?_
            refine va_get (D := (dC, dI)) (ci := 11) (v := .int grc.1) (C := RX13) (T := TX13) (N := 64) hx hb hts in_X13 hown hK hP 0 rfl rfl 47 (by decide) lk2 (fun _ h9 => h9) rfl dX13_receipt_77 ?_
            refine lv_imul hx hb dX13_receipt_80 ?_
            refine lv_iconst (v := (1 : Int32)) hx hb dX13_receipt_81 (by decide) ?_
            refine lv_iadd hx hb dX13_receipt_82 ?_
            refine lv_iload_n hx hb dX13_receipt_83 rfl (lv_at hl 2 rfl) ?_
            obtain ⟨hi11, h⟩ := ok_if h
            refine va_iast hx hb hK hP hD hS 2 1 rfl rfl (ix_in hi11) dX13_receipt_84 (fun H locs hP hD hS => ?_)
            have hP : va_P (dC, dI) vwCl (w_X13_receipt cy a0 ((0 : Int32)) gvm gtd gfl grf grd gnv gac ((grc.1, (upd (upd grc.2 ((3 : Int32) * grc.1).toNatClampNeg x1) (((3 : Int32) * grc.1) + (1 : Int32)).toNatClampNeg x2))) gim) H := hP
            have hD : va_D A (w_X13_receipt cy a0 ((0 : Int32)) gvm gtd gfl grf grd gnv gac ((grc.1, (upd (upd grc.2 ((3 : Int32) * grc.1).toNatClampNeg x1) (((3 : Int32) * grc.1) + (1 : Int32)).toNatClampNeg x2))) gim) := hD
            refine lv_aload_n hx hb dX13_receipt_85 rfl (lv_at hl 0 rfl) ?_
            refine va_get (D := (dC, dI)) (ci := 11) (v := .ref (a0 28)) (C := RX13) (T := TX13) (N := 64) hx hb hts in_X13 hown hK hP 0 rfl rfl 48 (by decide) lk4 (fun _ h9 => h9) rfl dX13_receipt_86 ?_
            refine lv_iconst (v := (3 : Int32)) hx hb dX13_receipt_89 (by decide) ?_
            refine lv_aload_n hx hb dX13_receipt_90 rfl (lv_at hl 0 rfl) ?_
            refine va_get (D := (dC, dI)) (ci := 11) (v := .int grc.1) (C := RX13) (T := TX13) (N := 64) hx hb hts in_X13 hown hK hP 0 rfl rfl 47 (by decide) lk2 (fun _ h9 => h9) rfl dX13_receipt_91 ?_
            refine lv_imul hx hb dX13_receipt_94 ?_
            refine lv_iconst (v := (2 : Int32)) hx hb dX13_receipt_95 (by decide) ?_
            refine lv_iadd hx hb dX13_receipt_96 ?_
            refine lv_iload_n hx hb dX13_receipt_97 rfl (lv_at hl 3 rfl) ?_
            obtain ⟨hi12, h⟩ := ok_if h
            refine va_iast hx hb hK hP hD hS 2 1 rfl rfl (ix_in hi12) dX13_receipt_98 (fun H locs hP hD hS => ?_)
            have hP : va_P (dC, dI) vwCl (w_X13_receipt cy a0 ((0 : Int32)) gvm gtd gfl grf grd gnv gac ((grc.1, (upd (upd (upd grc.2 ((3 : Int32) * grc.1).toNatClampNeg x1) (((3 : Int32) * grc.1) + (1 : Int32)).toNatClampNeg x2) (((3 : Int32) * grc.1) + (2 : Int32)).toNatClampNeg x3))) gim) H := hP
            have hD : va_D A (w_X13_receipt cy a0 ((0 : Int32)) gvm gtd gfl grf grd gnv gac ((grc.1, (upd (upd (upd grc.2 ((3 : Int32) * grc.1).toNatClampNeg x1) (((3 : Int32) * grc.1) + (1 : Int32)).toNatClampNeg x2) (((3 : Int32) * grc.1) + (2 : Int32)).toNatClampNeg x3))) gim) := hD
            refine lv_aload_n hx hb dX13_receipt_99 rfl (lv_at hl 0 rfl) ?_
            refine lv_dup hx hb dX13_receipt_100 rfl ?_
            refine va_get (D := (dC, dI)) (ci := 11) (v := .int grc.1) (C := RX13) (T := TX13) (N := 64) hx hb hts in_X13 hown hK hP 0 rfl rfl 47 (by decide) lk2 (fun _ h9 => h9) rfl dX13_receipt_101 ?_
            refine lv_iconst (v := (1 : Int32)) hx hb dX13_receipt_104 (by decide) ?_
            refine lv_iadd hx hb dX13_receipt_105 ?_
            refine va_put (D := (dC, dI)) (ci := 11) (v := .int (grc.1 + (1 : Int32))) (ty := .int) (C := RX13) (T := TX13) (N := 64) hx hb hts in_X13 tyX13 tyX13_ok nmX13 hown hK hP hD hS 0 rfl rfl 47 (by decide) lk2 (fun _ h9 => h9) rfl (by decide +kernel) rfl rfl (Nat.le_of_ble_eq_true rfl) dX13_receipt_106 (fun H locs hP hD hS => ?_)
            have hP : va_P (dC, dI) vwCl (w_X13_receipt cy a0 ((0 : Int32)) gvm gtd gfl grf grd gnv gac (((grc.1 + (1 : Int32)), (upd (upd (upd grc.2 ((3 : Int32) * grc.1).toNatClampNeg x1) (((3 : Int32) * grc.1) + (1 : Int32)).toNatClampNeg x2) (((3 : Int32) * grc.1) + (2 : Int32)).toNatClampNeg x3))) gim) H := hP
            have hD : va_D A (w_X13_receipt cy a0 ((0 : Int32)) gvm gtd gfl grf grd gnv gac (((grc.1 + (1 : Int32)), (upd (upd (upd grc.2 ((3 : Int32) * grc.1).toNatClampNeg x1) (((3 : Int32) * grc.1) + (1 : Int32)).toNatClampNeg x2) (((3 : Int32) * grc.1) + (2 : Int32)).toNatClampNeg x3))) gim) := hD
            refine lv_aload_n hx hb dX13_receipt_109 rfl (lv_at hl 0 rfl) ?_
            refine va_get (D := (dC, dI)) (ci := 11) (v := .int (grc.1 + (1 : Int32))) (C := RX13) (T := TX13) (N := 64) hx hb hts in_X13 hown hK hP 0 rfl rfl 47 (by decide) lk2 (fun _ h9 => h9) rfl dX13_receipt_110 ?_
            exact W.iret (v := (grc.1 + (1 : Int32))) hx hb hr (fun t ht hW => by rw [hqq]; have hh := Option.some.inj h; exact ⟨⟨(grc.1 + (1 : Int32)), (((0 : Int32), grf, ((grc.1 + (1 : Int32)), (upd (upd (upd grc.2 ((3 : Int32) * grc.1).toNatClampNeg x1) (((3 : Int32) * grc.1) + (1 : Int32)).toNatClampNeg x2) (((3 : Int32) * grc.1) + (2 : Int32)).toNatClampNeg x3)))), rfl, ⟨fst_of hh, snd_of hh⟩, by rw [ht]; exact hP, va_K.moved hW.alike hK⟩, hS.F ht⟩) hS.2.2 dX13_receipt_113
          · rw [if_pos c9] at h
            exact c47 () (0 : Int32) grf grc H locs ls h hP hD hS (lv_sub hl [0] rfl)
