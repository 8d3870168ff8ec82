abbrev w_X13_lay (cy : Nat → ClassId) (a0 : Nat → Nat) (gth : Int32) (gvm : Int32 × Int32 × Int32 × (Nat → Int32) × (Nat → Int32) × (Nat → Int32) × (Nat → Int32) × (Nat → Int32) × (Nat → Int32) × (Nat → Int32) × (Nat → Int32) × (Nat → Int32)) (gtd : Int32) (gfl : Int32 × Int32) (grd : Int32 × Int32 × Int32 × Int32 × Int32 × Int32 × Int64 × (Nat → Int32)) (gnv : Int32 × Int32 × Int32 × Int32 × Int32 × (Nat → Int32) × (Nat → Int32) × (Nat → Int32) × (Nat → Int32) × (Nat → Int32) × (Nat → Int32)) (gac : Int32 × (Nat → Int32) × (Nat → Int32)) (gla : (Nat → Int32)) (grc : Int32 × (Nat → Int32)) (gim : Int32 × Int32 × Int32 × (Nat → Int32) × (Nat → Int32) × (Nat → Int32) × (Nat → Int32) × (Nat → Int32) × (Nat → Int32) × (Nat → Int32) × (Nat → Int32) × (Nat → Int32)) : va_W := [(a0 0, .inr (11, [.int (gth), .int (gvm.1), .int (gvm.2.1), .int (gvm.2.2.1), .ref (a0 1), .ref (a0 2), .ref (a0 3), .ref (a0 4), .ref (a0 5), .ref (a0 6), .ref (a0 7), .ref (a0 8), .ref (a0 9), .ref (a0 10), .int (gtd), .int (gfl.1), .int (gfl.2), .ref (a0 11), .int (grd.1), .int (grd.2.1), .int (grd.2.2.1), .int (grd.2.2.2.1), .int (grd.2.2.2.2.1), .int (grd.2.2.2.2.2.1), .long (grd.2.2.2.2.2.2.1), .ref (a0 12), .int (gnv.1), .int (gnv.2.1), .int (gnv.2.2.1), .int (gnv.2.2.2.1), .int (gnv.2.2.2.2.1), .ref (a0 13), .ref (a0 14), .ref (a0 15), .ref (a0 16), .ref (a0 17), .ref (a0 18), .int (gac.1), .ref (a0 19), .ref (a0 20), .ref (a0 21), .ref (a0 22), .ref (a0 23), .ref (a0 24), .ref (a0 25), .ref (a0 26), .ref (a0 27), .int (grc.1), .ref (a0 28), .ref (a0 29), .ref (a0 30), .ref (a0 31), .int (gim.1), .int (gim.2.1), .int (gim.2.2.1), .ref (a0 32), .ref (a0 33), .ref (a0 34), .ref (a0 35), .ref (a0 36), .ref (a0 37), .ref (a0 38), .ref (a0 39), .ref (a0 40)])), (a0 1, .inl (cy 1, 5, .inl (gvm.2.2.2.1))), (a0 2, .inl (cy 1, 5, .inl (gvm.2.2.2.2.1))), (a0 3, .inl (cy 1, 5, .inl (gvm.2.2.2.2.2.1))), (a0 4, .inl (cy 1, 25, .inl (gvm.2.2.2.2.2.2.1))), (a0 5, .inl (cy 1, 10, .inl (gvm.2.2.2.2.2.2.2.1))), (a0 6, .inl (cy 1, 10, .inl (gvm.2.2.2.2.2.2.2.2.1))), (a0 7, .inl (cy 1, 10, .inl (gvm.2.2.2.2.2.2.2.2.2.1))), (a0 8, .inl (cy 1, 10, .inl (gvm.2.2.2.2.2.2.2.2.2.2.1))), (a0 9, .inl (cy 1, 50, .inl (gvm.2.2.2.2.2.2.2.2.2.2.2))), (a0 21, .inl (cy 1, 620, .inl (gla)))]
abbrev rm_X13_lay : Room := { frames := 1, cells := 0, slots := 0, locals := 27 }
set_option maxHeartbeats 1000000 in
set_option maxRecDepth 100000 in
theorem c_X13_lay (l : Launch) (dC : Nat → ClassId) (dI : Nat → Nat → Nat) (cy : Nat → ClassId) (a0 : Nat → Nat) (gth : Int32) (gvm : Int32 × Int32 × Int32 × (Nat → Int32) × (Nat → Int32) × (Nat → Int32) × (Nat → Int32) × (Nat → Int32) × (Nat → Int32) × (Nat → Int32) × (Nat → Int32) × (Nat → Int32)) (gtd : Int32) (gfl : Int32 × Int32) (grd : Int32 × Int32 × Int32 × Int32 × Int32 × Int32 × Int64 × (Nat → Int32)) (gnv : Int32 × Int32 × Int32 × Int32 × Int32 × (Nat → Int32) × (Nat → Int32) × (Nat → Int32) × (Nat → Int32) × (Nat → Int32) × (Nat → Int32)) (gac : Int32 × (Nat → Int32) × (Nat → Int32)) (gla : (Nat → Int32)) (grc : Int32 × (Nat → Int32)) (gim : Int32 × Int32 × Int32 × (Nat → Int32) × (Nat → Int32) × (Nat → Int32) × (Nat → Int32) × (Nat → Int32) × (Nat → Int32) × (Nat → Int32) × (Nat → Int32) × (Nat → Int32)) (sz : Nat) (R0 : ((Nat → Int32))) (h : p_X13_lay gvm gla = some R0) : Met l yX13_lay wsX13_lay rm_X13_lay (va_Pc [.ref (a0 0)] (prC dC dI cy (w_X13_lay cy a0 gth gvm gtd gfl grd gnv gac gla grc gim) sz)) (va_Qv (fun (u : ((Nat → Int32))) => u = R0) (fun (u : ((Nat → Int32))) t => poC dC dI cy (w_X13_lay cy a0 gth gvm gtd gfl grd gnv gac u grc gim) t) (va_A (w_X13_lay cy a0 gth gvm gtd gfl grd gnv gac gla grc gim) sz)) 0 0 (va_A (w_X13_lay cy a0 gth gvm gtd gfl grd gnv gac gla grc gim) sz) := by
  refine Met.ofW (cc := cX13_lay) (maxL := 3) (ret := none) (by decide) rfl ?_
  intro p e s m aa below meth c s₁ B hml hv
  obtain ⟨haa, hsz, hP, hK, hD0⟩ := hv
  have hx := B.exec
  have hb := B.bytes
  have hr := B.returns
  have hts := atoms_spec (ws := wsX13_lay) B.pre
  have hown : s.vm.findClass RX13 = some m.cls := findClass_of_methodNamed B.named
  have hlocks := B.notSynchronized
  subst hsz
  have hD := hD0.self (sz := s.heap.size)
  obtain ⟨qq, hqq⟩ : ∃ qq, qq = (va_Qv (fun (u : ((Nat → Int32))) => u = R0) (fun (u : ((Nat → Int32))) t => poC dC dI cy (w_X13_lay cy a0 gth gvm gtd gfl grd gnv gac u grc gim) t) (va_A (w_X13_lay cy a0 gth gvm gtd gfl grd gnv gac gla grc gim) s.heap.size)) := ⟨_, rfl⟩
  rw [← hqq]
  generalize hAe : va_A (w_X13_lay cy a0 gth gvm gtd gfl grd gnv gac gla grc gim) s.heap.size = A at hD hqq ⊢
  have hA : ∀ q : Nat, s.heap.size ≤ q → A q := fun q h => by rw [← hAe]; exact Or.inr h
  have hS : va_S A s.heap s.heap [] := va_S.rf
  have hl := lv_entry ([.ref (a0 0)]) (n := 3) (Nat.le_of_ble_eq_true rfl)
  have hE : entryFrame m aa 3 = F0 m 0 ((lg_sl ([.ref (a0 0)]) ++ List.replicate (3 - (lg_sl ([.ref (a0 0)])).length) Slot.unset).toArray) [] := by rw [haa]; exact lg_entry_eq m _ 3
  refine W.eq hE ?_
  generalize (lg_sl ([.ref (a0 0)]) ++ List.replicate (3 - (lg_sl ([.ref (a0 0)])).length) Slot.unset).toArray = ls at hl ⊢
  have hl : lv_has ls 3 [(0, .ref (a0 0))] := hl
  change W p l e rm_X13_lay s m aa below meth c s.heap [] 0 0 (MQ below qq aa s 0 0 A) (F0 m 0 ls [])
  have hS0 := hS
  have lk0 := hts (.fieldLink RX13 74 "GoatDoorsModel" "laid" "[I") (by decide +kernel)
  have lk1 := hts (.fieldLink RX13 22 "GoatDoorsModel" "has" "[I") (by decide +kernel)
  have in_X13 : ∀ w ∈ wsX130, w ∈ wsX13_lay := by decide +kernel
  have c46 : ∀ (k2 : ((Nat → Int32)) → Int32 → Option (((Nat → Int32)))) (hk2 : ∀ (gla : (Nat → Int32)) (x1 : Int32) (H : Heap) (locs : List Loc) (ls : Array Slot), k2 gla x1 = some R0 → va_P (dC, dI) vwCl (w_X13_lay cy a0 gth gvm gtd gfl grd gnv gac gla grc gim) H → va_D A (w_X13_lay cy a0 gth gvm gtd gfl grd gnv gac gla grc gim) → va_S A s.heap H locs → lv_has ls 3 [(0, .ref (a0 0)), (1, .int x1)] → W p l e rm_X13_lay s m aa below meth c H locs 0 0 (MQ below qq aa s 0 0 A) (F0 m 2 ls [])) (k10 : ((Nat → Int32)) → Int32 → Int32 → Option (((Nat → Int32)))) (hk10 : ∀ (gla : (Nat → Int32)) (x1 : Int32) (x2 : Int32) (H : Heap) (locs : List Loc) (ls : Array Slot), k10 gla x1 x2 = some R0 → va_P (dC, dI) vwCl (w_X13_lay cy a0 gth gvm gtd gfl grd gnv gac gla grc gim) H → va_D A (w_X13_lay cy a0 gth gvm gtd gfl grd gnv gac gla grc gim) → va_S A s.heap H locs → lv_has ls 3 [(0, .ref (a0 0)), (1, .int x1), (2, .int x2)] → W p l e rm_X13_lay s m aa below meth c H locs 0 0 (MQ below qq aa s 0 0 A) (F0 m 10 ls [])), ∀ (gla : (Nat → Int32)) (x1 : Int32) (x2 : Int32) (t1 : Int32) (t2 : Int32) (H : Heap) (locs : List Loc) (ls : Array Slot), p_X13_lay_46 k2 k10 gvm gla x1 x2 t1 t2 = some R0 → va_P (dC, dI) vwCl (w_X13_lay cy a0 gth gvm gtd gfl grd gnv gac gla grc gim) H → va_D A (w_X13_lay cy a0 gth gvm gtd gfl grd gnv gac gla grc gim) → va_S A s.heap H locs → lv_has ls 3 [(0, .ref (a0 0)), (1, .int x1), (2, .int x2)] → W p l e rm_X13_lay s m aa below meth c H locs 0 0 (MQ below qq aa s 0 0 A) (F0 m 46 ls [.int t2, .int t1, .ref (a0 21)]) := by
    intro k2 hk2 k10 hk10 gla x1 x2 t1 t2 H locs ls h hP hD hS hl
    unfold p_X13_lay_46 at h
    obtain ⟨hi1, h⟩ := ok_if h
    refine va_iast hx hb hK hP hD hS 10 1 rfl rfl (ix_in hi1) dX13_lay_46 (fun H locs hP hD hS => ?_)
    have hP : va_P (dC, dI) vwCl (w_X13_lay cy a0 gth gvm gtd gfl grd gnv gac ((upd gla t1.toNatClampNeg t2)) grc gim) H := hP
    have hD : va_D A (w_X13_lay cy a0 gth gvm gtd gfl grd gnv gac ((upd gla t1.toNatClampNeg t2)) grc gim) := hD
    refine lv_iinc (v := (x2 + (1 : Int32))) (lv' := [(2, .int (x2 + (1 : Int32))), (0, .ref (a0 0)), (1, .int x1)]) hx hb dX13_lay_47 hl (k := 2) rfl rfl (by decide) rfl (fun ls hl => ?_)
    refine lv_goto (tgt := 10) hx hb dX13_lay_50 (by decide) ?_
    exact hk10 (upd gla t1.toNatClampNeg t2) x1 (x2 + (1 : Int32)) H locs ls h hP hD hS (lv_sub hl [1, 2, 0] rfl)
  have c10 : ∀ (k2 : ((Nat → Int32)) → Int32 → Option (((Nat → Int32)))) (hk2 : ∀ (gla : (Nat → Int32)) (x1 : Int32) (H : Heap) (locs : List Loc) (ls : Array Slot), k2 gla x1 = some R0 → va_P (dC, dI) vwCl (w_X13_lay cy a0 gth gvm gtd gfl grd gnv gac gla grc gim) H → va_D A (w_X13_lay cy a0 gth gvm gtd gfl grd gnv gac gla grc gim) → va_S A s.heap H locs → lv_has ls 3 [(0, .ref (a0 0)), (1, .int x1)] → W p l e rm_X13_lay s m aa below meth c H locs 0 0 (MQ below qq aa s 0 0 A) (F0 m 2 ls [])) (n : Nat), ∀ (gla : (Nat → Int32)) (x1 : Int32) (x2 : Int32) (H : Heap) (locs : List Loc) (ls : Array Slot), p_X13_lay_10 k2 gvm n gla x1 x2 = some R0 → va_P (dC, dI) vwCl (w_X13_lay cy a0 gth gvm gtd gfl grd gnv gac gla grc gim) H → va_D A (w_X13_lay cy a0 gth gvm gtd gfl grd gnv gac gla grc gim) → va_S A s.heap H locs → lv_has ls 3 [(0, .ref (a0 0)), (1, .int x1), (2, .int x2)] → W p l e rm_X13_lay s m aa below meth c H locs 0 0 (MQ below qq aa s 0 0 A) (F0 m 10 ls []) := by
    intro k2 hk2 n
    induction n with
    | zero => intro gla x1 x2 H locs ls h; exact no_some h
    | succ n ih =>
      intro gla x1 x2 H locs ls h hP hD hS hl
      rw [p_X13_lay_10.eq_2] at h
      refine lv_iload_n hx hb dX13_lay_10 rfl (lv_at hl 2 rfl) ?_
      refine lv_bipush (v := (62 : Int32)) hx hb dX13_lay_11 (by decide) ?_
      refine lv_icmp_ge (tgt := 53) hx hb dX13_lay_13 (by decide) (fun c1 => ?_) (fun c1 => ?_)
      · rw [if_pos c1] at h
        refine lv_iinc (v := (x1 + (1 : Int32))) (lv' := [(1, .int (x1 + (1 : Int32))), (0, .ref (a0 0)), (2, .int x2)]) hx hb dX13_lay_53 hl (k := 1) rfl rfl (by decide) rfl (fun ls hl => ?_)
        refine lv_goto (tgt := 2) hx hb dX13_lay_56 (by decide) ?_
        exact hk2 gla (x1 + (1 : Int32)) H locs ls h hP hD hS (lv_sub hl [1, 0] rfl)
      · rw [if_neg c1] at h
        refine lv_aload_n hx hb dX13_lay_16 rfl (lv_at hl 0 rfl) ?_
        refine va_get (D := (dC, dI)) (ci := 11) (v := .ref (a0 21)) (C := RX13) (T := TX13) (N := 64) hx hb hts in_X13 hown hK hP 0 rfl rfl 40 (by decide) lk0 (fun _ h9 => h9) rfl dX13_lay_17 ?_
        refine lv_bipush (v := (62 : Int32)) hx hb dX13_lay_20 (by decide) ?_
        refine lv_iload_n hx hb dX13_lay_22 rfl (lv_at hl 1 rfl) ?_
        refine lv_imul hx hb dX13_lay_23 ?_
        refine lv_iload_n hx hb dX13_lay_24 rfl (lv_at hl 2 rfl) ?_
        refine lv_iadd hx hb dX13_lay_25 ?_
        refine lv_aload_n hx hb dX13_lay_26 rfl (lv_at hl 0 rfl) ?_
        refine va_get (D := (dC, dI)) (ci := 11) (v := .ref (a0 5)) (C := RX13) (T := TX13) (N := 64) hx hb hts in_X13 hown hK hP 0 rfl rfl 8 (by decide) lk1 (fun _ h9 => h9) rfl dX13_lay_27 ?_
        refine lv_iload_n hx hb dX13_lay_30 rfl (lv_at hl 1 rfl) ?_
        obtain ⟨hi2, h⟩ := ok_if h
        refine va_iald hx hb hK hP 5 1 rfl rfl (ix_in hi2) dX13_lay_31 ?_
        refine lv_iconst (v := (1 : Int32)) hx hb dX13_lay_32 (by decide) ?_
        refine lv_icmp_ne (tgt := 45) hx hb dX13_lay_33 (by decide) (fun c3 => ?_) (fun c3 => ?_)
        · rw [if_neg c3] at h
          refine lv_iconst (v := (0 : Int32)) hx hb dX13_lay_45 (by decide) ?_
          exact c46 k2 hk2 (p_X13_lay_10 k2 gvm n) ih gla x1 x2 (((62 : Int32) * x1) + x2) (0 : Int32) H locs ls h hP hD hS (lv_sub hl [0, 1, 2] rfl)
        · rw [if_pos c3] at h
          refine lv_aload_n hx hb dX13_lay_36 rfl (lv_at hl 0 rfl) ?_
          refine lv_iload_n hx hb dX13_lay_37 rfl (lv_at hl 1 rfl) ?_
          refine lv_iload_n hx hb dX13_lay_38 rfl (lv_at hl 2 rfl) ?_
          obtain ⟨v4, hv5, h⟩ := ok_bind h
          refine cl_vi (w2 := fun (_ : Unit) => w_X13_lay cy a0 gth gvm gtd gfl grd gnv gac gla grc gim) (As := [.int x1, .int x2]) (rest := [.int (((62 : Int32) * x1) + x2), .ref (a0 21)]) ⟨hx, hb, hml, hown, hts⟩ (c_X13_worthOf l dC dI cy a0 gth gvm gtd gfl grd gnv gac grc gim x1 x2 H.size v4 hv5) (cwV 2 hts gX13_lay_X13_worthOf rfl rfl rfl (by decide +kernel) ⟨Nat.le_of_ble_eq_true rfl, Nat.le_of_ble_eq_true rfl⟩) (va_recv hK hP (ci := 11) (q0 := 0) rfl rfl) cl_blind (cl_pre hK hP hD [0, 1, 2, 3, 4, 5, 6, 7, 8, 9] (by decide) rfl) hP hD hS hA [0, 1, 2, 3, 4, 5, 6, 7, 8, 9] rfl rfl hl.1 rfl (lv_room (Nat.le_of_ble_eq_true rfl)) dX13_lay_39 ⟨Nat.le_of_ble_eq_true rfl, Nat.le_of_ble_eq_true rfl⟩ ⟨rfl, rfl⟩ (fun _ => updR [0, 1, 2, 3, 4, 5, 6, 7, 8, 9] rfl) (fun r u H locs hw hP hD hS => ?_)
          have hw := hw.symm
          subst hw
          have hP : va_P (dC, dI) vwCl (w_X13_lay cy a0 gth gvm gtd gfl grd gnv gac gla grc gim) H := hP
          have hD : va_D A (w_X13_lay cy a0 gth gvm gtd gfl grd gnv gac gla grc gim) := hD
          refine lv_goto (tgt := 46) hx hb dX13_lay_42 (by decide) ?_
          exact c46 k2 hk2 (p_X13_lay_10 k2 gvm n) ih gla x1 x2 (((62 : Int32) * x1) + x2) v4 H locs ls h hP hD hS (lv_sub hl [0, 1, 2] rfl)
  have c2 : ∀ (n : Nat), ∀ (gla : (Nat → Int32)) (x1 : Int32) (H : Heap) (locs : List Loc) (ls : Array Slot), p_X13_lay_2 gvm n gla x1 = some R0 → va_P (dC, dI) vwCl (w_X13_lay cy a0 gth gvm gtd gfl grd gnv gac gla grc gim) H → va_D A (w_X13_lay cy a0 gth gvm gtd gfl grd gnv gac gla grc gim) → va_S A s.heap H locs → lv_has ls 3 [(0, .ref (a0 0)), (1, .int x1)] → W p l e rm_X13_lay s m aa below meth c H locs 0 0 (MQ below qq aa s 0 0 A) (F0 m 2 ls []) := by
    intro  n
    induction n with
    | zero => intro gla x1 H locs ls h; exact no_some h
    | succ n ih =>
      intro gla x1 H locs ls h hP hD hS hl
      rw [p_X13_lay_2.eq_2] at h
      refine lv_iload_n hx hb dX13_lay_2 rfl (lv_at hl 1 rfl) ?_
      refine lv_bipush (v := (10 : Int32)) hx hb dX13_lay_3 (by decide) ?_
      refine lv_icmp_ge (tgt := 59) hx hb dX13_lay_5 (by decide) (fun c1 => ?_) (fun c1 => ?_)
      · rw [if_pos c1] at h
        exact W.vret hx hb hr (fun t ht hW => by rw [hqq]; have hh := Option.some.inj h; exact ⟨⟨(gla), rfl, Option.some.inj h, by rw [ht]; exact hP, va_K.moved hW.alike hK⟩, hS.F ht⟩) hS.2.2 dX13_lay_59
      · rw [if_neg c1] at h
        refine lv_iconst (v := (0 : Int32)) hx hb dX13_lay_8 (by decide) ?_
        refine lv_istore_n (lv' := [(2, .int (0 : Int32)), (0, .ref (a0 0)), (1, .int x1)]) hx hb dX13_lay_9 rfl hl (by decide) rfl (fun ls hl => ?_)
        exact c10 (p_X13_lay_2 gvm n) ih fu gla x1 (0 : Int32) H locs ls h hP hD hS (lv_sub hl [1, 2, 0] rfl)
  obtain ⟨H, hH⟩ : ∃ H : Heap, H = s.heap := ⟨_, rfl⟩
  obtain ⟨locs, hlocs⟩ : ∃ locs : List Loc, locs = [] := ⟨_, rfl⟩
  have hS : va_S A s.heap H locs := by rw [hH, hlocs]; exact hS
  rw [← hH] at hP
  suffices hg : W p l e rm_X13_lay s m aa below meth c H locs 0 0 (MQ below qq aa s 0 0 A) (F0 m 0 ls []) by subst hH; subst hlocs; exact hg
  unfold p_X13_lay at h
  refine lv_iconst (v := (0 : Int32)) hx hb dX13_lay_0 (by decide) ?_
  refine lv_istore_n (lv' := [(1, .int (0 : Int32)), (0, .ref (a0 0))]) hx hb dX13_lay_1 rfl hl (by decide) rfl (fun ls hl => ?_)
  exact c2 fu gla (0 : Int32) H locs ls h hP hD hS (lv_sub hl [1, 0] rfl)

abbrev w_X13_oweBy (cy : Nat → ClassId) (a0 : Nat → Nat) (gth : Int32) (gvm : Int32 × Int32 × Int32 × (Nat → Int32) × (Nat → Int32) × (Nat → Int32) × (Nat → Int32) × (Nat → Int32) × (Nat → Int32) × (Nat → Int32) × (Nat → Int32) × (Nat → Int32)) (gtd : Int32) (gfl : Int32 × Int32) (grd : Int32 × Int32 × Int32 × Int32 × Int32 × Int32 × Int64 × (Nat → Int32)) (gnv : Int32 × Int32 × Int32 × Int32 × Int32 × (Nat → Int32) × (Nat → Int32) × (Nat → Int32) × (Nat → Int32) × (Nat → Int32) × (Nat → Int32)) (gac : Int32 × (Nat → Int32) × (Nat → Int32)) (gla : (Nat → Int32)) (grc : Int32 × (Nat → Int32)) (gim : Int32 × Int32 × Int32 × (Nat → Int32) × (Nat → Int32) × (Nat → Int32) × (Nat → Int32) × (Nat → Int32) × (Nat → Int32) × (Nat → Int32) × (Nat → Int32) × (Nat → Int32)) : va_W := [(a0 0, .inr (11, [.int (gth), .int (gvm.1), .int (gvm.2.1), .int (gvm.2.2.1), .ref (a0 1), .ref (a0 2), .ref (a0 3), .ref (a0 4), .ref (a0 5), .ref (a0 6), .ref (a0 7), .ref (a0 8), .ref (a0 9), .ref (a0 10), .int (gtd), .int (gfl.1), .int (gfl.2), .ref (a0 11), .int (grd.1), .int (grd.2.1), .int (grd.2.2.1), .int (grd.2.2.2.1), .int (grd.2.2.2.2.1), .int (grd.2.2.2.2.2.1), .long (grd.2.2.2.2.2.2.1), .ref (a0 12), .int (gnv.1), .int (gnv.2.1), .int (gnv.2.2.1), .int (gnv.2.2.2.1), .int (gnv.2.2.2.2.1), .ref (a0 13), .ref (a0 14), .ref (a0 15), .ref (a0 16), .ref (a0 17), .ref (a0 18), .int (gac.1), .ref (a0 19), .ref (a0 20), .ref (a0 21), .ref (a0 22), .ref (a0 23), .ref (a0 24), .ref (a0 25), .ref (a0 26), .ref (a0 27), .int (grc.1), .ref (a0 28), .ref (a0 29), .ref (a0 30), .ref (a0 31), .int (gim.1), .int (gim.2.1), .int (gim.2.2.1), .ref (a0 32), .ref (a0 33), .ref (a0 34), .ref (a0 35), .ref (a0 36), .ref (a0 37), .ref (a0 38), .ref (a0 39), .ref (a0 40)])), (a0 1, .inl (cy 1, 5, .inl (gvm.2.2.2.1))), (a0 2, .inl (cy 1, 5, .inl (gvm.2.2.2.2.1))), (a0 3, .inl (cy 1, 5, .inl (gvm.2.2.2.2.2.1))), (a0 4, .inl (cy 1, 25, .inl (gvm.2.2.2.2.2.2.1))), (a0 5, .inl (cy 1, 10, .inl (gvm.2.2.2.2.2.2.2.1))), (a0 6, .inl (cy 1, 10, .inl (gvm.2.2.2.2.2.2.2.2.1))), (a0 7, .inl (cy 1, 10, .inl (gvm.2.2.2.2.2.2.2.2.2.1))), (a0 8, .inl (cy 1, 10, .inl (gvm.2.2.2.2.2.2.2.2.2.2.1))), (a0 9, .inl (cy 1, 50, .inl (gvm.2.2.2.2.2.2.2.2.2.2.2))), (a0 21, .inl (cy 1, 620, .inl (gla)))]
abbrev rm_X13_oweBy : Room := { frames := 0, cells := 0, slots := 0, locals := 0 }
set_option maxHeartbeats 1000000 in
set_option maxRecDepth 100000 in
theorem c_X13_oweBy (l : Launch) (dC : Nat → ClassId) (dI : Nat → Nat → Nat) (cy : Nat → ClassId) (a0 : Nat → Nat) (gth : Int32) (gvm : Int32 × Int32 × Int32 × (Nat → Int32) × (Nat → Int32) × (Nat → Int32) × (Nat → Int32) × (Nat → Int32) × (Nat → Int32) × (Nat → Int32) × (Nat → Int32) × (Nat → Int32)) (gtd : Int32) (gfl : Int32 × Int32) (grd : Int32 × Int32 × Int32 × Int32 × Int32 × Int32 × Int64 × (Nat → Int32)) (gnv : Int32 × Int32 × Int32 × Int32 × Int32 × (Nat → Int32) × (Nat → Int32) × (Nat → Int32) × (Nat → Int32) × (Nat → Int32) × (Nat → Int32)) (gac : Int32 × (Nat → Int32) × (Nat → Int32)) (gla : (Nat → Int32)) (grc : Int32 × (Nat → Int32)) (gim : Int32 × Int32 × Int32 × (Nat → Int32) × (Nat → Int32) × (Nat → Int32) × (Nat → Int32) × (Nat → Int32) × (Nat → Int32) × (Nat → Int32) × (Nat → Int32) × (Nat → Int32)) (x1 : Int32) (x2 : Int32) (sz : Nat) (R0 : Int32) (h : p_X13_oweBy gvm gla x1 x2 = some R0) : Met l yX13_oweBy wsX13_oweBy rm_X13_oweBy (va_Pc [.ref (a0 0), .int x1, .int x2] (prC dC dI cy (w_X13_oweBy cy a0 gth gvm gtd gfl grd gnv gac gla grc gim) sz)) (va_Qi (fun (r : Int32) (_ : Unit) => r = R0) (fun (_ : Unit) t => poC dC dI cy (w_X13_oweBy cy a0 gth gvm gtd gfl grd gnv gac gla grc gim) t) (va_A (w_X13_oweBy cy a0 gth gvm gtd gfl grd gnv gac gla grc gim) sz)) 0 0 (va_A (w_X13_oweBy cy a0 gth gvm gtd gfl grd gnv gac gla grc gim) sz) := by
  refine Met.ofW (cc := cX13_oweBy) (maxL := 5) (ret := (some .int)) (by decide) rfl ?_
  intro p e s m aa below meth c s₁ B hml hv
  obtain ⟨haa, hsz, hP, hK, hD0⟩ := hv
  have hx := B.exec
  have hb := B.bytes
  have hr := B.returns
  have hts := atoms_spec (ws := wsX13_oweBy) B.pre
  have hown : s.vm.findClass RX13 = some m.cls := findClass_of_methodNamed B.named
  have hlocks := B.notSynchronized
  subst hsz
  have hD := hD0.self (sz := s.heap.size)
  obtain ⟨qq, hqq⟩ : ∃ qq, qq = (va_Qi (fun (r : Int32) (_ : Unit) => r = R0) (fun (_ : Unit) t => poC dC dI cy (w_X13_oweBy cy a0 gth gvm gtd gfl grd gnv gac gla grc gim) t) (va_A (w_X13_oweBy cy a0 gth gvm gtd gfl grd gnv gac gla grc gim) s.heap.size)) := ⟨_, rfl⟩
  rw [← hqq]
  generalize hAe : va_A (w_X13_oweBy cy a0 gth gvm gtd gfl grd gnv gac gla grc gim) s.heap.size = A at hD hqq ⊢
  have hA : ∀ q : Nat, s.heap.size ≤ q → A q := fun q h => by rw [← hAe]; exact Or.inr h
  have hS : va_S A s.heap s.heap [] := va_S.rf
  have hl := lv_entry ([.ref (a0 0), .int x1, .int x2]) (n := 5) (Nat.le_of_ble_eq_true rfl)
  have hE : entryFrame m aa 5 = F0 m 0 ((lg_sl ([.ref (a0 0), .int x1, .int x2]) ++ List.replicate (5 - (lg_sl ([.ref (a0 0), .int x1, .int x2])).length) Slot.unset).toArray) [] := by rw [haa]; exact lg_entry_eq m _ 5
  refine W.eq hE ?_
  generalize (lg_sl ([.ref (a0 0), .int x1, .int x2]) ++ List.replicate (5 - (lg_sl ([.ref (a0 0), .int x1, .int x2])).length) Slot.unset).toArray = ls at hl ⊢
  have hl : lv_has ls 5 [(0, .ref (a0 0)), (1, .int x1), (2, .int x2)] := hl
  change W p l e rm_X13_oweBy s m aa below meth c s.heap [] 0 0 (MQ below qq aa s 0 0 A) (F0 m 0 ls [])
  have hS0 := hS
  have lk0 := hts (.fieldLink RX13 22 "GoatDoorsModel" "has" "[I") (by decide +kernel)
  have lk1 := hts (.fieldLink RX13 25 "GoatDoorsModel" "by" "[I") (by decide +kernel)
  have lk2 := hts (.fieldLink RX13 74 "GoatDoorsModel" "laid" "[I") (by decide +kernel)
  have in_X13 : ∀ w ∈ wsX130, w ∈ wsX13_oweBy := by decide +kernel
  have c51 : ∀ (k5 : Int32 → Int32 → Int32 → Int32 → Option (Int32)) (hk5 : ∀ (x1 : Int32) (x2 : Int32) (x3 : Int32) (x4 : Int32) (H : Heap) (locs : List Loc) (ls : Array Slot), k5 x1 x2 x3 x4 = some R0 → va_P (dC, dI) vwCl (w_X13_oweBy cy a0 gth gvm gtd gfl grd gnv gac gla grc gim) H → va_D A (w_X13_oweBy cy a0 gth gvm gtd gfl grd gnv gac gla grc gim) → va_S A s.heap H locs → lv_has ls 5 [(0, .ref (a0 0)), (1, .int x1), (2, .int x2), (3, .int x3), (4, .int x4)] → W p l e rm_X13_oweBy s m aa below meth c H locs 0 0 (MQ below qq aa s 0 0 A) (F0 m 5 ls [])), ∀ (x1 : Int32) (x2 : Int32) (x4 : Int32) (t0 : Int32) (t1 : Int32) (H : Heap) (locs : List Loc) (ls : Array Slot), p_X13_oweBy_51 k5 gvm gla x1 x2 x4 t0 t1 = some R0 → va_P (dC, dI) vwCl (w_X13_oweBy cy a0 gth gvm gtd gfl grd gnv gac gla grc gim) H → va_D A (w_X13_oweBy cy a0 gth gvm gtd gfl grd gnv gac gla grc gim) → va_S A s.heap H locs → lv_has ls 5 [(0, .ref (a0 0)), (1, .int x1), (2, .int x2), (4, .int x4)] → W p l e rm_X13_oweBy s m aa below meth c H locs 0 0 (MQ below qq aa s 0 0 A) (F0 m 51 ls [.int t1, .int t0]) := by
    intro k5 hk5 x1 x2 x4 t0 t1 H locs ls h hP hD hS hl
    unfold p_X13_oweBy_51 at h
    refine lv_iadd hx hb dX13_oweBy_51 ?_
    refine lv_istore_n (lv' := [(3, .int (t0 + t1)), (0, .ref (a0 0)), (1, .int x1), (2, .int x2), (4, .int x4)]) hx hb dX13_oweBy_52 rfl hl (by decide) rfl (fun ls hl => ?_)
    refine lv_iinc (v := (x4 + (1 : Int32))) (lv' := [(4, .int (x4 + (1 : Int32))), (3, .int (t0 + t1)), (0, .ref (a0 0)), (1, .int x1), (2, .int x2)]) hx hb dX13_oweBy_53 hl (k := 4) rfl rfl (by decide) rfl (fun ls hl => ?_)
    refine lv_goto (tgt := 5) hx hb dX13_oweBy_56 (by decide) ?_
    exact hk5 x1 x2 (t0 + t1) (x4 + (1 : Int32)) H locs ls h hP hD hS (lv_sub hl [2, 3, 4, 1, 0] rfl)
  have c50 : ∀ (k5 : Int32 → Int32 → Int32 → Int32 → Option (Int32)) (hk5 : ∀ (x1 : Int32) (x2 : Int32) (x3 : Int32) (x4 : Int32) (H : Heap) (locs : List Loc) (ls : Array Slot), k5 x1 x2 x3 x4 = some R0 → va_P (dC, dI) vwCl (w_X13_oweBy cy a0 gth gvm gtd gfl grd gnv gac gla grc gim) H → va_D A (w_X13_oweBy cy a0 gth gvm gtd gfl grd gnv gac gla grc gim) → va_S A s.heap H locs → lv_has ls 5 [(0, .ref (a0 0)), (1, .int x1), (2, .int x2), (3, .int x3), (4, .int x4)] → W p l e rm_X13_oweBy s m aa below meth c H locs 0 0 (MQ below qq aa s 0 0 A) (F0 m 5 ls [])), ∀ (x1 : Int32) (x2 : Int32) (x4 : Int32) (t0 : Int32) (H : Heap) (locs : List Loc) (ls : Array Slot), p_X13_oweBy_50 k5 gvm gla x1 x2 x4 t0 = some R0 → va_P (dC, dI) vwCl (w_X13_oweBy cy a0 gth gvm gtd gfl grd gnv gac gla grc gim) H → va_D A (w_X13_oweBy cy a0 gth gvm gtd gfl grd gnv gac gla grc gim) → va_S A s.heap H locs → lv_has ls 5 [(0, .ref (a0 0)), (1, .int x1), (2, .int x2), (4, .int x4)] → W p l e rm_X13_oweBy s m aa below meth c H locs 0 0 (MQ below qq aa s 0 0 A) (F0 m 50 ls [.int t0]) := by
    intro k5 hk5 x1 x2 x4 t0 H locs ls h hP hD hS hl
    unfold p_X13_oweBy_50 at h
    refine lv_iconst (v := (0 : Int32)) hx hb dX13_oweBy_50 (by decide) ?_
    exact c51 k5 hk5 x1 x2 x4 t0 (0 : Int32) H locs ls h hP hD hS (lv_sub hl [0, 1, 2, 3] rfl)
  have c5 : ∀ (n : Nat), ∀ (x1 : Int32) (x2 : Int32) (x3 : Int32) (x4 : Int32) (H : Heap) (locs : List Loc) (ls : Array Slot), p_X13_oweBy_5 gvm gla n x1 x2 x3 x4 = some R0 → va_P (dC, dI) vwCl (w_X13_oweBy cy a0 gth gvm gtd gfl grd gnv gac gla grc gim) H → va_D A (w_X13_oweBy cy a0 gth gvm gtd gfl grd gnv gac gla grc gim) → va_S A s.heap H locs → lv_has ls 5 [(0, .ref (a0 0)), (1, .int x1), (2, .int x2), (3, .int x3), (4, .int x4)] → W p l e rm_X13_oweBy s m aa below meth c H locs 0 0 (MQ below qq aa s 0 0 A) (F0 m 5 ls []) := by
    intro  n
    induction n with
    | zero => intro x1 x2 x3 x4 H locs ls h; exact no_some h
    | succ n ih =>
      intro x1 x2 x3 x4 H locs ls h hP hD hS hl
      rw [p_X13_oweBy_5.eq_2] at h
      refine lv_iload hx hb dX13_oweBy_5 (lv_at hl 4 rfl) ?_
      refine lv_bipush (v := (10 : Int32)) hx hb dX13_oweBy_7 (by decide) ?_
      refine lv_icmp_ge (tgt := 59) hx hb dX13_oweBy_9 (by decide) (fun c1 => ?_) (fun c1 => ?_)
      · rw [if_pos c1] at h
        refine lv_iload_n hx hb dX13_oweBy_59 rfl (lv_at hl 3 rfl) ?_
        exact W.iret (v := x3) hx hb hr (fun t ht hW => by rw [hqq]; have hh := Option.some.inj h; exact ⟨⟨x3, (()), rfl, Option.some.inj h, by rw [ht]; exact hP, va_K.moved hW.alike hK⟩, hS.F ht⟩) hS.2.2 dX13_oweBy_60
      · rw [if_neg c1] at h
        refine lv_iload_n hx hb dX13_oweBy_12 rfl (lv_at hl 3 rfl) ?_
        refine lv_aload_n hx hb dX13_oweBy_13 rfl (lv_at hl 0 rfl) ?_
        refine va_get (D := (dC, dI)) (ci := 11) (v := .ref (a0 5)) (C := RX13) (T := TX13) (N := 64) hx hb hts in_X13 hown hK hP 0 rfl rfl 8 (by decide) lk0 (fun _ h9 => h9) rfl dX13_oweBy_14 ?_
        refine lv_iload hx hb dX13_oweBy_17 (lv_at hl 4 rfl) ?_
        obtain ⟨hi2, h⟩ := ok_if h
        refine va_iald hx hb hK hP 5 1 rfl rfl (ix_in hi2) dX13_oweBy_19 ?_
        refine lv_iconst (v := (1 : Int32)) hx hb dX13_oweBy_20 (by decide) ?_
        refine lv_icmp_ne (tgt := 50) hx hb dX13_oweBy_21 (by decide) (fun c3 => ?_) (fun c3 => ?_)
        · rw [if_neg c3] at h
          exact c50 (p_X13_oweBy_5 gvm gla n) ih x1 x2 x4 x3 H locs ls h hP hD hS (lv_sub hl [0, 1, 2, 4] rfl)
        · rw [if_pos c3] at h
          refine lv_aload_n hx hb dX13_oweBy_24 rfl (lv_at hl 0 rfl) ?_
          refine va_get (D := (dC, dI)) (ci := 11) (v := .ref (a0 6)) (C := RX13) (T := TX13) (N := 64) hx hb hts in_X13 hown hK hP 0 rfl rfl 9 (by decide) lk1 (fun _ h9 => h9) rfl dX13_oweBy_25 ?_
          refine lv_iload hx hb dX13_oweBy_28 (lv_at hl 4 rfl) ?_
          obtain ⟨hi4, h⟩ := ok_if h
          refine va_iald hx hb hK hP 6 1 rfl rfl (ix_in hi4) dX13_oweBy_30 ?_
          refine lv_iload_n hx hb dX13_oweBy_31 rfl (lv_at hl 1 rfl) ?_
          refine lv_icmp_ne (tgt := 50) hx hb dX13_oweBy_32 (by decide) (fun c5 => ?_) (fun c5 => ?_)
          · rw [if_neg c5] at h
            exact c50 (p_X13_oweBy_5 gvm gla n) ih x1 x2 x4 x3 H locs ls h hP hD hS (lv_sub hl [0, 1, 2, 4] rfl)
          · rw [if_pos c5] at h
            refine lv_aload_n hx hb dX13_oweBy_35 rfl (lv_at hl 0 rfl) ?_
            refine va_get (D := (dC, dI)) (ci := 11) (v := .ref (a0 21)) (C := RX13) (T := TX13) (N := 64) hx hb hts in_X13 hown hK hP 0 rfl rfl 40 (by decide) lk2 (fun _ h9 => h9) rfl dX13_oweBy_36 ?_
            refine lv_bipush (v := (62 : Int32)) hx hb dX13_oweBy_39 (by decide) ?_
            refine lv_iload hx hb dX13_oweBy_41 (lv_at hl 4 rfl) ?_
            refine lv_imul hx hb dX13_oweBy_43 ?_
            refine lv_iload_n hx hb dX13_oweBy_44 rfl (lv_at hl 2 rfl) ?_
            refine lv_iadd hx hb dX13_oweBy_45 ?_
            obtain ⟨hi6, h⟩ := ok_if h
            refine va_iald hx hb hK hP 10 1 rfl rfl (ix_in hi6) dX13_oweBy_46 ?_
            refine lv_goto (tgt := 51) hx hb dX13_oweBy_47 (by decide) ?_
            exact c51 (p_X13_oweBy_5 gvm gla n) ih x1 x2 x4 x3 (gla (((62 : Int32) * x4) + x2).toNatClampNeg) H locs ls h hP hD hS (lv_sub hl [0, 1, 2, 4] rfl)
  obtain ⟨H, hH⟩ : ∃ H : Heap, H = s.heap := ⟨_, rfl⟩
  obtain ⟨locs, hlocs⟩ : ∃ locs : List Loc, locs = [] := ⟨_, rfl⟩
  have hS : va_S A s.heap H locs := by rw [hH, hlocs]; exact hS
  rw [← hH] at hP
  suffices hg : W p l e rm_X13_oweBy s m aa below meth c H locs 0 0 (MQ below qq aa s 0 0 A) (F0 m 0 ls []) by subst hH; subst hlocs; exact hg
  unfold p_X13_oweBy at h
  refine lv_iconst (v := (0 : Int32)) hx hb dX13_oweBy_0 (by decide) ?_
  refine lv_istore_n (lv' := [(3, .int (0 : Int32)), (0, .ref (a0 0)), (1, .int x1), (2, .int x2)]) hx hb dX13_oweBy_1 rfl hl (by decide) rfl (fun ls hl => ?_)
  refine lv_iconst (v := (0 : Int32)) hx hb dX13_oweBy_2 (by decide) ?_
  refine lv_istore (lv' := [(4, .int (0 : Int32)), (3, .int (0 : Int32)), (0, .ref (a0 0)), (1, .int x1), (2, .int x2)]) hx hb dX13_oweBy_3 hl (by decide) rfl (fun ls hl => ?_)
  exact c5 fu x1 x2 (0 : Int32) (0 : Int32) H locs ls h hP hD hS (lv_sub hl [2, 3, 4, 1, 0] rfl)

abbrev w_X13_owedTo (cy : Nat → ClassId) (a0 : Nat → Nat) (gth : Int32) (gvm : Int32 × Int32 × Int32 × (Nat → Int32) × (Nat → Int32) × (Nat → Int32) × (Nat → Int32) × (Nat → Int32) × (Nat → Int32) × (Nat → Int32) × (Nat → Int32) × (Nat → Int32)) (gtd : Int32) (gfl : Int32 × Int32) (grd : Int32 × Int32 × Int32 × Int32 × Int32 × Int32 × Int64 × (Nat → Int32)) (gnv : Int32 × Int32 × Int32 × Int32 × Int32 × (Nat → Int32) × (Nat → Int32) × (Nat → Int32) × (Nat → Int32) × (Nat → Int32) × (Nat → Int32)) (gac : Int32 × (Nat → Int32) × (Nat → Int32)) (gla : (Nat → Int32)) (grc : Int32 × (Nat → Int32)) (gim : Int32 × Int32 × Int32 × (Nat → Int32) × (Nat → Int32) × (Nat → Int32) × (Nat → Int32) × (Nat → Int32) × (Nat → Int32) × (Nat → Int32) × (Nat → Int32) × (Nat → Int32)) : va_W := [(a0 0, .inr (11, [.int (gth), .int (gvm.1), .int (gvm.2.1), .int (gvm.2.2.1), .ref (a0 1), .ref (a0 2), .ref (a0 3), .ref (a0 4), .ref (a0 5), .ref (a0 6), .ref (a0 7), .ref (a0 8), .ref (a0 9), .ref (a0 10), .int (gtd), .int (gfl.1), .int (gfl.2), .ref (a0 11), .int (grd.1), .int (grd.2.1), .int (grd.2.2.1), .int (grd.2.2.2.1), .int (grd.2.2.2.2.1), .int (grd.2.2.2.2.2.1), .long (grd.2.2.2.2.2.2.1), .ref (a0 12), .int (gnv.1), .int (gnv.2.1), .int (gnv.2.2.1), .int (gnv.2.2.2.1), .int (gnv.2.2.2.2.1), .ref (a0 13), .ref (a0 14), .ref (a0 15), .ref (a0 16), .ref (a0 17), .ref (a0 18), .int (gac.1), .ref (a0 19), .ref (a0 20), .ref (a0 21), .ref (a0 22), .ref (a0 23), .ref (a0 24), .ref (a0 25), .ref (a0 26), .ref (a0 27), .int (grc.1), .ref (a0 28), .ref (a0 29), .ref (a0 30), .ref (a0 31), .int (gim.1), .int (gim.2.1), .int (gim.2.2.1), .ref (a0 32), .ref (a0 33), .ref (a0 34), .ref (a0 35), .ref (a0 36), .ref (a0 37), .ref (a0 38), .ref (a0 39), .ref (a0 40)])), (a0 1, .inl (cy 1, 5, .inl (gvm.2.2.2.1))), (a0 2, .inl (cy 1, 5, .inl (gvm.2.2.2.2.1))), (a0 3, .inl (cy 1, 5, .inl (gvm.2.2.2.2.2.1))), (a0 4, .inl (cy 1, 25, .inl (gvm.2.2.2.2.2.2.1))), (a0 5, .inl (cy 1, 10, .inl (gvm.2.2.2.2.2.2.2.1))), (a0 6, .inl (cy 1, 10, .inl (gvm.2.2.2.2.2.2.2.2.1))), (a0 7, .inl (cy 1, 10, .inl (gvm.2.2.2.2.2.2.2.2.2.1))), (a0 8, .inl (cy 1, 10, .inl (gvm.2.2.2.2.2.2.2.2.2.2.1))), (a0 9, .inl (cy 1, 50, .inl (gvm.2.2.2.2.2.2.2.2.2.2.2))), (a0 21, .inl (cy 1, 620, .inl (gla)))]
abbrev rm_X13_owedTo : Room := { frames := 0, cells := 0, slots := 0, locals := 0 }
set_option maxHeartbeats 1000000 in
set_option maxRecDepth 100000 in
theorem c_X13_owedTo (l : Launch) (dC : Nat → ClassId) (dI : Nat → Nat → Nat) (cy : Nat → ClassId) (a0 : Nat → Nat) (gth : Int32) (gvm : Int32 × Int32 × Int32 × (Nat → Int32) × (Nat → Int32) × (Nat → Int32) × (Nat → Int32) × (Nat → Int32) × (Nat → Int32) × (Nat → Int32) × (Nat → Int32) × (Nat → Int32)) (gtd : Int32) (gfl : Int32 × Int32) (grd : Int32 × Int32 × Int32 × Int32 × Int32 × Int32 × Int64 × (Nat → Int32)) (gnv : Int32 × Int32 × Int32 × Int32 × Int32 × (Nat → Int32) × (Nat → Int32) × (Nat → Int32) × (Nat → Int32) × (Nat → Int32) × (Nat → Int32)) (gac : Int32 × (Nat → Int32) × (Nat → Int32)) (gla : (Nat → Int32)) (grc : Int32 × (Nat → Int32)) (gim : Int32 × Int32 × Int32 × (Nat → Int32) × (Nat → Int32) × (Nat → Int32) × (Nat → Int32) × (Nat → Int32) × (Nat → Int32) × (Nat → Int32) × (Nat → Int32) × (Nat → Int32)) (x1 : Int32) (x2 : Int32) (sz : Nat) (R0 : Int32) (h : p_X13_owedTo gvm gla x1 x2 = some R0) : Met l yX13_owedTo wsX13_owedTo rm_X13_owedTo (va_Pc [.ref (a0 0), .int x1, .int x2] (prC dC dI cy (w_X13_owedTo cy a0 gth gvm gtd gfl grd gnv gac gla grc gim) sz)) (va_Qi (fun (r : Int32) (_ : Unit) => r = R0) (fun (_ : Unit) t => poC dC dI cy (w_X13_owedTo cy a0 gth gvm gtd gfl grd gnv gac gla grc gim) t) (va_A (w_X13_owedTo cy a0 gth gvm gtd gfl grd gnv gac gla grc gim) sz)) 0 0 (va_A (w_X13_owedTo cy a0 gth gvm gtd gfl grd gnv gac gla grc gim) sz) := by
  refine Met.ofW (cc := cX13_owedTo) (maxL := 5) (ret := (some .int)) (by decide) rfl ?_
  intro p e s m aa below meth c s₁ B hml hv
  obtain ⟨haa, hsz, hP, hK, hD0⟩ := hv
  have hx := B.exec
  have hb := B.bytes
  have hr := B.returns
  have hts := atoms_spec (ws := wsX13_owedTo) B.pre
  have hown : s.vm.findClass RX13 = some m.cls := findClass_of_methodNamed B.named
  have hlocks := B.notSynchronized
  subst hsz
  have hD := hD0.self (sz := s.heap.size)
  obtain ⟨qq, hqq⟩ : ∃ qq, qq = (va_Qi (fun (r : Int32) (_ : Unit) => r = R0) (fun (_ : Unit) t => poC dC dI cy (w_X13_owedTo cy a0 gth gvm gtd gfl grd gnv gac gla grc gim) t) (va_A (w_X13_owedTo cy a0 gth gvm gtd gfl grd gnv gac gla grc gim) s.heap.size)) := ⟨_, rfl⟩
  rw [← hqq]
  generalize hAe : va_A (w_X13_owedTo cy a0 gth gvm gtd gfl grd gnv gac gla grc gim) s.heap.size = A at hD hqq ⊢
  have hA : ∀ q : Nat, s.heap.size ≤ q → A q := fun q h => by rw [← hAe]; exact Or.inr h
  have hS : va_S A s.heap s.heap [] := va_S.rf
  have hl := lv_entry ([.ref (a0 0), .int x1, .int x2]) (n := 5) (Nat.le_of_ble_eq_true rfl)
  have hE : entryFrame m aa 5 = F0 m 0 ((lg_sl ([.ref (a0 0), .int x1, .int x2]) ++ List.replicate (5 - (lg_sl ([.ref (a0 0), .int x1, .int x2])).length) Slot.unset).toArray) [] := by rw [haa]; exact lg_entry_eq m _ 5
  refine W.eq hE ?_
  generalize (lg_sl ([.ref (a0 0), .int x1, .int x2]) ++ List.replicate (5 - (lg_sl ([.ref (a0 0), .int x1, .int x2])).length) Slot.unset).toArray = ls at hl ⊢
  have hl : lv_has ls 5 [(0, .ref (a0 0)), (1, .int x1), (2, .int x2)] := hl
  change W p l e rm_X13_owedTo s m aa below meth c s.heap [] 0 0 (MQ below qq aa s 0 0 A) (F0 m 0 ls [])
  have hS0 := hS
  have lk0 := hts (.fieldLink RX13 22 "GoatDoorsModel" "has" "[I") (by decide +kernel)
  have lk1 := hts (.fieldLink RX13 28 "GoatDoorsModel" "to" "[I") (by decide +kernel)
  have lk2 := hts (.fieldLink RX13 74 "GoatDoorsModel" "laid" "[I") (by decide +kernel)
  have in_X13 : ∀ w ∈ wsX130, w ∈ wsX13_owedTo := by decide +kernel
  have c51 : ∀ (k5 : Int32 → Int32 → Int32 → Int32 → Option (Int32)) (hk5 : ∀ (x1 : Int32) (x2 : Int32) (x3 : Int32) (x4 : Int32) (H : Heap) (locs : List Loc) (ls : Array Slot), k5 x1 x2 x3 x4 = some R0 → va_P (dC, dI) vwCl (w_X13_owedTo cy a0 gth gvm gtd gfl grd gnv gac gla grc gim) H → va_D A (w_X13_owedTo cy a0 gth gvm gtd gfl grd gnv gac gla grc gim) → va_S A s.heap H locs → lv_has ls 5 [(0, .ref (a0 0)), (1, .int x1), (2, .int x2), (3, .int x3), (4, .int x4)] → W p l e rm_X13_owedTo s m aa below meth c H locs 0 0 (MQ below qq aa s 0 0 A) (F0 m 5 ls [])), ∀ (x1 : Int32) (x2 : Int32) (x4 : Int32) (t0 : Int32) (t1 : Int32) (H : Heap) (locs : List Loc) (ls : Array Slot), p_X13_owedTo_51 k5 gvm gla x1 x2 x4 t0 t1 = some R0 → va_P (dC, dI) vwCl (w_X13_owedTo cy a0 gth gvm gtd gfl grd gnv gac gla grc gim) H → va_D A (w_X13_owedTo cy a0 gth gvm gtd gfl grd gnv gac gla grc gim) → va_S A s.heap H locs → lv_has ls 5 [(0, .ref (a0 0)), (1, .int x1), (2, .int x2), (4, .int x4)] → W p l e rm_X13_owedTo s m aa below meth c H locs 0 0 (MQ below qq aa s 0 0 A) (F0 m 51 ls [.int t1, .int t0]) := by
    intro k5 hk5 x1 x2 x4 t0 t1 H locs ls h hP hD hS hl
    unfold p_X13_owedTo_51 at h
    refine lv_iadd hx hb dX13_owedTo_51 ?_
    refine lv_istore_n (lv' := [(3, .int (t0 + t1)), (0, .ref (a0 0)), (1, .int x1), (2, .int x2), (4, .int x4)]) hx hb dX13_owedTo_52 rfl hl (by decide) rfl (fun ls hl => ?_)
    refine lv_iinc (v := (x4 + (1 : Int32))) (lv' := [(4, .int (x4 + (1 : Int32))), (3, .int (t0 + t1)), (0, .ref (a0 0)), (1, .int x1), (2, .int x2)]) hx hb dX13_owedTo_53 hl (k := 4) rfl rfl (by decide) rfl (fun ls hl => ?_)
    refine lv_goto (tgt := 5) hx hb dX13_owedTo_56 (by decide) ?_
    exact hk5 x1 x2 (t0 + t1) (x4 + (1 : Int32)) H locs ls h hP hD hS (lv_sub hl [2, 3, 4, 1, 0] rfl)
  have c50 : ∀ (k5 : Int32 → Int32 → Int32 → Int32 → Option (Int32)) (hk5 : ∀ (x1 : Int32) (x2 : Int32) (x3 : Int32) (x4 : Int32) (H : Heap) (locs : List Loc) (ls : Array Slot), k5 x1 x2 x3 x4 = some R0 → va_P (dC, dI) vwCl (w_X13_owedTo cy a0 gth gvm gtd gfl grd gnv gac gla grc gim) H → va_D A (w_X13_owedTo cy a0 gth gvm gtd gfl grd gnv gac gla grc gim) → va_S A s.heap H locs → lv_has ls 5 [(0, .ref (a0 0)), (1, .int x1), (2, .int x2), (3, .int x3), (4, .int x4)] → W p l e rm_X13_owedTo s m aa below meth c H locs 0 0 (MQ below qq aa s 0 0 A) (F0 m 5 ls [])), ∀ (x1 : Int32) (x2 : Int32) (x4 : Int32) (t0 : Int32) (H : Heap) (locs : List Loc) (ls : Array Slot), p_X13_owedTo_50 k5 gvm gla x1 x2 x4 t0 = some R0 → va_P (dC, dI) vwCl (w_X13_owedTo cy a0 gth gvm gtd gfl grd gnv gac gla grc gim) H → va_D A (w_X13_owedTo cy a0 gth gvm gtd gfl grd gnv gac gla grc gim) → va_S A s.heap H locs → lv_has ls 5 [(0, .ref (a0 0)), (1, .int x1), (2, .int x2), (4, .int x4)] → W p l e rm_X13_owedTo s m aa below meth c H locs 0 0 (MQ below qq aa s 0 0 A) (F0 m 50 ls [.int t0]) := by
    intro k5 hk5 x1 x2 x4 t0 H locs ls h hP hD hS hl
    unfold p_X13_owedTo_50 at h
    refine lv_iconst (v := (0 : Int32)) hx hb dX13_owedTo_50 (by decide) ?_
    exact c51 k5 hk5 x1 x2 x4 t0 (0 : Int32) H locs ls h hP hD hS (lv_sub hl [0, 1, 2, 3] rfl)
  have c5 : ∀ (n : Nat), ∀ (x1 : Int32) (x2 : Int32) (x3 : Int32) (x4 : Int32) (H : Heap) (locs : List Loc) (ls : Array Slot), p_X13_owedTo_5 gvm gla n x1 x2 x3 x4 = some R0 → va_P (dC, dI) vwCl (w_X13_owedTo cy a0 gth gvm gtd gfl grd gnv gac gla grc gim) H → va_D A (w_X13_owedTo cy a0 gth gvm gtd gfl grd gnv gac gla grc gim) → va_S A s.heap H locs → lv_has ls 5 [(0, .ref (a0 0)), (1, .int x1), (2, .int x2), (3, .int x3), (4, .int x4)] → W p l e rm_X13_owedTo s m aa below meth c H locs 0 0 (MQ below qq aa s 0 0 A) (F0 m 5 ls []) := by
    intro  n
    induction n with
    | zero => intro x1 x2 x3 x4 H locs ls h; exact no_some h
    | succ n ih =>
      intro x1 x2 x3 x4 H locs ls h hP hD hS hl
      rw [p_X13_owedTo_5.eq_2] at h
      refine lv_iload hx hb dX13_owedTo_5 (lv_at hl 4 rfl) ?_
      refine lv_bipush (v := (10 : Int32)) hx hb dX13_owedTo_7 (by decide) ?_
      refine lv_icmp_ge (tgt := 59) hx hb dX13_owedTo_9 (by decide) (fun c1 => ?_) (fun c1 => ?_)
      · rw [if_pos c1] at h
        refine lv_iload_n hx hb dX13_owedTo_59 rfl (lv_at hl 3 rfl) ?_
        exact W.iret (v := x3) hx hb hr (fun t ht hW => by rw [hqq]; have hh := Option.some.inj h; exact ⟨⟨x3, (()), rfl, Option.some.inj h, by rw [ht]; exact hP, va_K.moved hW.alike hK⟩, hS.F ht⟩) hS.2.2 dX13_owedTo_60
      · rw [if_neg c1] at h
        refine lv_iload_n hx hb dX13_owedTo_12 rfl (lv_at hl 3 rfl) ?_
        refine lv_aload_n hx hb dX13_owedTo_13 rfl (lv_at hl 0 rfl) ?_
        refine va_get (D := (dC, dI)) (ci := 11) (v := .ref (a0 5)) (C := RX13) (T := TX13) (N := 64) hx hb hts in_X13 hown hK hP 0 rfl rfl 8 (by decide) lk0 (fun _ h9 => h9) rfl dX13_owedTo_14 ?_
        refine lv_iload hx hb dX13_owedTo_17 (lv_at hl 4 rfl) ?_
        obtain ⟨hi2, h⟩ := ok_if h
        refine va_iald hx hb hK hP 5 1 rfl rfl (ix_in hi2) dX13_owedTo_19 ?_
        refine lv_iconst (v := (1 : Int32)) hx hb dX13_owedTo_20 (by decide) ?_
        refine lv_icmp_ne (tgt := 50) hx hb dX13_owedTo_21 (by decide) (fun c3 => ?_) (fun c3 => ?_)
        · rw [if_neg c3] at h
          exact c50 (p_X13_owedTo_5 gvm gla n) ih x1 x2 x4 x3 H locs ls h hP hD hS (lv_sub hl [0, 1, 2, 4] rfl)
        · rw [if_pos c3] at h
          refine lv_aload_n hx hb dX13_owedTo_24 rfl (lv_at hl 0 rfl) ?_
          refine va_get (D := (dC, dI)) (ci := 11) (v := .ref (a0 7)) (C := RX13) (T := TX13) (N := 64) hx hb hts in_X13 hown hK hP 0 rfl rfl 10 (by decide) lk1 (fun _ h9 => h9) rfl dX13_owedTo_25 ?_
          refine lv_iload hx hb dX13_owedTo_28 (lv_at hl 4 rfl) ?_
          obtain ⟨hi4, h⟩ := ok_if h
          refine va_iald hx hb hK hP 7 1 rfl rfl (ix_in hi4) dX13_owedTo_30 ?_
          refine lv_iload_n hx hb dX13_owedTo_31 rfl (lv_at hl 1 rfl) ?_
          refine lv_icmp_ne (tgt := 50) hx hb dX13_owedTo_32 (by decide) (fun c5 => ?_) (fun c5 => ?_)
          · rw [if_neg c5] at h
            exact c50 (p_X13_owedTo_5 gvm gla n) ih x1 x2 x4 x3 H locs ls h hP hD hS (lv_sub hl [0, 1, 2, 4] rfl)
          · rw [if_pos c5] at h
            refine lv_aload_n hx hb dX13_owedTo_35 rfl (lv_at hl 0 rfl) ?_
            refine va_get (D := (dC, dI)) (ci := 11) (v := .ref (a0 21)) (C := RX13) (T := TX13) (N := 64) hx hb hts in_X13 hown hK hP 0 rfl rfl 40 (by decide) lk2 (fun _ h9 => h9) rfl dX13_owedTo_36 ?_
            refine lv_bipush (v := (62 : Int32)) hx hb dX13_owedTo_39 (by decide) ?_
            refine lv_iload hx hb dX13_owedTo_41 (lv_at hl 4 rfl) ?_
            refine lv_imul hx hb dX13_owedTo_43 ?_
            refine lv_iload_n hx hb dX13_owedTo_44 rfl (lv_at hl 2 rfl) ?_
            refine lv_iadd hx hb dX13_owedTo_45 ?_
            obtain ⟨hi6, h⟩ := ok_if h
            refine va_iald hx hb hK hP 10 1 rfl rfl (ix_in hi6) dX13_owedTo_46 ?_
            refine lv_goto (tgt := 51) hx hb dX13_owedTo_47 (by decide) ?_
            exact c51 (p_X13_owedTo_5 gvm gla n) ih x1 x2 x4 x3 (gla (((62 : Int32) * x4) + x2).toNatClampNeg) H locs ls h hP hD hS (lv_sub hl [0, 1, 2, 4] rfl)
  obtain ⟨H, hH⟩ : ∃ H : Heap, H = s.heap := ⟨_, rfl⟩
  obtain ⟨locs, hlocs⟩ : ∃ locs : List Loc, locs = [] := ⟨_, rfl⟩
  have hS : va_S A s.heap H locs := by rw [hH, hlocs]; exact hS
  rw [← hH] at hP
  suffices hg : W p l e rm_X13_owedTo s m aa below meth c H locs 0 0 (MQ below qq aa s 0 0 A) (F0 m 0 ls []) by subst hH; subst hlocs; exact hg
  unfold p_X13_owedTo at h
  refine lv_iconst (v := (0 : Int32)) hx hb dX13_owedTo_0 (by decide) ?_
  refine lv_istore_n (lv' := [(3, .int (0 : Int32)), (0, .ref (a0 0)), (1, .int x1), (2, .int x2)]) hx hb dX13_owedTo_1 rfl hl (by decide) rfl (fun ls hl => ?_)
  refine lv_iconst (v := (0 : Int32)) hx hb dX13_owedTo_2 (by decide) ?_
  refine lv_istore (lv' := [(4, .int (0 : Int32)), (3, .int (0 : Int32)), (0, .ref (a0 0)), (1, .int x1), (2, .int x2)]) hx hb dX13_owedTo_3 hl (by decide) rfl (fun ls hl => ?_)
  exact c5 fu x1 x2 (0 : Int32) (0 : Int32) H locs ls h hP hD hS (lv_sub hl [2, 3, 4, 1, 0] rfl)

abbrev w_X13_net (cy : Nat → ClassId) (a0 : Nat → Nat) (gth : Int32) (gvm : Int32 × Int32 × Int32 × (Nat → Int32) × (Nat → Int32) × (Nat → Int32) × (Nat → Int32) × (Nat → Int32) × (Nat → Int32) × (Nat → Int32) × (Nat → Int32) × (Nat → Int32)) (gtd : Int32) (gfl : Int32 × Int32) (grd : Int32 × Int32 × Int32 × Int32 × Int32 × Int32 × Int64 × (Nat → Int32)) (gnv : Int32 × Int32 × Int32 × Int32 × Int32 × (Nat → Int32) × (Nat → Int32) × (Nat → Int32) × (Nat → Int32) × (Nat → Int32) × (Nat → Int32)) (gac : Int32 × (Nat → Int32) × (Nat → Int32)) (gla : (Nat → Int32)) (grc : Int32 × (Nat → Int32)) (gim : Int32 × Int32 × Int32 × (Nat → Int32) × (Nat → Int32) × (Nat → Int32) × (Nat → Int32) × (Nat → Int32) × (Nat → Int32) × (Nat → Int32) × (Nat → Int32) × (Nat → Int32)) : va_W := [(a0 0, .inr (11, [.int (gth), .int (gvm.1), .int (gvm.2.1), .int (gvm.2.2.1), .ref (a0 1), .ref (a0 2), .ref (a0 3), .ref (a0 4), .ref (a0 5), .ref (a0 6), .ref (a0 7), .ref (a0 8), .ref (a0 9), .ref (a0 10), .int (gtd), .int (gfl.1), .int (gfl.2), .ref (a0 11), .int (grd.1), .int (grd.2.1), .int (grd.2.2.1), .int (grd.2.2.2.1), .int (grd.2.2.2.2.1), .int (grd.2.2.2.2.2.1), .long (grd.2.2.2.2.2.2.1), .ref (a0 12), .int (gnv.1), .int (gnv.2.1), .int (gnv.2.2.1), .int (gnv.2.2.2.1), .int (gnv.2.2.2.2.1), .ref (a0 13), .ref (a0 14), .ref (a0 15), .ref (a0 16), .ref (a0 17), .ref (a0 18), .int (gac.1), .ref (a0 19), .ref (a0 20), .ref (a0 21), .ref (a0 22), .ref (a0 23), .ref (a0 24), .ref (a0 25), .ref (a0 26), .ref (a0 27), .int (grc.1), .ref (a0 28), .ref (a0 29), .ref (a0 30), .ref (a0 31), .int (gim.1), .int (gim.2.1), .int (gim.2.2.1), .ref (a0 32), .ref (a0 33), .ref (a0 34), .ref (a0 35), .ref (a0 36), .ref (a0 37), .ref (a0 38), .ref (a0 39), .ref (a0 40)])), (a0 1, .inl (cy 1, 5, .inl (gvm.2.2.2.1))), (a0 2, .inl (cy 1, 5, .inl (gvm.2.2.2.2.1))), (a0 3, .inl (cy 1, 5, .inl (gvm.2.2.2.2.2.1))), (a0 4, .inl (cy 1, 25, .inl (gvm.2.2.2.2.2.2.1))), (a0 5, .inl (cy 1, 10, .inl (gvm.2.2.2.2.2.2.2.1))), (a0 6, .inl (cy 1, 10, .inl (gvm.2.2.2.2.2.2.2.2.1))), (a0 7, .inl (cy 1, 10, .inl (gvm.2.2.2.2.2.2.2.2.2.1))), (a0 8, .inl (cy 1, 10, .inl (gvm.2.2.2.2.2.2.2.2.2.2.1))), (a0 9, .inl (cy 1, 50, .inl (gvm.2.2.2.2.2.2.2.2.2.2.2))), (a0 21, .inl (cy 1, 620, .inl (gla)))]
abbrev rm_X13_net : Room := { frames := 1, cells := 0, slots := 0, locals := 24 }
set_option maxHeartbeats 1000000 in
set_option maxRecDepth 100000 in
theorem c_X13_net (l : Launch) (dC : Nat → ClassId) (dI : Nat → Nat → Nat) (cy : Nat → ClassId) (a0 : Nat → Nat) (gth : Int32) (gvm : Int32 × Int32 × Int32 × (Nat → Int32) × (Nat → Int32) × (Nat → Int32) × (Nat → Int32) × (Nat → Int32) × (Nat → Int32) × (Nat → Int32) × (Nat → Int32) × (Nat → Int32)) (gtd : Int32) (gfl : Int32 × Int32) (grd : Int32 × Int32 × Int32 × Int32 × Int32 × Int32 × Int64 × (Nat → Int32)) (gnv : Int32 × Int32 × Int32 × Int32 × Int32 × (Nat → Int32) × (Nat → Int32) × (Nat → Int32) × (Nat → Int32) × (Nat → Int32) × (Nat → Int32)) (gac : Int32 × (Nat → Int32) × (Nat → Int32)) (gla : (Nat → Int32)) (grc : Int32 × (Nat → Int32)) (gim : Int32 × Int32 × Int32 × (Nat → Int32) × (Nat → Int32) × (Nat → Int32) × (Nat → Int32) × (Nat → Int32) × (Nat → Int32) × (Nat → Int32) × (Nat → Int32) × (Nat → Int32)) (x1 : Int32) (x2 : Int32) (sz : Nat) (R0 : Int32) (h : p_X13_net gvm gla x1 x2 = some R0) : Met l yX13_net wsX13_net rm_X13_net (va_Pc [.ref (a0 0), .int x1, .int x2] (prC dC dI cy (w_X13_net cy a0 gth gvm gtd gfl grd gnv gac gla grc gim) sz)) (va_Qi (fun (r : Int32) (_ : Unit) => r = R0) (fun (_ : Unit) t => poC dC dI cy (w_X13_net cy a0 gth gvm gtd gfl grd gnv gac gla grc gim) t) (va_A (w_X13_net cy a0 gth gvm gtd gfl grd gnv gac gla grc gim) sz)) 0 0 (va_A (w_X13_net cy a0 gth gvm gtd gfl grd gnv gac gla grc gim) sz) := by
  refine Met.ofW (cc := cX13_net) (maxL := 3) (ret := (some .int)) (by decide) rfl ?_
  intro p e s m aa below meth c s₁ B hml hv
  obtain ⟨haa, hsz, hP, hK, hD0⟩ := hv
  have hx := B.exec
  have hb := B.bytes
  have hr := B.returns
  have hts := atoms_spec (ws := wsX13_net) B.pre
  have hown : s.vm.findClass RX13 = some m.cls := findClass_of_methodNamed B.named
  have hlocks := B.notSynchronized
  subst hsz
  have hD := hD0.self (sz := s.heap.size)
  obtain ⟨qq, hqq⟩ : ∃ qq, qq = (va_Qi (fun (r : Int32) (_ : Unit) => r = R0) (fun (_ : Unit) t => poC dC dI cy (w_X13_net cy a0 gth gvm gtd gfl grd gnv gac gla grc gim) t) (va_A (w_X13_net cy a0 gth gvm gtd gfl grd gnv gac gla grc gim) s.heap.size)) := ⟨_, rfl⟩
  rw [← hqq]
  generalize hAe : va_A (w_X13_net cy a0 gth gvm gtd gfl grd gnv gac gla grc gim) s.heap.size = A at hD hqq ⊢
  have hA : ∀ q : Nat, s.heap.size ≤ q → A q := fun q h => by rw [← hAe]; exact Or.inr h
  have hS : va_S A s.heap s.heap [] := va_S.rf
  have hl := lv_entry ([.ref (a0 0), .int x1, .int x2]) (n := 3) (Nat.le_of_ble_eq_true rfl)
  have hE : entryFrame m aa 3 = F0 m 0 ((lg_sl ([.ref (a0 0), .int x1, .int x2]) ++ List.replicate (3 - (lg_sl ([.ref (a0 0), .int x1, .int x2])).length) Slot.unset).toArray) [] := by rw [haa]; exact lg_entry_eq m _ 3
  refine W.eq hE ?_
  generalize (lg_sl ([.ref (a0 0), .int x1, .int x2]) ++ List.replicate (3 - (lg_sl ([.ref (a0 0), .int x1, .int x2])).length) Slot.unset).toArray = ls at hl ⊢
  have hl : lv_has ls 3 [(0, .ref (a0 0)), (1, .int x1), (2, .int x2)] := hl
  change W p l e rm_X13_net s m aa below meth c s.heap [] 0 0 (MQ below qq aa s 0 0 A) (F0 m 0 ls [])
  have hS0 := hS
  obtain ⟨H, hH⟩ : ∃ H : Heap, H = s.heap := ⟨_, rfl⟩
  obtain ⟨locs, hlocs⟩ : ∃ locs : List Loc, locs = [] := ⟨_, rfl⟩
  have hS : va_S A s.heap H locs := by rw [hH, hlocs]; exact hS
  rw [← hH] at hP
  suffices hg : W p l e rm_X13_net s m aa below meth c H locs 0 0 (MQ below qq aa s 0 0 A) (F0 m 0 ls []) by subst hH; subst hlocs; exact hg
  unfold p_X13_net at h
  refine lv_aload_n hx hb dX13_net_0 rfl (lv_at hl 0 rfl) ?_
  refine lv_iload_n hx hb dX13_net_1 rfl (lv_at hl 1 rfl) ?_
  refine lv_iload_n hx hb dX13_net_2 rfl (lv_at hl 2 rfl) ?_
  obtain ⟨v1, hv2, h⟩ := ok_bind h
  refine cl_vi (w2 := fun (_ : Unit) => w_X13_net cy a0 gth gvm gtd gfl grd gnv gac gla grc gim) (As := [.int x1, .int x2]) (rest := []) ⟨hx, hb, hml, hown, hts⟩ (c_X13_owedTo l dC dI cy a0 gth gvm gtd gfl grd gnv gac gla grc gim x1 x2 H.size v1 hv2) (cwV 2 hts gX13_net_X13_owedTo rfl rfl rfl (by decide +kernel) ⟨Nat.le_of_ble_eq_true rfl, Nat.le_of_ble_eq_true rfl⟩) (va_recv hK hP (ci := 11) (q0 := 0) rfl rfl) cl_blind (cl_pre hK hP hD [0, 1, 2, 3, 4, 5, 6, 7, 8, 9, 10] (by decide) rfl) hP hD hS hA [0, 1, 2, 3, 4, 5, 6, 7, 8, 9, 10] rfl rfl hl.1 rfl (lv_room (Nat.le_of_ble_eq_true rfl)) dX13_net_3 ⟨Nat.le_of_ble_eq_true rfl, Nat.le_of_ble_eq_true rfl⟩ ⟨rfl, rfl⟩ (fun _ => updR [0, 1, 2, 3, 4, 5, 6, 7, 8, 9, 10] rfl) (fun r u H locs hw hP hD hS => ?_)
  have hw := hw.symm
  subst hw
  have hP : va_P (dC, dI) vwCl (w_X13_net cy a0 gth gvm gtd gfl grd gnv gac gla grc gim) H := hP
  have hD : va_D A (w_X13_net cy a0 gth gvm gtd gfl grd gnv gac gla grc gim) := hD
  refine lv_aload_n hx hb dX13_net_6 rfl (lv_at hl 0 rfl) ?_
  refine lv_iload_n hx hb dX13_net_7 rfl (lv_at hl 1 rfl) ?_
  refine lv_iload_n hx hb dX13_net_8 rfl (lv_at hl 2 rfl) ?_
  obtain ⟨v3, hv4, h⟩ := ok_bind h
  refine cl_vi (w2 := fun (_ : Unit) => w_X13_net cy a0 gth gvm gtd gfl grd gnv gac gla grc gim) (As := [.int x1, .int x2]) (rest := [.int v1]) ⟨hx, hb, hml, hown, hts⟩ (c_X13_oweBy l dC dI cy a0 gth gvm gtd gfl grd gnv gac gla grc gim x1 x2 H.size v3 hv4) (cwV 2 hts gX13_net_X13_oweBy rfl rfl rfl (by decide +kernel) ⟨Nat.le_of_ble_eq_true rfl, Nat.le_of_ble_eq_true rfl⟩) (va_recv hK hP (ci := 11) (q0 := 0) rfl rfl) cl_blind (cl_pre hK hP hD [0, 1, 2, 3, 4, 5, 6, 7, 8, 9, 10] (by decide) rfl) hP hD hS hA [0, 1, 2, 3, 4, 5, 6, 7, 8, 9, 10] rfl rfl hl.1 rfl (lv_room (Nat.le_of_ble_eq_true rfl)) dX13_net_9 ⟨Nat.le_of_ble_eq_true rfl, Nat.le_of_ble_eq_true rfl⟩ ⟨rfl, rfl⟩ (fun _ => updR [0, 1, 2, 3, 4, 5, 6, 7, 8, 9, 10] rfl) (fun r u H locs hw hP hD hS => ?_)
  have hw := hw.symm
  subst hw
  have hP : va_P (dC, dI) vwCl (w_X13_net cy a0 gth gvm gtd gfl grd gnv gac gla grc gim) H := hP
  have hD : va_D A (w_X13_net cy a0 gth gvm gtd gfl grd gnv gac gla grc gim) := hD
  refine lv_isub hx hb dX13_net_12 ?_
  exact W.iret (v := (v1 - v3)) hx hb hr (fun t ht hW => by rw [hqq]; have hh := Option.some.inj h; exact ⟨⟨(v1 - v3), (()), rfl, Option.some.inj h, by rw [ht]; exact hP, va_K.moved hW.alike hK⟩, hS.F ht⟩) hS.2.2 dX13_net_13

abbrev w_X13_owner (cy : Nat → ClassId) (a0 : Nat → Nat) (gth : Int32) (gvm : Int32 × Int32 × Int32 × (Nat → Int32) × (Nat → Int32) × (Nat → Int32) × (Nat → Int32) × (Nat → Int32) × (Nat → Int32) × (Nat → Int32) × (Nat → Int32) × (Nat → Int32)) (gtd : Int32) (gfl : Int32 × Int32) (grd : Int32 × Int32 × Int32 × Int32 × Int32 × Int32 × Int64 × (Nat → Int32)) (gnv : Int32 × Int32 × Int32 × Int32 × Int32 × (Nat → Int32) × (Nat → Int32) × (Nat → Int32) × (Nat → Int32) × (Nat → Int32) × (Nat → Int32)) (gac : Int32 × (Nat → Int32) × (Nat → Int32)) (gla : (Nat → Int32)) (grc : Int32 × (Nat → Int32)) (gim : Int32 × Int32 × Int32 × (Nat → Int32) × (Nat → Int32) × (Nat → Int32) × (Nat → Int32) × (Nat → Int32) × (Nat → Int32) × (Nat → Int32) × (Nat → Int32) × (Nat → Int32)) : va_W := [(a0 0, .inr (11, [.int (gth), .int (gvm.1), .int (gvm.2.1), .int (gvm.2.2.1), .ref (a0 1), .ref (a0 2), .ref (a0 3), .ref (a0 4), .ref (a0 5), .ref (a0 6), .ref (a0 7), .ref (a0 8), .ref (a0 9), .ref (a0 10), .int (gtd), .int (gfl.1), .int (gfl.2), .ref (a0 11), .int (grd.1), .int (grd.2.1), .int (grd.2.2.1), .int (grd.2.2.2.1), .int (grd.2.2.2.2.1), .int (grd.2.2.2.2.2.1), .long (grd.2.2.2.2.2.2.1), .ref (a0 12), .int (gnv.1), .int (gnv.2.1), .int (gnv.2.2.1), .int (gnv.2.2.2.1), .int (gnv.2.2.2.2.1), .ref (a0 13), .ref (a0 14), .ref (a0 15), .ref (a0 16), .ref (a0 17), .ref (a0 18), .int (gac.1), .ref (a0 19), .ref (a0 20), .ref (a0 21), .ref (a0 22), .ref (a0 23), .ref (a0 24), .ref (a0 25), .ref (a0 26), .ref (a0 27), .int (grc.1), .ref (a0 28), .ref (a0 29), .ref (a0 30), .ref (a0 31), .int (gim.1), .int (gim.2.1), .int (gim.2.2.1), .ref (a0 32), .ref (a0 33), .ref (a0 34), .ref (a0 35), .ref (a0 36), .ref (a0 37), .ref (a0 38), .ref (a0 39), .ref (a0 40)])), (a0 1, .inl (cy 1, 5, .inl (gvm.2.2.2.1))), (a0 2, .inl (cy 1, 5, .inl (gvm.2.2.2.2.1))), (a0 3, .inl (cy 1, 5, .inl (gvm.2.2.2.2.2.1))), (a0 4, .inl (cy 1, 25, .inl (gvm.2.2.2.2.2.2.1))), (a0 5, .inl (cy 1, 10, .inl (gvm.2.2.2.2.2.2.2.1))), (a0 6, .inl (cy 1, 10, .inl (gvm.2.2.2.2.2.2.2.2.1))), (a0 7, .inl (cy 1, 10, .inl (gvm.2.2.2.2.2.2.2.2.2.1))), (a0 8, .inl (cy 1, 10, .inl (gvm.2.2.2.2.2.2.2.2.2.2.1))), (a0 9, .inl (cy 1, 50, .inl (gvm.2.2.2.2.2.2.2.2.2.2.2))), (a0 21, .inl (cy 1, 620, .inl (gla)))]
abbrev rm_X13_owner : Room := { frames := 2, cells := 0, slots := 0, locals := 49 }
set_option maxHeartbeats 1000000 in
set_option maxRecDepth 100000 in
theorem c_X13_owner (l : Launch) (dC : Nat → ClassId) (dI : Nat → Nat → Nat) (cy : Nat → ClassId) (a0 : Nat → Nat) (gth : Int32) (gvm : Int32 × Int32 × Int32 × (Nat → Int32) × (Nat → Int32) × (Nat → Int32) × (Nat → Int32) × (Nat → Int32) × (Nat → Int32) × (Nat → Int32) × (Nat → Int32) × (Nat → Int32)) (gtd : Int32) (gfl : Int32 × Int32) (grd : Int32 × Int32 × Int32 × Int32 × Int32 × Int32 × Int64 × (Nat → Int32)) (gnv : Int32 × Int32 × Int32 × Int32 × Int32 × (Nat → Int32) × (Nat → Int32) × (Nat → Int32) × (Nat → Int32) × (Nat → Int32) × (Nat → Int32)) (gac : Int32 × (Nat → Int32) × (Nat → Int32)) (gla : (Nat → Int32)) (grc : Int32 × (Nat → Int32)) (gim : Int32 × Int32 × Int32 × (Nat → Int32) × (Nat → Int32) × (Nat → Int32) × (Nat → Int32) × (Nat → Int32) × (Nat → Int32) × (Nat → Int32) × (Nat → Int32) × (Nat → Int32)) (x1 : Int32) (x2 : Int32) (sz : Nat) (R0 : Int32 × (Int32) × ((Nat → Int32))) (h : p_X13_owner gth gvm gla x1 x2 = some R0) : Met l yX13_owner wsX13_owner rm_X13_owner (va_Pc [.ref (a0 0), .int x1, .int x2] (prC dC dI cy (w_X13_owner cy a0 gth gvm gtd gfl grd gnv gac gla grc gim) sz)) (va_Qi (fun (r : Int32) (u : (Int32) × ((Nat → Int32))) => r = R0.1 ∧ u = R0.2) (fun (u : (Int32) × ((Nat → Int32))) t => poC dC dI cy (w_X13_owner cy a0 u.1 gvm gtd gfl grd gnv gac u.2 grc gim) t) (va_A (w_X13_owner cy a0 gth gvm gtd gfl grd gnv gac gla grc gim) sz)) 0 0 (va_A (w_X13_owner cy a0 gth gvm gtd gfl grd gnv gac gla grc gim) sz) := by
  refine Met.ofW (cc := cX13_owner) (maxL := 5) (ret := (some .int)) (by decide) rfl ?_
  intro p e s m aa below meth c s₁ B hml hv
  obtain ⟨haa, hsz, hP, hK, hD0⟩ := hv
  have hx := B.exec
  have hb := B.bytes
  have hr := B.returns
  have hts := atoms_spec (ws := wsX13_owner) B.pre
  have hown : s.vm.findClass RX13 = some m.cls := findClass_of_methodNamed B.named
  have hlocks := B.notSynchronized
  subst hsz
  have hD := hD0.self (sz := s.heap.size)
  obtain ⟨qq, hqq⟩ : ∃ qq, qq = (va_Qi (fun (r : Int32) (u : (Int32) × ((Nat → Int32))) => r = R0.1 ∧ u = R0.2) (fun (u : (Int32) × ((Nat → Int32))) t => poC dC dI cy (w_X13_owner cy a0 u.1 gvm gtd gfl grd gnv gac u.2 grc gim) t) (va_A (w_X13_owner cy a0 gth gvm gtd gfl grd gnv gac gla grc gim) s.heap.size)) := ⟨_, rfl⟩
  rw [← hqq]
  generalize hAe : va_A (w_X13_owner cy a0 gth gvm gtd gfl grd gnv gac gla grc gim) s.heap.size = A at hD hqq ⊢
  have hA : ∀ q : Nat, s.heap.size ≤ q → A q := fun q h => by rw [← hAe]; exact Or.inr h
  have hS : va_S A s.heap s.heap [] := va_S.rf
  have hl := lv_entry ([.ref (a0 0), .int x1, .int x2]) (n := 5) (Nat.le_of_ble_eq_true rfl)
  have hE : entryFrame m aa 5 = F0 m 0 ((lg_sl ([.ref (a0 0), .int x1, .int x2]) ++ List.replicate (5 - (lg_sl ([.ref (a0 0), .int x1, .int x2])).length) Slot.unset).toArray) [] := by rw [haa]; exact lg_entry_eq m _ 5
  refine W.eq hE ?_
  generalize (lg_sl ([.ref (a0 0), .int x1, .int x2]) ++ List.replicate (5 - (lg_sl ([.ref (a0 0), .int x1, .int x2])).length) Slot.unset).toArray = ls at hl ⊢
  have hl : lv_has ls 5 [(0, .ref (a0 0)), (1, .int x1), (2, .int x2)] := hl
  change W p l e rm_X13_owner s m aa below meth c s.heap [] 0 0 (MQ below qq aa s 0 0 A) (F0 m 0 ls [])
  have hS0 := hS
  have lk0 := hts (.fieldLink RX13 7 "GoatDoorsModel" "goats" "[I") (by decide +kernel)
  have lk1 := hts (.fieldLink RX13 13 "GoatDoorsModel" "can" "[I") (by decide +kernel)
  have lk2 := hts (.fieldLink RX13 16 "GoatDoorsModel" "hides" "[I") (by decide +kernel)
  have lk3 := hts (.fieldLink RX13 251 "GoatDoorsModel" "base" "I") (by decide +kernel)
  have lk4 := hts (.fieldLink RX13 19 "GoatDoorsModel" "lent" "[I") (by decide +kernel)
  have lk5 := hts (.fieldLink RX13 135 "GoatDoorsModel" "thrown" "I") (by decide +kernel)
  have in_X13 : ∀ w ∈ wsX130, w ∈ wsX13_owner := by decide +kernel
  have c39 : ∀ (n : Nat), ∀ (gth : Int32) (gla : (Nat → Int32)) (x1 : Int32) (x2 : Int32) (x3 : Int32) (x4 : Int32) (H : Heap) (locs : List Loc) (ls : Array Slot), p_X13_owner_39 gvm n gth gla x1 x2 x3 x4 = some R0 → va_P (dC, dI) vwCl (w_X13_owner cy a0 gth gvm gtd gfl grd gnv gac gla grc gim) H → va_D A (w_X13_owner cy a0 gth gvm gtd gfl grd gnv gac gla grc gim) → va_S A s.heap H locs → lv_has ls 5 [(0, .ref (a0 0)), (1, .int x1), (2, .int x2), (3, .int x3), (4, .int x4)] → W p l e rm_X13_owner s m aa below meth c H locs 0 0 (MQ below qq aa s 0 0 A) (F0 m 39 ls []) := by
    intro  n
    induction n with
    | zero => intro gth gla x1 x2 x3 x4 H locs ls h; exact no_some h
    | succ n ih =>
      intro gth gla x1 x2 x3 x4 H locs ls h hP hD hS hl
      rw [p_X13_owner_39.eq_2] at h
      refine lv_iload hx hb dX13_owner_39 (lv_at hl 4 rfl) ?_
      refine lv_iconst (v := (5 : Int32)) hx hb dX13_owner_41 (by decide) ?_
      refine lv_icmp_ge (tgt := 65) hx hb dX13_owner_42 (by decide) (fun c1 => ?_) (fun c1 => ?_)
      · rw [if_pos c1] at h
        refine lv_iload_n hx hb dX13_owner_65 rfl (lv_at hl 2 rfl) ?_
        by_cases c2 : x2 = (0 : Int32)
        · rw [if_pos c2] at h
          refine lv_tableIn (off := 46) (tgt := 112) hx hb dX13_owner_66 (by rw [c2]; decide) (by rw [c2]; decide) (by rw [c2]; decide) (by decide) ?_
          refine lv_aload_n hx hb dX13_owner_112 rfl (lv_at hl 0 rfl) ?_
          refine va_get (D := (dC, dI)) (ci := 11) (v := .ref (a0 1)) (C := RX13) (T := TX13) (N := 64) hx hb hts in_X13 hown hK hP 0 rfl rfl 4 (by decide) lk0 (fun _ h9 => h9) rfl dX13_owner_113 ?_
          refine lv_iload_n hx hb dX13_owner_116 rfl (lv_at hl 1 rfl) ?_
          obtain ⟨hi3, h⟩ := ok_if h
          refine va_iald hx hb hK hP 1 1 rfl rfl (ix_in hi3) dX13_owner_117 ?_
          exact W.iret (v := (gvm.2.2.2.1 x1.toNatClampNeg)) hx hb hr (fun t ht hW => by rw [hqq]; have hh := Option.some.inj h; exact ⟨⟨(gvm.2.2.2.1 x1.toNatClampNeg), ((gth, gla)), rfl, ⟨fst_of hh, snd_of hh⟩, by rw [ht]; exact hP, va_K.moved hW.alike hK⟩, hS.F ht⟩) hS.2.2 dX13_owner_118
        rw [if_neg c2] at h
        by_cases c4 : x2 = (1 : Int32)
        · rw [if_pos c4] at h
          refine lv_tableIn (off := 53) (tgt := 119) hx hb dX13_owner_66 (by rw [c4]; decide) (by rw [c4]; decide) (by rw [c4]; decide) (by decide) ?_
          refine lv_aload_n hx hb dX13_owner_119 rfl (lv_at hl 0 rfl) ?_
          refine va_get (D := (dC, dI)) (ci := 11) (v := .ref (a0 2)) (C := RX13) (T := TX13) (N := 64) hx hb hts in_X13 hown hK hP 0 rfl rfl 5 (by decide) lk1 (fun _ h9 => h9) rfl dX13_owner_120 ?_
          refine lv_iload_n hx hb dX13_owner_123 rfl (lv_at hl 1 rfl) ?_
          obtain ⟨hi5, h⟩ := ok_if h
          refine va_iald hx hb hK hP 2 1 rfl rfl (ix_in hi5) dX13_owner_124 ?_
          exact W.iret (v := (gvm.2.2.2.2.1 x1.toNatClampNeg)) hx hb hr (fun t ht hW => by rw [hqq]; have hh := Option.some.inj h; exact ⟨⟨(gvm.2.2.2.2.1 x1.toNatClampNeg), ((gth, gla)), rfl, ⟨fst_of hh, snd_of hh⟩, by rw [ht]; exact hP, va_K.moved hW.alike hK⟩, hS.F ht⟩) hS.2.2 dX13_owner_125
        rw [if_neg c4] at h
        by_cases c6 : x2 = (2 : Int32)
        · rw [if_pos c6] at h
          refine lv_tableIn (off := 60) (tgt := 126) hx hb dX13_owner_66 (by rw [c6]; decide) (by rw [c6]; decide) (by rw [c6]; decide) (by decide) ?_
          refine lv_aload_n hx hb dX13_owner_126 rfl (lv_at hl 0 rfl) ?_
          refine va_get (D := (dC, dI)) (ci := 11) (v := .ref (a0 3)) (C := RX13) (T := TX13) (N := 64) hx hb hts in_X13 hown hK hP 0 rfl rfl 6 (by decide) lk2 (fun _ h9 => h9) rfl dX13_owner_127 ?_
          refine lv_iload_n hx hb dX13_owner_130 rfl (lv_at hl 1 rfl) ?_
          obtain ⟨hi7, h⟩ := ok_if h
          refine va_iald hx hb hK hP 3 1 rfl rfl (ix_in hi7) dX13_owner_131 ?_
          exact W.iret (v := (gvm.2.2.2.2.2.1 x1.toNatClampNeg)) hx hb hr (fun t ht hW => by rw [hqq]; have hh := Option.some.inj h; exact ⟨⟨(gvm.2.2.2.2.2.1 x1.toNatClampNeg), ((gth, gla)), rfl, ⟨fst_of hh, snd_of hh⟩, by rw [ht]; exact hP, va_K.moved hW.alike hK⟩, hS.F ht⟩) hS.2.2 dX13_owner_132
        rw [if_neg c6] at h
        by_cases c8 : x2 = (3 : Int32)
        · rw [if_pos c8] at h
          refine lv_tableIn (off := 67) (tgt := 133) hx hb dX13_owner_66 (by rw [c8]; decide) (by rw [c8]; decide) (by rw [c8]; decide) (by decide) ?_
          refine lv_aload_n hx hb dX13_owner_133 rfl (lv_at hl 0 rfl) ?_
          refine lv_iload_n hx hb dX13_owner_134 rfl (lv_at hl 1 rfl) ?_
          obtain ⟨v9, hv10, h⟩ := ok_bind h
          refine cl_vi (w2 := fun (_ : Unit) => w_X13_owner cy a0 gth gvm gtd gfl grd gnv gac gla grc gim) (As := [.int x1]) (rest := []) ⟨hx, hb, hml, hown, hts⟩ (c_X13_lentBy l dC dI cy a0 gth gvm gtd gfl grd gnv gac grc gim x1 H.size v9 hv10) (cwV 1 hts gX13_owner_X13_lentBy rfl rfl rfl (by decide +kernel) ⟨Nat.le_of_ble_eq_true rfl, Nat.le_of_ble_eq_true rfl⟩) (va_recv hK hP (ci := 11) (q0 := 0) rfl rfl) cl_blind (cl_pre hK hP hD [0, 1, 2, 3, 4, 5, 6, 7, 8, 9] (by decide) rfl) hP hD hS hA [0, 1, 2, 3, 4, 5, 6, 7, 8, 9] rfl rfl hl.1 rfl (lv_room (Nat.le_of_ble_eq_true rfl)) dX13_owner_135 ⟨Nat.le_of_ble_eq_true rfl, Nat.le_of_ble_eq_true rfl⟩ ⟨rfl, rfl⟩ (fun _ => updR [0, 1, 2, 3, 4, 5, 6, 7, 8, 9] rfl) (fun r u H locs hw hP hD hS => ?_)
          have hw := hw.symm
          subst hw
          have hP : va_P (dC, dI) vwCl (w_X13_owner cy a0 gth gvm gtd gfl grd gnv gac gla grc gim) H := hP
          have hD : va_D A (w_X13_owner cy a0 gth gvm gtd gfl grd gnv gac gla grc gim) := hD
          exact W.iret (v := v9) hx hb hr (fun t ht hW => by rw [hqq]; have hh := Option.some.inj h; exact ⟨⟨v9, ((gth, gla)), rfl, ⟨fst_of hh, snd_of hh⟩, by rw [ht]; exact hP, va_K.moved hW.alike hK⟩, hS.F ht⟩) hS.2.2 dX13_owner_138
        rw [if_neg c8] at h
        by_cases c11 : x2 = (4 : Int32)
        · rw [if_pos c11] at h
          refine lv_tableIn (off := 73) (tgt := 139) hx hb dX13_owner_66 (by rw [c11]; decide) (by rw [c11]; decide) (by rw [c11]; decide) (by decide) ?_
          refine lv_iload_n hx hb dX13_owner_139 rfl (lv_at hl 3 rfl) ?_
          exact W.iret (v := x3) hx hb hr (fun t ht hW => by rw [hqq]; have hh := Option.some.inj h; exact ⟨⟨x3, ((gth, gla)), rfl, ⟨fst_of hh, snd_of hh⟩, by rw [ht]; exact hP, va_K.moved hW.alike hK⟩, hS.F ht⟩) hS.2.2 dX13_owner_140
        rw [if_neg c11] at h
        by_cases c12 : x2 = (5 : Int32)
        · rw [if_pos c12] at h
          refine lv_tableIn (off := 75) (tgt := 141) hx hb dX13_owner_66 (by rw [c12]; decide) (by rw [c12]; decide) (by rw [c12]; decide) (by decide) ?_
          refine lv_aload_n hx hb dX13_owner_141 rfl (lv_at hl 0 rfl) ?_
          refine lv_iload_n hx hb dX13_owner_142 rfl (lv_at hl 1 rfl) ?_
          refine lv_aload_n hx hb dX13_owner_143 rfl (lv_at hl 0 rfl) ?_
          refine va_get (D := (dC, dI)) (ci := 11) (v := .int gvm.2.2.1) (C := RX13) (T := TX13) (N := 64) hx hb hts in_X13 hown hK hP 0 rfl rfl 3 (by decide) lk3 (fun _ h9 => h9) rfl dX13_owner_144 ?_
          obtain ⟨v13, hv14, h⟩ := ok_bind h
          refine cl_vi (w2 := fun (_ : Unit) => w_X13_owner cy a0 gth gvm gtd gfl grd gnv gac gla grc gim) (As := [.int x1, .int gvm.2.2.1]) (rest := []) ⟨hx, hb, hml, hown, hts⟩ (c_X13_oweBy l dC dI cy a0 gth gvm gtd gfl grd gnv gac gla grc gim x1 gvm.2.2.1 H.size v13 hv14) (cwV 2 hts gX13_owner_X13_oweBy rfl rfl rfl (by decide +kernel) ⟨Nat.le_of_ble_eq_true rfl, Nat.le_of_ble_eq_true rfl⟩) (va_recv hK hP (ci := 11) (q0 := 0) rfl rfl) cl_blind (cl_pre hK hP hD [0, 1, 2, 3, 4, 5, 6, 7, 8, 9, 10] (by decide) rfl) hP hD hS hA [0, 1, 2, 3, 4, 5, 6, 7, 8, 9, 10] rfl rfl hl.1 rfl (lv_room (Nat.le_of_ble_eq_true rfl)) dX13_owner_147 ⟨Nat.le_of_ble_eq_true rfl, Nat.le_of_ble_eq_true rfl⟩ ⟨rfl, rfl⟩ (fun _ => updR [0, 1, 2, 3, 4, 5, 6, 7, 8, 9, 10] rfl) (fun r u H locs hw hP hD hS => ?_)
          have hw := hw.symm
          subst hw
          have hP : va_P (dC, dI) vwCl (w_X13_owner cy a0 gth gvm gtd gfl grd gnv gac gla grc gim) H := hP
          have hD : va_D A (w_X13_owner cy a0 gth gvm gtd gfl grd gnv gac gla grc gim) := hD
          exact W.iret (v := v13) hx hb hr (fun t ht hW => by rw [hqq]; have hh := Option.some.inj h; exact ⟨⟨v13, ((gth, gla)), rfl, ⟨fst_of hh, snd_of hh⟩, by rw [ht]; exact hP, va_K.moved hW.alike hK⟩, hS.F ht⟩) hS.2.2 dX13_owner_150
        rw [if_neg c12] at h
        by_cases c15 : x2 = (6 : Int32)
        · rw [if_pos c15] at h
          refine lv_tableIn (off := 85) (tgt := 151) hx hb dX13_owner_66 (by rw [c15]; decide) (by rw [c15]; decide) (by rw [c15]; decide) (by decide) ?_
          refine lv_aload_n hx hb dX13_owner_151 rfl (lv_at hl 0 rfl) ?_
          refine lv_iload_n hx hb dX13_owner_152 rfl (lv_at hl 1 rfl) ?_
          refine lv_aload_n hx hb dX13_owner_153 rfl (lv_at hl 0 rfl) ?_
          refine va_get (D := (dC, dI)) (ci := 11) (v := .int gvm.2.2.1) (C := RX13) (T := TX13) (N := 64) hx hb hts in_X13 hown hK hP 0 rfl rfl 3 (by decide) lk3 (fun _ h9 => h9) rfl dX13_owner_154 ?_
          obtain ⟨v16, hv17, h⟩ := ok_bind h
          refine cl_vi (w2 := fun (_ : Unit) => w_X13_owner cy a0 gth gvm gtd gfl grd gnv gac gla grc gim) (As := [.int x1, .int gvm.2.2.1]) (rest := []) ⟨hx, hb, hml, hown, hts⟩ (c_X13_owedTo l dC dI cy a0 gth gvm gtd gfl grd gnv gac gla grc gim x1 gvm.2.2.1 H.size v16 hv17) (cwV 2 hts gX13_owner_X13_owedTo rfl rfl rfl (by decide +kernel) ⟨Nat.le_of_ble_eq_true rfl, Nat.le_of_ble_eq_true rfl⟩) (va_recv hK hP (ci := 11) (q0 := 0) rfl rfl) cl_blind (cl_pre hK hP hD [0, 1, 2, 3, 4, 5, 6, 7, 8, 9, 10] (by decide) rfl) hP hD hS hA [0, 1, 2, 3, 4, 5, 6, 7, 8, 9, 10] rfl rfl hl.1 rfl (lv_room (Nat.le_of_ble_eq_true rfl)) dX13_owner_157 ⟨Nat.le_of_ble_eq_true rfl, Nat.le_of_ble_eq_true rfl⟩ ⟨rfl, rfl⟩ (fun _ => updR [0, 1, 2, 3, 4, 5, 6, 7, 8, 9, 10] rfl) (fun r u H locs hw hP hD hS => ?_)
          have hw := hw.symm
          subst hw
          have hP : va_P (dC, dI) vwCl (w_X13_owner cy a0 gth gvm gtd gfl grd gnv gac gla grc gim) H := hP
          have hD : va_D A (w_X13_owner cy a0 gth gvm gtd gfl grd gnv gac gla grc gim) := hD
          exact W.iret (v := v16) hx hb hr (fun t ht hW => by rw [hqq]; have hh := Option.some.inj h; exact ⟨⟨v16, ((gth, gla)), rfl, ⟨fst_of hh, snd_of hh⟩, by rw [ht]; exact hP, va_K.moved hW.alike hK⟩, hS.F ht⟩) hS.2.2 dX13_owner_160
        rw [if_neg c15] at h
        by_cases c18 : x2 = (7 : Int32)
        · rw [if_pos c18] at h
          refine lv_tableIn (off := 95) (tgt := 161) hx hb dX13_owner_66 (by rw [c18]; decide) (by rw [c18]; decide) (by rw [c18]; decide) (by decide) ?_
          refine lv_aload_n hx hb dX13_owner_161 rfl (lv_at hl 0 rfl) ?_
          refine lv_iload_n hx hb dX13_owner_162 rfl (lv_at hl 1 rfl) ?_
          refine lv_aload_n hx hb dX13_owner_163 rfl (lv_at hl 0 rfl) ?_
          refine va_get (D := (dC, dI)) (ci := 11) (v := .int gvm.2.2.1) (C := RX13) (T := TX13) (N := 64) hx hb hts in_X13 hown hK hP 0 rfl rfl 3 (by decide) lk3 (fun _ h9 => h9) rfl dX13_owner_164 ?_
          obtain ⟨v19, hv20, h⟩ := ok_bind h
          refine cl_vi (w2 := fun (_ : Unit) => w_X13_owner cy a0 gth gvm gtd gfl grd gnv gac gla grc gim) (As := [.int x1, .int gvm.2.2.1]) (rest := []) ⟨hx, hb, hml, hown, hts⟩ (c_X13_net l dC dI cy a0 gth gvm gtd gfl grd gnv gac gla grc gim x1 gvm.2.2.1 H.size v19 hv20) (cwV 2 hts gX13_owner_X13_net rfl rfl rfl (by decide +kernel) ⟨Nat.le_of_ble_eq_true rfl, Nat.le_of_ble_eq_true rfl⟩) (va_recv hK hP (ci := 11) (q0 := 0) rfl rfl) cl_blind (cl_pre hK hP hD [0, 1, 2, 3, 4, 5, 6, 7, 8, 9, 10] (by decide) rfl) hP hD hS hA [0, 1, 2, 3, 4, 5, 6, 7, 8, 9, 10] rfl rfl hl.1 rfl (lv_room (Nat.le_of_ble_eq_true rfl)) dX13_owner_167 ⟨Nat.le_of_ble_eq_true rfl, Nat.le_of_ble_eq_true rfl⟩ ⟨rfl, rfl⟩ (fun _ => updR [0, 1, 2, 3, 4, 5, 6, 7, 8, 9, 10] rfl) (fun r u H locs hw hP hD hS => ?_)
          have hw := hw.symm
          subst hw
          have hP : va_P (dC, dI) vwCl (w_X13_owner cy a0 gth gvm gtd gfl grd gnv gac gla grc gim) H := hP
          have hD : va_D A (w_X13_owner cy a0 gth gvm gtd gfl grd gnv gac gla grc gim) := hD
          exact W.iret (v := v19) hx hb hr (fun t ht hW => by rw [hqq]; have hh := Option.some.inj h; exact ⟨⟨v19, ((gth, gla)), rfl, ⟨fst_of hh, snd_of hh⟩, by rw [ht]; exact hP, va_K.moved hW.alike hK⟩, hS.F ht⟩) hS.2.2 dX13_owner_170
        rw [if_neg c18] at h
        refine lv_tableOut (tgt := 171) hx hb dX13_owner_66 (tab_out (fun k h1 h2 e => by rcases (show k = 0 ∨ k = 1 ∨ k = 2 ∨ k = 3 ∨ k = 4 ∨ k = 5 ∨ k = 6 ∨ k = 7 by omega) with rfl | rfl | rfl | rfl | rfl | rfl | rfl | rfl <;> first | exact c2 (Int32.toInt_inj.mp (e.trans (by decide))) | exact c4 (Int32.toInt_inj.mp (e.trans (by decide))) | exact c6 (Int32.toInt_inj.mp (e.trans (by decide))) | exact c8 (Int32.toInt_inj.mp (e.trans (by decide))) | exact c11 (Int32.toInt_inj.mp (e.trans (by decide))) | exact c12 (Int32.toInt_inj.mp (e.trans (by decide))) | exact c15 (Int32.toInt_inj.mp (e.trans (by decide))) | exact c18 (Int32.toInt_inj.mp (e.trans (by decide))))) (by decide) ?_
        refine lv_aload_n hx hb dX13_owner_171 rfl (lv_at hl 0 rfl) ?_
        refine lv_iload_n hx hb dX13_owner_172 rfl (lv_at hl 1 rfl) ?_
        refine lv_aload_n hx hb dX13_owner_173 rfl (lv_at hl 0 rfl) ?_
        refine va_get (D := (dC, dI)) (ci := 11) (v := .int gvm.2.2.1) (C := RX13) (T := TX13) (N := 64) hx hb hts in_X13 hown hK hP 0 rfl rfl 3 (by decide) lk3 (fun _ h9 => h9) rfl dX13_owner_174 ?_
        refine lv_iconst (v := (1 : Int32)) hx hb dX13_owner_177 (by decide) ?_
        refine lv_iadd hx hb dX13_owner_178 ?_
        obtain ⟨v21, hv22, h⟩ := ok_bind h
        refine cl_vi (w2 := fun (_ : Unit) => w_X13_owner cy a0 gth gvm gtd gfl grd gnv gac gla grc gim) (As := [.int x1, .int (gvm.2.2.1 + (1 : Int32))]) (rest := []) ⟨hx, hb, hml, hown, hts⟩ (c_X13_net l dC dI cy a0 gth gvm gtd gfl grd gnv gac gla grc gim x1 (gvm.2.2.1 + (1 : Int32)) H.size v21 hv22) (cwV 2 hts gX13_owner_X13_net rfl rfl rfl (by decide +kernel) ⟨Nat.le_of_ble_eq_true rfl, Nat.le_of_ble_eq_true rfl⟩) (va_recv hK hP (ci := 11) (q0 := 0) rfl rfl) cl_blind (cl_pre hK hP hD [0, 1, 2, 3, 4, 5, 6, 7, 8, 9, 10] (by decide) rfl) hP hD hS hA [0, 1, 2, 3, 4, 5, 6, 7, 8, 9, 10] rfl rfl hl.1 rfl (lv_room (Nat.le_of_ble_eq_true rfl)) dX13_owner_179 ⟨Nat.le_of_ble_eq_true rfl, Nat.le_of_ble_eq_true rfl⟩ ⟨rfl, rfl⟩ (fun _ => updR [0, 1, 2, 3, 4, 5, 6, 7, 8, 9, 10] rfl) (fun r u H locs hw hP hD hS => ?_)
        have hw := hw.symm
        subst hw
        have hP : va_P (dC, dI) vwCl (w_X13_owner cy a0 gth gvm gtd gfl grd gnv gac gla grc gim) H := hP
        have hD : va_D A (w_X13_owner cy a0 gth gvm gtd gfl grd gnv gac gla grc gim) := hD
        refine lv_aload_n hx hb dX13_owner_182 rfl (lv_at hl 0 rfl) ?_
        refine lv_iload_n hx hb dX13_owner_183 rfl (lv_at hl 1 rfl) ?_
        refine lv_aload_n hx hb dX13_owner_184 rfl (lv_at hl 0 rfl) ?_
        refine va_get (D := (dC, dI)) (ci := 11) (v := .int gvm.2.2.1) (C := RX13) (T := TX13) (N := 64) hx hb hts in_X13 hown hK hP 0 rfl rfl 3 (by decide) lk3 (fun _ h9 => h9) rfl dX13_owner_185 ?_
        obtain ⟨v23, hv24, h⟩ := ok_bind h
        refine cl_vi (w2 := fun (_ : Unit) => w_X13_owner cy a0 gth gvm gtd gfl grd gnv gac gla grc gim) (As := [.int x1, .int gvm.2.2.1]) (rest := [.int v21]) ⟨hx, hb, hml, hown, hts⟩ (c_X13_net l dC dI cy a0 gth gvm gtd gfl grd gnv gac gla grc gim x1 gvm.2.2.1 H.size v23 hv24) (cwV 2 hts gX13_owner_X13_net rfl rfl rfl (by decide +kernel) ⟨Nat.le_of_ble_eq_true rfl, Nat.le_of_ble_eq_true rfl⟩) (va_recv hK hP (ci := 11) (q0 := 0) rfl rfl) cl_blind (cl_pre hK hP hD [0, 1, 2, 3, 4, 5, 6, 7, 8, 9, 10] (by decide) rfl) hP hD hS hA [0, 1, 2, 3, 4, 5, 6, 7, 8, 9, 10] rfl rfl hl.1 rfl (lv_room (Nat.le_of_ble_eq_true rfl)) dX13_owner_188 ⟨Nat.le_of_ble_eq_true rfl, Nat.le_of_ble_eq_true rfl⟩ ⟨rfl, rfl⟩ (fun _ => updR [0, 1, 2, 3, 4, 5, 6, 7, 8, 9, 10] rfl) (fun r u H locs hw hP hD hS => ?_)
        have hw := hw.symm
        subst hw
        have hP : va_P (dC, dI) vwCl (w_X13_owner cy a0 gth gvm gtd gfl grd gnv gac gla grc gim) H := hP
        have hD : va_D A (w_X13_owner cy a0 gth gvm gtd gfl grd gnv gac gla grc gim) := hD
        refine lv_isub hx hb dX13_owner_191 ?_
        exact W.iret (v := (v21 - v23)) hx hb hr (fun t ht hW => by rw [hqq]; have hh := Option.some.inj h; exact ⟨⟨(v21 - v23), ((gth, gla)), rfl, ⟨fst_of hh, snd_of hh⟩, by rw [ht]; exact hP, va_K.moved hW.alike hK⟩, hS.F ht⟩) hS.2.2 dX13_owner_192
      · rw [if_neg c1] at h
        refine lv_iload_n hx hb dX13_owner_45 rfl (lv_at hl 3 rfl) ?_
        refine lv_aload_n hx hb dX13_owner_46 rfl (lv_at hl 0 rfl) ?_
        refine va_get (D := (dC, dI)) (ci := 11) (v := .ref (a0 4)) (C := RX13) (T := TX13) (N := 64) hx hb hts in_X13 hown hK hP 0 rfl rfl 7 (by decide) lk4 (fun _ h9 => h9) rfl dX13_owner_47 ?_
        refine lv_iconst (v := (5 : Int32)) hx hb dX13_owner_50 (by decide) ?_
        refine lv_iload hx hb dX13_owner_51 (lv_at hl 4 rfl) ?_
        refine lv_imul hx hb dX13_owner_53 ?_
        refine lv_iload_n hx hb dX13_owner_54 rfl (lv_at hl 1 rfl) ?_
        refine lv_iadd hx hb dX13_owner_55 ?_
        obtain ⟨hi25, h⟩ := ok_if h
        refine va_iald hx hb hK hP 4 1 rfl rfl (ix_in hi25) dX13_owner_56 ?_
        refine lv_iadd hx hb dX13_owner_57 ?_
        refine lv_istore_n (lv' := [(3, .int (x3 + (gvm.2.2.2.2.2.2.1 (((5 : Int32) * x4) + x1).toNatClampNeg))), (0, .ref (a0 0)), (1, .int x1), (2, .int x2), (4, .int x4)]) hx hb dX13_owner_58 rfl hl (by decide) rfl (fun ls hl => ?_)
        refine lv_iinc (v := (x4 + (1 : Int32))) (lv' := [(4, .int (x4 + (1 : Int32))), (3, .int (x3 + (gvm.2.2.2.2.2.2.1 (((5 : Int32) * x4) + x1).toNatClampNeg))), (0, .ref (a0 0)), (1, .int x1), (2, .int x2)]) hx hb dX13_owner_59 hl (k := 4) rfl rfl (by decide) rfl (fun ls hl => ?_)
        refine lv_goto (tgt := 39) hx hb dX13_owner_62 (by decide) ?_
        exact ih gth gla x1 x2 (x3 + (gvm.2.2.2.2.2.2.1 (((5 : Int32) * x4) + x1).toNatClampNeg)) (x4 + (1 : Int32)) H locs ls h hP hD hS (lv_sub hl [2, 3, 4, 1, 0] rfl)
  obtain ⟨H, hH⟩ : ∃ H : Heap, H = s.heap := ⟨_, rfl⟩
  obtain ⟨locs, hlocs⟩ : ∃ locs : List Loc, locs = [] := ⟨_, rfl⟩
  have hS : va_S A s.heap H locs := by rw [hH, hlocs]; exact hS
  rw [← hH] at hP
  suffices hg : W p l e rm_X13_owner s m aa below meth c H locs 0 0 (MQ below qq aa s 0 0 A) (F0 m 0 ls []) by subst hH; subst hlocs; exact hg
  unfold p_X13_owner at h
  refine lv_aload_n hx hb dX13_owner_0 rfl (lv_at hl 0 rfl) ?_
  refine lv_iconst (v := (0 : Int32)) hx hb dX13_owner_1 (by decide) ?_
  refine va_put (D := (dC, dI)) (ci := 11) (v := .int (0 : Int32)) (ty := .int) (C := RX13) (T := TX13) (N := 64) hx hb hts in_X13 tyX13 tyX13_ok nmX13 hown hK hP hD hS 0 rfl rfl 0 (by decide) lk5 (fun _ h9 => h9) rfl (by decide +kernel) rfl rfl (Nat.le_of_ble_eq_true rfl) dX13_owner_2 (fun H locs hP hD hS => ?_)
  have hP : va_P (dC, dI) vwCl (w_X13_owner cy a0 ((0 : Int32)) gvm gtd gfl grd gnv gac gla grc gim) H := hP
  have hD : va_D A (w_X13_owner cy a0 ((0 : Int32)) gvm gtd gfl grd gnv gac gla grc gim) := hD
  refine lv_aload_n hx hb dX13_owner_5 rfl (lv_at hl 0 rfl) ?_
  refine lv_iload_n hx hb dX13_owner_6 rfl (lv_at hl 1 rfl) ?_
  obtain ⟨v1, hv2, h⟩ := ok_bind h
  refine cl_vi (w2 := fun (u : (Int32)) => w_X13_owner cy a0 u gvm gtd gfl grd gnv gac gla grc gim) (As := [.int x1]) (rest := []) ⟨hx, hb, hml, hown, hts⟩ (c_X13_isOwner l dC dI cy a0 (0 : Int32) gvm gtd gfl grd gnv gac grc gim x1 H.size v1 hv2) (cwV 1 hts gX13_owner_X13_isOwner rfl rfl rfl (by decide +kernel) ⟨Nat.le_of_ble_eq_true rfl, Nat.le_of_ble_eq_true rfl⟩) (va_recv hK hP (ci := 11) (q0 := 0) rfl rfl) cl_blind (cl_pre hK hP hD [0, 1, 2, 3, 4, 5, 6, 7, 8, 9] (by decide) rfl) hP hD hS hA [0, 1, 2, 3, 4, 5, 6, 7, 8, 9] rfl rfl hl.1 rfl (lv_room (Nat.le_of_ble_eq_true rfl)) dX13_owner_7 ⟨Nat.le_of_ble_eq_true rfl, Nat.le_of_ble_eq_true rfl⟩ ⟨rfl, rfl⟩ (fun _ => updM [0, 1, 2, 3, 4, 5, 6, 7, 8, 9] [10] [(a0 21, .inl (cy 1, 620, .inl (gla)))] 11 rfl rfl rfl rfl rfl (by decide +kernel) (by decide +kernel) rfl) (fun r u H locs hw hP hD hS => ?_)
  obtain ⟨rfl, rfl⟩ := hw
  have hP : va_P (dC, dI) vwCl (w_X13_owner cy a0 v1.2 gvm gtd gfl grd gnv gac gla grc gim) H := hP
  have hD : va_D A (w_X13_owner cy a0 v1.2 gvm gtd gfl grd gnv gac gla grc gim) := hD
  refine lv_if_eq (tgt := 28) hx hb dX13_owner_10 (by decide) (fun c3 => ?_) (fun c3 => ?_)
  · rw [if_pos c3] at h
    refine lv_iconst (v := (0 : Int32)) hx hb dX13_owner_28 (by decide) ?_
    exact W.iret (v := (0 : Int32)) hx hb hr (fun t ht hW => by rw [hqq]; have hh := Option.some.inj h; exact ⟨⟨(0 : Int32), ((v1.2, gla)), rfl, ⟨fst_of hh, snd_of hh⟩, by rw [ht]; exact hP, va_K.moved hW.alike hK⟩, hS.F ht⟩) hS.2.2 dX13_owner_29
  · rw [if_neg c3] at h
    refine lv_aload_n hx hb dX13_owner_13 rfl (lv_at hl 0 rfl) ?_
    refine lv_iload_n hx hb dX13_owner_14 rfl (lv_at hl 2 rfl) ?_
    refine lv_iconst (v := (0 : Int32)) hx hb dX13_owner_15 (by decide) ?_
    refine lv_bipush (v := (8 : Int32)) hx hb dX13_owner_16 (by decide) ?_
    obtain ⟨v4, hv5, h⟩ := ok_bind h
    refine cl_si (w2 := fun (_ : Unit) => w_X13_owner cy a0 v1.2 gvm gtd gfl grd gnv gac gla grc gim) (As := [.int x2, .int (0 : Int32), .int (8 : Int32)]) (rest := [.ref (a0 0)]) ⟨hx, hb, hml, hown, hts⟩ (c_X13_within l dC dI cy  x2 (0 : Int32) (8 : Int32) H.size v4 hv5) (va_cwS 3 hts gX13_owner_X13_within rfl rfl rfl (by decide +kernel) ⟨Nat.le_of_ble_eq_true rfl, Nat.le_of_ble_eq_true rfl⟩) cl_blind (cl_pre hK hP hD [] (by decide) rfl) hP hD hS hA [] rfl rfl hl.1 rfl (lv_room (Nat.le_of_ble_eq_true rfl)) dX13_owner_18 ⟨Nat.le_of_ble_eq_true rfl, Nat.le_of_ble_eq_true rfl⟩ ⟨rfl, rfl⟩ (fun _ => updR [] rfl) (fun r u H locs hw hP hD hS => ?_)
    have hw := hw.symm
    subst hw
    have hP : va_P (dC, dI) vwCl (w_X13_owner cy a0 v1.2 gvm gtd gfl grd gnv gac gla grc gim) H := hP
    have hD : va_D A (w_X13_owner cy a0 v1.2 gvm gtd gfl grd gnv gac gla grc gim) := hD
    refine lv_iconst (v := (1 : Int32)) hx hb dX13_owner_21 (by decide) ?_
    obtain ⟨v6, hv7, h⟩ := ok_bind h
    refine cl_vi (w2 := fun (u : (Int32)) => w_X13_owner cy a0 u gvm gtd gfl grd gnv gac gla grc gim) (As := [.int v4, .int (1 : Int32)]) (rest := []) ⟨hx, hb, hml, hown, hts⟩ (c_X13_right l dC dI cy a0 v1.2 gvm gtd gfl grd gnv gac grc gim v4 (1 : Int32) H.size v6 hv7) (cwV 2 hts gX13_owner_X13_right rfl rfl rfl (by decide +kernel) ⟨Nat.le_of_ble_eq_true rfl, Nat.le_of_ble_eq_true rfl⟩) (va_recv hK hP (ci := 11) (q0 := 0) rfl rfl) cl_blind (cl_pre hK hP hD [0] (by decide) rfl) hP hD hS hA [0] rfl rfl hl.1 rfl (lv_room (Nat.le_of_ble_eq_true rfl)) dX13_owner_22 ⟨Nat.le_of_ble_eq_true rfl, Nat.le_of_ble_eq_true rfl⟩ ⟨rfl, rfl⟩ (fun _ => updM [0] [1, 2, 3, 4, 5, 6, 7, 8, 9, 10] [(a0 1, .inl (cy 1, 5, .inl (gvm.2.2.2.1))), (a0 2, .inl (cy 1, 5, .inl (gvm.2.2.2.2.1))), (a0 3, .inl (cy 1, 5, .inl (gvm.2.2.2.2.2.1))), (a0 4, .inl (cy 1, 25, .inl (gvm.2.2.2.2.2.2.1))), (a0 5, .inl (cy 1, 10, .inl (gvm.2.2.2.2.2.2.2.1))), (a0 6, .inl (cy 1, 10, .inl (gvm.2.2.2.2.2.2.2.2.1))), (a0 7, .inl (cy 1, 10, .inl (gvm.2.2.2.2.2.2.2.2.2.1))), (a0 8, .inl (cy 1, 10, .inl (gvm.2.2.2.2.2.2.2.2.2.2.1))), (a0 9, .inl (cy 1, 50, .inl (gvm.2.2.2.2.2.2.2.2.2.2.2))), (a0 21, .inl (cy 1, 620, .inl (gla)))] 11 rfl rfl rfl rfl rfl (by decide +kernel) (by decide +kernel) rfl) (fun r u H locs hw hP hD hS => ?_)
    obtain ⟨rfl, rfl⟩ := hw
    have hP : va_P (dC, dI) vwCl (w_X13_owner cy a0 v6.2 gvm gtd gfl grd gnv gac gla grc gim) H := hP
    have hD : va_D A (w_X13_owner cy a0 v6.2 gvm gtd gfl grd gnv gac gla grc gim) := hD
    refine lv_if_ne (tgt := 30) hx hb dX13_owner_25 (by decide) (fun c8 => ?_) (fun c8 => ?_)
    · rw [if_neg c8] at h
      refine lv_aload_n hx hb dX13_owner_30 rfl (lv_at hl 0 rfl) ?_
      obtain ⟨v9, hv10, h⟩ := ok_bind h
      refine cl_vv (w2 := fun (u : ((Nat → Int32))) => w_X13_owner cy a0 v6.2 gvm gtd gfl grd gnv gac u grc gim) (As := []) (rest := []) ⟨hx, hb, hml, hown, hts⟩ (c_X13_lay l dC dI cy a0 v6.2 gvm gtd gfl grd gnv gac gla grc gim H.size v9 hv10) (cwV 0 hts gX13_owner_X13_lay rfl rfl rfl (by decide +kernel) ⟨Nat.le_of_ble_eq_true rfl, Nat.le_of_ble_eq_true rfl⟩) (va_recv hK hP (ci := 11) (q0 := 0) rfl rfl) cl_blind (cl_pre hK hP hD [0, 1, 2, 3, 4, 5, 6, 7, 8, 9, 10] (by decide) rfl) hP hD hS hA [0, 1, 2, 3, 4, 5, 6, 7, 8, 9, 10] rfl rfl hl.1 rfl (lv_room (Nat.le_of_ble_eq_true rfl)) dX13_owner_31 ⟨Nat.le_of_ble_eq_true rfl, Nat.le_of_ble_eq_true rfl⟩ ⟨rfl, rfl⟩ (fun _ => updM [0, 1, 2, 3, 4, 5, 6, 7, 8, 9, 10] [] [] 11 rfl rfl rfl rfl rfl (by decide +kernel) (by decide +kernel) rfl) (fun u H locs hw hP hD hS => ?_)
      have hw := hw.symm
      subst hw
      have hP : va_P (dC, dI) vwCl (w_X13_owner cy a0 v6.2 gvm gtd gfl grd gnv gac v9 grc gim) H := hP
      have hD : va_D A (w_X13_owner cy a0 v6.2 gvm gtd gfl grd gnv gac v9 grc gim) := hD
      refine lv_iconst (v := (0 : Int32)) hx hb dX13_owner_34 (by decide) ?_
      refine lv_istore_n (lv' := [(3, .int (0 : Int32)), (0, .ref (a0 0)), (1, .int x1), (2, .int x2)]) hx hb dX13_owner_35 rfl hl (by decide) rfl (fun ls hl => ?_)
      refine lv_iconst (v := (0 : Int32)) hx hb dX13_owner_36 (by decide) ?_
      refine lv_istore (lv' := [(4, .int (0 : Int32)), (3, .int (0 : Int32)), (0, .ref (a0 0)), (1, .int x1), (2, .int x2)]) hx hb dX13_owner_37 hl (by decide) rfl (fun ls hl => ?_)
      exact c39 fu v6.2 v9 x1 x2 (0 : Int32) (0 : Int32) H locs ls h hP hD hS (lv_sub hl [2, 3, 4, 1, 0] rfl)
    · rw [if_pos c8] at h
      refine lv_iconst (v := (0 : Int32)) hx hb dX13_owner_28 (by decide) ?_
      exact W.iret (v := (0 : Int32)) hx hb hr (fun t ht hW => by rw [hqq]; have hh := Option.some.inj h; exact ⟨⟨(0 : Int32), ((v6.2, gla)), rfl, ⟨fst_of hh, snd_of hh⟩, by rw [ht]; exact hP, va_K.moved hW.alike hK⟩, hS.F ht⟩) hS.2.2 dX13_owner_29

abbrev w_X13_door (cy : Nat → ClassId) (a0 : Nat → Nat) (gth : Int32) (gvm : Int32 × Int32 × Int32 × (Nat → Int32) × (Nat → Int32) × (Nat → Int32) × (Nat → Int32) × (Nat → Int32) × (Nat → Int32) × (Nat → Int32) × (Nat → Int32) × (Nat → Int32)) (gtd : Int32) (gfl : Int32 × Int32) (grd : Int32 × Int32 × Int32 × Int32 × Int32 × Int32 × Int64 × (Nat → Int32)) (gnv : Int32 × Int32 × Int32 × Int32 × Int32 × (Nat → Int32) × (Nat → Int32) × (Nat → Int32) × (Nat → Int32) × (Nat → Int32) × (Nat → Int32)) (gac : Int32 × (Nat → Int32) × (Nat → Int32)) (grc : Int32 × (Nat → Int32)) (gim : Int32 × Int32 × Int32 × (Nat → Int32) × (Nat → Int32) × (Nat → Int32) × (Nat → Int32) × (Nat → Int32) × (Nat → Int32) × (Nat → Int32) × (Nat → Int32) × (Nat → Int32)) : va_W := [(a0 0, .inr (11, [.int (gth), .int (gvm.1), .int (gvm.2.1), .int (gvm.2.2.1), .ref (a0 1), .ref (a0 2), .ref (a0 3), .ref (a0 4), .ref (a0 5), .ref (a0 6), .ref (a0 7), .ref (a0 8), .ref (a0 9), .ref (a0 10), .int (gtd), .int (gfl.1), .int (gfl.2), .ref (a0 11), .int (grd.1), .int (grd.2.1), .int (grd.2.2.1), .int (grd.2.2.2.1), .int (grd.2.2.2.2.1), .int (grd.2.2.2.2.2.1), .long (grd.2.2.2.2.2.2.1), .ref (a0 12), .int (gnv.1), .int (gnv.2.1), .int (gnv.2.2.1), .int (gnv.2.2.2.1), .int (gnv.2.2.2.2.1), .ref (a0 13), .ref (a0 14), .ref (a0 15), .ref (a0 16), .ref (a0 17), .ref (a0 18), .int (gac.1), .ref (a0 19), .ref (a0 20), .ref (a0 21), .ref (a0 22), .ref (a0 23), .ref (a0 24), .ref (a0 25), .ref (a0 26), .ref (a0 27), .int (grc.1), .ref (a0 28), .ref (a0 29), .ref (a0 30), .ref (a0 31), .int (gim.1), .int (gim.2.1), .int (gim.2.2.1), .ref (a0 32), .ref (a0 33), .ref (a0 34), .ref (a0 35), .ref (a0 36), .ref (a0 37), .ref (a0 38), .ref (a0 39), .ref (a0 40)])), (a0 1, .inl (cy 1, 5, .inl (gvm.2.2.2.1))), (a0 2, .inl (cy 1, 5, .inl (gvm.2.2.2.2.1))), (a0 3, .inl (cy 1, 5, .inl (gvm.2.2.2.2.2.1))), (a0 4, .inl (cy 1, 25, .inl (gvm.2.2.2.2.2.2.1))), (a0 5, .inl (cy 1, 10, .inl (gvm.2.2.2.2.2.2.2.1))), (a0 6, .inl (cy 1, 10, .inl (gvm.2.2.2.2.2.2.2.2.1))), (a0 7, .inl (cy 1, 10, .inl (gvm.2.2.2.2.2.2.2.2.2.1))), (a0 8, .inl (cy 1, 10, .inl (gvm.2.2.2.2.2.2.2.2.2.2.1))), (a0 9, .inl (cy 1, 50, .inl (gvm.2.2.2.2.2.2.2.2.2.2.2)))]
abbrev rm_X13_door : Room := { frames := 2, cells := 0, slots := 0, locals := 43 }
set_option maxHeartbeats 1000000 in
set_option maxRecDepth 100000 in
theorem c_X13_door (l : Launch) (dC : Nat → ClassId) (dI : Nat → Nat → Nat) (cy : Nat → ClassId) (a0 : Nat → Nat) (gth : Int32) (gvm : Int32 × Int32 × Int32 × (Nat → Int32) × (Nat → Int32) × (Nat → Int32) × (Nat → Int32) × (Nat → Int32) × (Nat → Int32) × (Nat → Int32) × (Nat → Int32) × (Nat → Int32)) (gtd : Int32) (gfl : Int32 × Int32) (grd : Int32 × Int32 × Int32 × Int32 × Int32 × Int32 × Int64 × (Nat → Int32)) (gnv : Int32 × Int32 × Int32 × Int32 × Int32 × (Nat → Int32) × (Nat → Int32) × (Nat → Int32) × (Nat → Int32) × (Nat → Int32) × (Nat → Int32)) (gac : Int32 × (Nat → Int32) × (Nat → Int32)) (grc : Int32 × (Nat → Int32)) (gim : Int32 × Int32 × Int32 × (Nat → Int32) × (Nat → Int32) × (Nat → Int32) × (Nat → Int32) × (Nat → Int32) × (Nat → Int32) × (Nat → Int32) × (Nat → Int32) × (Nat → Int32)) (x1 : Int32) (x2 : Int32) (sz : Nat) (R0 : Int32 × (Int32)) (h : p_X13_door gth gvm x1 x2 = some R0) : Met l yX13_door wsX13_door rm_X13_door (va_Pc [.ref (a0 0), .int x1, .int x2] (prC dC dI cy (w_X13_door cy a0 gth gvm gtd gfl grd gnv gac grc gim) sz)) (va_Qi (fun (r : Int32) (u : (Int32)) => r = R0.1 ∧ u = R0.2) (fun (u : (Int32)) t => poC dC dI cy (w_X13_door cy a0 u gvm gtd gfl grd gnv gac grc gim) t) (va_A (w_X13_door cy a0 gth gvm gtd gfl grd gnv gac grc gim) sz)) 0 0 (va_A (w_X13_door cy a0 gth gvm gtd gfl grd gnv gac grc gim) sz) := by
  refine Met.ofW (cc := cX13_door) (maxL := 3) (ret := (some .int)) (by decide) rfl ?_
  intro p e s m aa below meth c s₁ B hml hv
  obtain ⟨haa, hsz, hP, hK, hD0⟩ := hv
  have hx := B.exec
  have hb := B.bytes
  have hr := B.returns
  have hts := atoms_spec (ws := wsX13_door) B.pre
  have hown : s.vm.findClass RX13 = some m.cls := findClass_of_methodNamed B.named
  have hlocks := B.notSynchronized
  subst hsz
  have hD := hD0.self (sz := s.heap.size)
  obtain ⟨qq, hqq⟩ : ∃ qq, qq = (va_Qi (fun (r : Int32) (u : (Int32)) => r = R0.1 ∧ u = R0.2) (fun (u : (Int32)) t => poC dC dI cy (w_X13_door cy a0 u gvm gtd gfl grd gnv gac grc gim) t) (va_A (w_X13_door cy a0 gth gvm gtd gfl grd gnv gac grc gim) s.heap.size)) := ⟨_, rfl⟩
  rw [← hqq]
  generalize hAe : va_A (w_X13_door cy a0 gth gvm gtd gfl grd gnv gac grc gim) s.heap.size = A at hD hqq ⊢
  have hA : ∀ q : Nat, s.heap.size ≤ q → A q := fun q h => by rw [← hAe]; exact Or.inr h
  have hS : va_S A s.heap s.heap [] := va_S.rf
  have hl := lv_entry ([.ref (a0 0), .int x1, .int x2]) (n := 3) (Nat.le_of_ble_eq_true rfl)
  have hE : entryFrame m aa 3 = F0 m 0 ((lg_sl ([.ref (a0 0), .int x1, .int x2]) ++ List.replicate (3 - (lg_sl ([.ref (a0 0), .int x1, .int x2])).length) Slot.unset).toArray) [] := by rw [haa]; exact lg_entry_eq m _ 3
  refine W.eq hE ?_
  generalize (lg_sl ([.ref (a0 0), .int x1, .int x2]) ++ List.replicate (3 - (lg_sl ([.ref (a0 0), .int x1, .int x2])).length) Slot.unset).toArray = ls at hl ⊢
  have hl : lv_has ls 3 [(0, .ref (a0 0)), (1, .int x1), (2, .int x2)] := hl
  change W p l e rm_X13_door s m aa below meth c s.heap [] 0 0 (MQ below qq aa s 0 0 A) (F0 m 0 ls [])
  have hS0 := hS
  have lk0 := hts (.fieldLink RX13 34 "GoatDoorsModel" "figure" "[I") (by decide +kernel)
  have lk1 := hts (.fieldLink RX13 31 "GoatDoorsModel" "many" "[I") (by decide +kernel)
  have lk2 := hts (.fieldLink RX13 28 "GoatDoorsModel" "to" "[I") (by decide +kernel)
  have lk3 := hts (.fieldLink RX13 25 "GoatDoorsModel" "by" "[I") (by decide +kernel)
  have lk4 := hts (.fieldLink RX13 135 "GoatDoorsModel" "thrown" "I") (by decide +kernel)
  have in_X13 : ∀ w ∈ wsX130, w ∈ wsX13_door := by decide +kernel
  have c47 : ∀ (_u : Unit), ∀ (gth : Int32) (x1 : Int32) (x2 : Int32) (t1 : Int32) (H : Heap) (locs : List Loc) (ls : Array Slot), p_X13_door_47 gvm gth x1 x2 t1 = some R0 → va_P (dC, dI) vwCl (w_X13_door cy a0 gth gvm gtd gfl grd gnv gac grc gim) H → va_D A (w_X13_door cy a0 gth gvm gtd gfl grd gnv gac grc gim) → va_S A s.heap H locs → lv_has ls 3 [(0, .ref (a0 0)), (1, .int x1), (2, .int x2)] → W p l e rm_X13_door s m aa below meth c H locs 0 0 (MQ below qq aa s 0 0 A) (F0 m 47 ls [.int t1, .ref (a0 0)]) := by
    intro _ gth x1 x2 t1 H locs ls h hP hD hS hl
    unfold p_X13_door_47 at h
    refine lv_iconst (v := (1 : Int32)) hx hb dX13_door_47 (by decide) ?_
    obtain ⟨v1, hv2, h⟩ := ok_bind h
    refine cl_vi (w2 := fun (u : (Int32)) => w_X13_door cy a0 u gvm gtd gfl grd gnv gac grc gim) (As := [.int t1, .int (1 : Int32)]) (rest := []) ⟨hx, hb, hml, hown, hts⟩ (c_X13_right l dC dI cy a0 gth gvm gtd gfl grd gnv gac grc gim t1 (1 : Int32) H.size v1 hv2) (cwV 2 hts gX13_door_X13_right rfl rfl rfl (by decide +kernel) ⟨Nat.le_of_ble_eq_true rfl, Nat.le_of_ble_eq_true rfl⟩) (va_recv hK hP (ci := 11) (q0 := 0) rfl rfl) cl_blind (cl_pre hK hP hD [0] (by decide) rfl) hP hD hS hA [0] rfl rfl hl.1 rfl (lv_room (Nat.le_of_ble_eq_true rfl)) dX13_door_48 ⟨Nat.le_of_ble_eq_true rfl, Nat.le_of_ble_eq_true rfl⟩ ⟨rfl, rfl⟩ (fun _ => updM [0] [1, 2, 3, 4, 5, 6, 7, 8, 9] [(a0 1, .inl (cy 1, 5, .inl (gvm.2.2.2.1))), (a0 2, .inl (cy 1, 5, .inl (gvm.2.2.2.2.1))), (a0 3, .inl (cy 1, 5, .inl (gvm.2.2.2.2.2.1))), (a0 4, .inl (cy 1, 25, .inl (gvm.2.2.2.2.2.2.1))), (a0 5, .inl (cy 1, 10, .inl (gvm.2.2.2.2.2.2.2.1))), (a0 6, .inl (cy 1, 10, .inl (gvm.2.2.2.2.2.2.2.2.1))), (a0 7, .inl (cy 1, 10, .inl (gvm.2.2.2.2.2.2.2.2.2.1))), (a0 8, .inl (cy 1, 10, .inl (gvm.2.2.2.2.2.2.2.2.2.2.1))), (a0 9, .inl (cy 1, 50, .inl (gvm.2.2.2.2.2.2.2.2.2.2.2)))] 10 rfl rfl rfl rfl rfl (by decide +kernel) (by decide +kernel) rfl) (fun r u H locs hw hP hD hS => ?_)
    obtain ⟨rfl, rfl⟩ := hw
    have hP : va_P (dC, dI) vwCl (w_X13_door cy a0 v1.2 gvm gtd gfl grd gnv gac grc gim) H := hP
    have hD : va_D A (w_X13_door cy a0 v1.2 gvm gtd gfl grd gnv gac grc gim) := hD
    refine lv_if_ne (tgt := 56) hx hb dX13_door_51 (by decide) (fun c3 => ?_) (fun c3 => ?_)
    · rw [if_neg c3] at h
      refine lv_iload_n hx hb dX13_door_56 rfl (lv_at hl 2 rfl) ?_
      refine lv_if_ne (tgt := 69) hx hb dX13_door_57 (by decide) (fun c4 => ?_) (fun c4 => ?_)
      · rw [if_neg c4] at h
        refine lv_iload_n hx hb dX13_door_69 rfl (lv_at hl 2 rfl) ?_
        refine lv_iconst (v := (1 : Int32)) hx hb dX13_door_70 (by decide) ?_
        refine lv_icmp_ne (tgt := 83) hx hb dX13_door_71 (by decide) (fun c5 => ?_) (fun c5 => ?_)
        · rw [if_neg c5] at h
          refine lv_iload_n hx hb dX13_door_83 rfl (lv_at hl 2 rfl) ?_
          refine lv_iconst (v := (2 : Int32)) hx hb dX13_door_84 (by decide) ?_
          refine lv_icmp_ne (tgt := 97) hx hb dX13_door_85 (by decide) (fun c6 => ?_) (fun c6 => ?_)
          · rw [if_neg c6] at h
            refine lv_aload_n hx hb dX13_door_97 rfl (lv_at hl 0 rfl) ?_
            refine va_get (D := (dC, dI)) (ci := 11) (v := .ref (a0 9)) (C := RX13) (T := TX13) (N := 64) hx hb hts in_X13 hown hK hP 0 rfl rfl 12 (by decide) lk0 (fun _ h9 => h9) rfl dX13_door_98 ?_
            refine lv_iconst (v := (5 : Int32)) hx hb dX13_door_101 (by decide) ?_
            refine lv_iload_n hx hb dX13_door_102 rfl (lv_at hl 1 rfl) ?_
            refine lv_imul hx hb dX13_door_103 ?_
            refine lv_iload_n hx hb dX13_door_104 rfl (lv_at hl 2 rfl) ?_
            refine lv_iadd hx hb dX13_door_105 ?_
            refine lv_bipush (v := (10 : Int32)) hx hb dX13_door_106 (by decide) ?_
            refine lv_isub hx hb dX13_door_108 ?_
            obtain ⟨hi7, h⟩ := ok_if h
            refine va_iald hx hb hK hP 9 1 rfl rfl (ix_in hi7) dX13_door_109 ?_
            exact W.iret (v := (gvm.2.2.2.2.2.2.2.2.2.2.2 ((((5 : Int32) * x1) + x2) - (10 : Int32)).toNatClampNeg)) hx hb hr (fun t ht hW => by rw [hqq]; have hh := Option.some.inj h; exact ⟨⟨(gvm.2.2.2.2.2.2.2.2.2.2.2 ((((5 : Int32) * x1) + x2) - (10 : Int32)).toNatClampNeg), (v1.2), rfl, ⟨fst_of hh, snd_of hh⟩, by rw [ht]; exact hP, va_K.moved hW.alike hK⟩, hS.F ht⟩) hS.2.2 dX13_door_110
          · rw [if_pos c6] at h
            refine lv_aload_n hx hb dX13_door_88 rfl (lv_at hl 0 rfl) ?_
            refine va_get (D := (dC, dI)) (ci := 11) (v := .ref (a0 8)) (C := RX13) (T := TX13) (N := 64) hx hb hts in_X13 hown hK hP 0 rfl rfl 11 (by decide) lk1 (fun _ h9 => h9) rfl dX13_door_89 ?_
            refine lv_iload_n hx hb dX13_door_92 rfl (lv_at hl 1 rfl) ?_
            obtain ⟨hi8, h⟩ := ok_if h
            refine va_iald hx hb hK hP 8 1 rfl rfl (ix_in hi8) dX13_door_93 ?_
            refine lv_goto (tgt := 110) hx hb dX13_door_94 (by decide) ?_
            exact W.iret (v := (gvm.2.2.2.2.2.2.2.2.2.2.1 x1.toNatClampNeg)) hx hb hr (fun t ht hW => by rw [hqq]; have hh := Option.some.inj h; exact ⟨⟨(gvm.2.2.2.2.2.2.2.2.2.2.1 x1.toNatClampNeg), (v1.2), rfl, ⟨fst_of hh, snd_of hh⟩, by rw [ht]; exact hP, va_K.moved hW.alike hK⟩, hS.F ht⟩) hS.2.2 dX13_door_110
        · rw [if_pos c5] at h
          refine lv_aload_n hx hb dX13_door_74 rfl (lv_at hl 0 rfl) ?_
          refine va_get (D := (dC, dI)) (ci := 11) (v := .ref (a0 7)) (C := RX13) (T := TX13) (N := 64) hx hb hts in_X13 hown hK hP 0 rfl rfl 10 (by decide) lk2 (fun _ h9 => h9) rfl dX13_door_75 ?_
          refine lv_iload_n hx hb dX13_door_78 rfl (lv_at hl 1 rfl) ?_
          obtain ⟨hi9, h⟩ := ok_if h
          refine va_iald hx hb hK hP 7 1 rfl rfl (ix_in hi9) dX13_door_79 ?_
          refine lv_goto (tgt := 110) hx hb dX13_door_80 (by decide) ?_
          exact W.iret (v := (gvm.2.2.2.2.2.2.2.2.2.1 x1.toNatClampNeg)) hx hb hr (fun t ht hW => by rw [hqq]; have hh := Option.some.inj h; exact ⟨⟨(gvm.2.2.2.2.2.2.2.2.2.1 x1.toNatClampNeg), (v1.2), rfl, ⟨fst_of hh, snd_of hh⟩, by rw [ht]; exact hP, va_K.moved hW.alike hK⟩, hS.F ht⟩) hS.2.2 dX13_door_110
      · rw [if_pos c4] at h
        refine lv_aload_n hx hb dX13_door_60 rfl (lv_at hl 0 rfl) ?_
        refine va_get (D := (dC, dI)) (ci := 11) (v := .ref (a0 6)) (C := RX13) (T := TX13) (N := 64) hx hb hts in_X13 hown hK hP 0 rfl rfl 9 (by decide) lk3 (fun _ h9 => h9) rfl dX13_door_61 ?_
        refine lv_iload_n hx hb dX13_door_64 rfl (lv_at hl 1 rfl) ?_
        obtain ⟨hi10, h⟩ := ok_if h
        refine va_iald hx hb hK hP 6 1 rfl rfl (ix_in hi10) dX13_door_65 ?_
        refine lv_goto (tgt := 110) hx hb dX13_door_66 (by decide) ?_
        exact W.iret (v := (gvm.2.2.2.2.2.2.2.2.1 x1.toNatClampNeg)) hx hb hr (fun t ht hW => by rw [hqq]; have hh := Option.some.inj h; exact ⟨⟨(gvm.2.2.2.2.2.2.2.2.1 x1.toNatClampNeg), (v1.2), rfl, ⟨fst_of hh, snd_of hh⟩, by rw [ht]; exact hP, va_K.moved hW.alike hK⟩, hS.F ht⟩) hS.2.2 dX13_door_110
    · rw [if_pos c3] at h
      refine lv_iconst (v := (0 : Int32)) hx hb dX13_door_54 (by decide) ?_
      exact W.iret (v := (0 : Int32)) hx hb hr (fun t ht hW => by rw [hqq]; have hh := Option.some.inj h; exact ⟨⟨(0 : Int32), (v1.2), rfl, ⟨fst_of hh, snd_of hh⟩, by rw [ht]; exact hP, va_K.moved hW.alike hK⟩, hS.F ht⟩) hS.2.2 dX13_door_55
  have c46 : ∀ (_u : Unit), ∀ (gth : Int32) (x1 : Int32) (x2 : Int32) (H : Heap) (locs : List Loc) (ls : Array Slot), p_X13_door_46 gvm gth x1 x2 = some R0 → va_P (dC, dI) vwCl (w_X13_door cy a0 gth gvm gtd gfl grd gnv gac grc gim) H → va_D A (w_X13_door cy a0 gth gvm gtd gfl grd gnv gac grc gim) → va_S A s.heap H locs → lv_has ls 3 [(0, .ref (a0 0)), (1, .int x1), (2, .int x2)] → W p l e rm_X13_door s m aa below meth c H locs 0 0 (MQ below qq aa s 0 0 A) (F0 m 46 ls [.ref (a0 0)]) := by
    intro _ gth x1 x2 H locs ls h hP hD hS hl
    unfold p_X13_door_46 at h
    refine lv_iconst (v := (0 : Int32)) hx hb dX13_door_46 (by decide) ?_
    exact c47 () gth x1 x2 (0 : Int32) H locs ls h hP hD hS (lv_sub hl [0, 1, 2] rfl)
  have c42 : ∀ (_u : Unit), ∀ (gth : Int32) (x1 : Int32) (x2 : Int32) (H : Heap) (locs : List Loc) (ls : Array Slot), p_X13_door_42 gvm gth x1 x2 = some R0 → va_P (dC, dI) vwCl (w_X13_door cy a0 gth gvm gtd gfl grd gnv gac grc gim) H → va_D A (w_X13_door cy a0 gth gvm gtd gfl grd gnv gac grc gim) → va_S A s.heap H locs → lv_has ls 3 [(0, .ref (a0 0)), (1, .int x1), (2, .int x2)] → W p l e rm_X13_door s m aa below meth c H locs 0 0 (MQ below qq aa s 0 0 A) (F0 m 42 ls [.ref (a0 0)]) := by
    intro _ gth x1 x2 H locs ls h hP hD hS hl
    unfold p_X13_door_42 at h
    refine lv_iconst (v := (1 : Int32)) hx hb dX13_door_42 (by decide) ?_
    refine lv_goto (tgt := 47) hx hb dX13_door_43 (by decide) ?_
    exact c47 () gth x1 x2 (1 : Int32) H locs ls h hP hD hS (lv_sub hl [0, 1, 2] rfl)
  obtain ⟨H, hH⟩ : ∃ H : Heap, H = s.heap := ⟨_, rfl⟩
  obtain ⟨locs, hlocs⟩ : ∃ locs : List Loc, locs = [] := ⟨_, rfl⟩
  have hS : va_S A s.heap H locs := by rw [hH, hlocs]; exact hS
  rw [← hH] at hP
  suffices hg : W p l e rm_X13_door s m aa below meth c H locs 0 0 (MQ below qq aa s 0 0 A) (F0 m 0 ls []) by subst hH; subst hlocs; exact hg
  unfold p_X13_door at h
  refine lv_aload_n hx hb dX13_door_0 rfl (lv_at hl 0 rfl) ?_
  refine lv_iconst (v := (0 : Int32)) hx hb dX13_door_1 (by decide) ?_
  refine va_put (D := (dC, dI)) (ci := 11) (v := .int (0 : Int32)) (ty := .int) (C := RX13) (T := TX13) (N := 64) hx hb hts in_X13 tyX13 tyX13_ok nmX13 hown hK hP hD hS 0 rfl rfl 0 (by decide) lk4 (fun _ h9 => h9) rfl (by decide +kernel) rfl rfl (Nat.le_of_ble_eq_true rfl) dX13_door_2 (fun H locs hP hD hS => ?_)
  have hP : va_P (dC, dI) vwCl (w_X13_door cy a0 ((0 : Int32)) gvm gtd gfl grd gnv gac grc gim) H := hP
  have hD : va_D A (w_X13_door cy a0 ((0 : Int32)) gvm gtd gfl grd gnv gac grc gim) := hD
  refine lv_aload_n hx hb dX13_door_5 rfl (lv_at hl 0 rfl) ?_
  refine lv_iload_n hx hb dX13_door_6 rfl (lv_at hl 1 rfl) ?_
  obtain ⟨v1, hv2, h⟩ := ok_bind h
  refine cl_vi (w2 := fun (u : (Int32)) => w_X13_door cy a0 u gvm gtd gfl grd gnv gac grc gim) (As := [.int x1]) (rest := []) ⟨hx, hb, hml, hown, hts⟩ (c_X13_isDoor l dC dI cy a0 (0 : Int32) gvm gtd gfl grd gnv gac grc gim x1 H.size v1 hv2) (cwV 1 hts gX13_door_X13_isDoor rfl rfl rfl (by decide +kernel) ⟨Nat.le_of_ble_eq_true rfl, Nat.le_of_ble_eq_true rfl⟩) (va_recv hK hP (ci := 11) (q0 := 0) rfl rfl) cl_blind (cl_pre hK hP hD [0, 1, 2, 3, 4, 5, 6, 7, 8, 9] (by decide) rfl) hP hD hS hA [0, 1, 2, 3, 4, 5, 6, 7, 8, 9] rfl rfl hl.1 rfl (lv_room (Nat.le_of_ble_eq_true rfl)) dX13_door_7 ⟨Nat.le_of_ble_eq_true rfl, Nat.le_of_ble_eq_true rfl⟩ ⟨rfl, rfl⟩ (fun _ => updM [0, 1, 2, 3, 4, 5, 6, 7, 8, 9] [] [] 10 rfl rfl rfl rfl rfl (by decide +kernel) (by decide +kernel) rfl) (fun r u H locs hw hP hD hS => ?_)
  obtain ⟨rfl, rfl⟩ := hw
  have hP : va_P (dC, dI) vwCl (w_X13_door cy a0 v1.2 gvm gtd gfl grd gnv gac grc gim) H := hP
  have hD : va_D A (w_X13_door cy a0 v1.2 gvm gtd gfl grd gnv gac grc gim) := hD
  refine lv_if_eq (tgt := 54) hx hb dX13_door_10 (by decide) (fun c3 => ?_) (fun c3 => ?_)
  · rw [if_pos c3] at h
    refine lv_iconst (v := (0 : Int32)) hx hb dX13_door_54 (by decide) ?_
    exact W.iret (v := (0 : Int32)) hx hb hr (fun t ht hW => by rw [hqq]; have hh := Option.some.inj h; exact ⟨⟨(0 : Int32), (v1.2), rfl, ⟨fst_of hh, snd_of hh⟩, by rw [ht]; exact hP, va_K.moved hW.alike hK⟩, hS.F ht⟩) hS.2.2 dX13_door_55
  · rw [if_neg c3] at h
    refine lv_aload_n hx hb dX13_door_13 rfl (lv_at hl 0 rfl) ?_
    refine lv_iload_n hx hb dX13_door_14 rfl (lv_at hl 2 rfl) ?_
    refine lv_iconst (v := (0 : Int32)) hx hb dX13_door_15 (by decide) ?_
    refine lv_iconst (v := (2 : Int32)) hx hb dX13_door_16 (by decide) ?_
    obtain ⟨v4, hv5, h⟩ := ok_bind h
    refine cl_si (w2 := fun (_ : Unit) => w_X13_door cy a0 v1.2 gvm gtd gfl grd gnv gac grc gim) (As := [.int x2, .int (0 : Int32), .int (2 : Int32)]) (rest := [.ref (a0 0)]) ⟨hx, hb, hml, hown, hts⟩ (c_X13_within l dC dI cy  x2 (0 : Int32) (2 : Int32) H.size v4 hv5) (va_cwS 3 hts gX13_door_X13_within rfl rfl rfl (by decide +kernel) ⟨Nat.le_of_ble_eq_true rfl, Nat.le_of_ble_eq_true rfl⟩) cl_blind (cl_pre hK hP hD [] (by decide) rfl) hP hD hS hA [] rfl rfl hl.1 rfl (lv_room (Nat.le_of_ble_eq_true rfl)) dX13_door_17 ⟨Nat.le_of_ble_eq_true rfl, Nat.le_of_ble_eq_true rfl⟩ ⟨rfl, rfl⟩ (fun _ => updR [] rfl) (fun r u H locs hw hP hD hS => ?_)
    have hw := hw.symm
    subst hw
    have hP : va_P (dC, dI) vwCl (w_X13_door cy a0 v1.2 gvm gtd gfl grd gnv gac grc gim) H := hP
    have hD : va_D A (w_X13_door cy a0 v1.2 gvm gtd gfl grd gnv gac grc gim) := hD
    refine lv_if_ne (tgt := 42) hx hb dX13_door_20 (by decide) (fun c6 => ?_) (fun c6 => ?_)
    · rw [if_neg c6] at h
      exact c42 () v1.2 x1 x2 H locs ls h hP hD hS (lv_sub hl [0, 1, 2] rfl)
    · rw [if_pos c6] at h
      refine lv_iload_n hx hb dX13_door_23 rfl (lv_at hl 2 rfl) ?_
      refine lv_bipush (v := (10 : Int32)) hx hb dX13_door_24 (by decide) ?_
      refine lv_icmp_lt (tgt := 46) hx hb dX13_door_26 (by decide) (fun c7 => ?_) (fun c7 => ?_)
      · rw [if_pos c7] at h
        exact c46 () v1.2 x1 x2 H locs ls h hP hD hS (lv_sub hl [0, 1, 2] rfl)
      · rw [if_neg c7] at h
        refine lv_iload_n hx hb dX13_door_29 rfl (lv_at hl 2 rfl) ?_
        refine lv_bipush (v := (10 : Int32)) hx hb dX13_door_30 (by decide) ?_
        refine lv_isub hx hb dX13_door_32 ?_
        refine lv_aload_n hx hb dX13_door_33 rfl (lv_at hl 0 rfl) ?_
        refine va_get (D := (dC, dI)) (ci := 11) (v := .ref (a0 8)) (C := RX13) (T := TX13) (N := 64) hx hb hts in_X13 hown hK hP 0 rfl rfl 11 (by decide) lk1 (fun _ h9 => h9) rfl dX13_door_34 ?_
        refine lv_iload_n hx hb dX13_door_37 rfl (lv_at hl 1 rfl) ?_
        obtain ⟨hi8, h⟩ := ok_if h
        refine va_iald hx hb hK hP 8 1 rfl rfl (ix_in hi8) dX13_door_38 ?_
        refine lv_icmp_ge (tgt := 46) hx hb dX13_door_39 (by decide) (fun c9 => ?_) (fun c9 => ?_)
        · rw [if_pos c9] at h
          exact c46 () v1.2 x1 x2 H locs ls h hP hD hS (lv_sub hl [0, 1, 2] rfl)
        · rw [if_neg c9] at h
          exact c42 () v1.2 x1 x2 H locs ls h hP hD hS (lv_sub hl [0, 1, 2] rfl)

abbrev w_X13_worth (cy : Nat → ClassId) (a0 : Nat → Nat) (gth : Int32) (gvm : Int32 × Int32 × Int32 × (Nat → Int32) × (Nat → Int32) × (Nat → Int32) × (Nat → Int32) × (Nat → Int32) × (Nat → Int32) × (Nat → Int32) × (Nat → Int32) × (Nat → Int32)) (gtd : Int32) (gfl : Int32 × Int32) (grd : Int32 × Int32 × Int32 × Int32 × Int32 × Int32 × Int64 × (Nat → Int32)) (gnv : Int32 × Int32 × Int32 × Int32 × Int32 × (Nat → Int32) × (Nat → Int32) × (Nat → Int32) × (Nat → Int32) × (Nat → Int32) × (Nat → Int32)) (gac : Int32 × (Nat → Int32) × (Nat → Int32)) (grc : Int32 × (Nat → Int32)) (gim : Int32 × Int32 × Int32 × (Nat → Int32) × (Nat → Int32) × (Nat → Int32) × (Nat → Int32) × (Nat → Int32) × (Nat → Int32) × (Nat → Int32) × (Nat → Int32) × (Nat → Int32)) : va_W := [(a0 0, .inr (11, [.int (gth), .int (gvm.1), .int (gvm.2.1), .int (gvm.2.2.1), .ref (a0 1), .ref (a0 2), .ref (a0 3), .ref (a0 4), .ref (a0 5), .ref (a0 6), .ref (a0 7), .ref (a0 8), .ref (a0 9), .ref (a0 10), .int (gtd), .int (gfl.1), .int (gfl.2), .ref (a0 11), .int (grd.1), .int (grd.2.1), .int (grd.2.2.1), .int (grd.2.2.2.1), .int (grd.2.2.2.2.1), .int (grd.2.2.2.2.2.1), .long (grd.2.2.2.2.2.2.1), .ref (a0 12), .int (gnv.1), .int (gnv.2.1), .int (gnv.2.2.1), .int (gnv.2.2.2.1), .int (gnv.2.2.2.2.1), .ref (a0 13), .ref (a0 14), .ref (a0 15), .ref (a0 16), .ref (a0 17), .ref (a0 18), .int (gac.1), .ref (a0 19), .ref (a0 20), .ref (a0 21), .ref (a0 22), .ref (a0 23), .ref (a0 24), .ref (a0 25), .ref (a0 26), .ref (a0 27), .int (grc.1), .ref (a0 28), .ref (a0 29), .ref (a0 30), .ref (a0 31), .int (gim.1), .int (gim.2.1), .int (gim.2.2.1), .ref (a0 32), .ref (a0 33), .ref (a0 34), .ref (a0 35), .ref (a0 36), .ref (a0 37), .ref (a0 38), .ref (a0 39), .ref (a0 40)])), (a0 1, .inl (cy 1, 5, .inl (gvm.2.2.2.1))), (a0 2, .inl (cy 1, 5, .inl (gvm.2.2.2.2.1))), (a0 3, .inl (cy 1, 5, .inl (gvm.2.2.2.2.2.1))), (a0 4, .inl (cy 1, 25, .inl (gvm.2.2.2.2.2.2.1))), (a0 5, .inl (cy 1, 10, .inl (gvm.2.2.2.2.2.2.2.1))), (a0 6, .inl (cy 1, 10, .inl (gvm.2.2.2.2.2.2.2.2.1))), (a0 7, .inl (cy 1, 10, .inl (gvm.2.2.2.2.2.2.2.2.2.1))), (a0 8, .inl (cy 1, 10, .inl (gvm.2.2.2.2.2.2.2.2.2.2.1))), (a0 9, .inl (cy 1, 50, .inl (gvm.2.2.2.2.2.2.2.2.2.2.2)))]
abbrev rm_X13_worth : Room := { frames := 2, cells := 0, slots := 0, locals := 44 }
set_option maxHeartbeats 1000000 in
set_option maxRecDepth 100000 in
theorem c_X13_worth (l : Launch) (dC : Nat → ClassId) (dI : Nat → Nat → Nat) (cy : Nat → ClassId) (a0 : Nat → Nat) (gth : Int32) (gvm : Int32 × Int32 × Int32 × (Nat → Int32) × (Nat → Int32) × (Nat → Int32) × (Nat → Int32) × (Nat → Int32) × (Nat → Int32) × (Nat → Int32) × (Nat → Int32) × (Nat → Int32)) (gtd : Int32) (gfl : Int32 × Int32) (grd : Int32 × Int32 × Int32 × Int32 × Int32 × Int32 × Int64 × (Nat → Int32)) (gnv : Int32 × Int32 × Int32 × Int32 × Int32 × (Nat → Int32) × (Nat → Int32) × (Nat → Int32) × (Nat → Int32) × (Nat → Int32) × (Nat → Int32)) (gac : Int32 × (Nat → Int32) × (Nat → Int32)) (grc : Int32 × (Nat → Int32)) (gim : Int32 × Int32 × Int32 × (Nat → Int32) × (Nat → Int32) × (Nat → Int32) × (Nat → Int32) × (Nat → Int32) × (Nat → Int32) × (Nat → Int32) × (Nat → Int32) × (Nat → Int32)) (x1 : Int32) (x2 : Int32) (sz : Nat) (R0 : Int32 × (Int32)) (h : p_X13_worth gth gvm x1 x2 = some R0) : Met l yX13_worth wsX13_worth rm_X13_worth (va_Pc [.ref (a0 0), .int x1, .int x2] (prC dC dI cy (w_X13_worth cy a0 gth gvm gtd gfl grd gnv gac grc gim) sz)) (va_Qi (fun (r : Int32) (u : (Int32)) => r = R0.1 ∧ u = R0.2) (fun (u : (Int32)) t => poC dC dI cy (w_X13_worth cy a0 u gvm gtd gfl grd gnv gac grc gim) t) (va_A (w_X13_worth cy a0 gth gvm gtd gfl grd gnv gac grc gim) sz)) 0 0 (va_A (w_X13_worth cy a0 gth gvm gtd gfl grd gnv gac grc gim) sz) := by
  refine Met.ofW (cc := cX13_worth) (maxL := 3) (ret := (some .int)) (by decide) rfl ?_
  intro p e s m aa below meth c s₁ B hml hv
  obtain ⟨haa, hsz, hP, hK, hD0⟩ := hv
  have hx := B.exec
  have hb := B.bytes
  have hr := B.returns
  have hts := atoms_spec (ws := wsX13_worth) B.pre
  have hown : s.vm.findClass RX13 = some m.cls := findClass_of_methodNamed B.named
  have hlocks := B.notSynchronized
  subst hsz
  have hD := hD0.self (sz := s.heap.size)
  obtain ⟨qq, hqq⟩ : ∃ qq, qq = (va_Qi (fun (r : Int32) (u : (Int32)) => r = R0.1 ∧ u = R0.2) (fun (u : (Int32)) t => poC dC dI cy (w_X13_worth cy a0 u gvm gtd gfl grd gnv gac grc gim) t) (va_A (w_X13_worth cy a0 gth gvm gtd gfl grd gnv gac grc gim) s.heap.size)) := ⟨_, rfl⟩
  rw [← hqq]
  generalize hAe : va_A (w_X13_worth cy a0 gth gvm gtd gfl grd gnv gac grc gim) s.heap.size = A at hD hqq ⊢
  have hA : ∀ q : Nat, s.heap.size ≤ q → A q := fun q h => by rw [← hAe]; exact Or.inr h
  have hS : va_S A s.heap s.heap [] := va_S.rf
  have hl := lv_entry ([.ref (a0 0), .int x1, .int x2]) (n := 3) (Nat.le_of_ble_eq_true rfl)
  have hE : entryFrame m aa 3 = F0 m 0 ((lg_sl ([.ref (a0 0), .int x1, .int x2]) ++ List.replicate (3 - (lg_sl ([.ref (a0 0), .int x1, .int x2])).length) Slot.unset).toArray) [] := by rw [haa]; exact lg_entry_eq m _ 3
  refine W.eq hE ?_
  generalize (lg_sl ([.ref (a0 0), .int x1, .int x2]) ++ List.replicate (3 - (lg_sl ([.ref (a0 0), .int x1, .int x2])).length) Slot.unset).toArray = ls at hl ⊢
  have hl : lv_has ls 3 [(0, .ref (a0 0)), (1, .int x1), (2, .int x2)] := hl
  change W p l e rm_X13_worth s m aa below meth c s.heap [] 0 0 (MQ below qq aa s 0 0 A) (F0 m 0 ls [])
  have hS0 := hS
  have lk0 := hts (.fieldLink RX13 135 "GoatDoorsModel" "thrown" "I") (by decide +kernel)
  have in_X13 : ∀ w ∈ wsX130, w ∈ wsX13_worth := by decide +kernel
  obtain ⟨H, hH⟩ : ∃ H : Heap, H = s.heap := ⟨_, rfl⟩
  obtain ⟨locs, hlocs⟩ : ∃ locs : List Loc, locs = [] := ⟨_, rfl⟩
  have hS : va_S A s.heap H locs := by rw [hH, hlocs]; exact hS
  rw [← hH] at hP
  suffices hg : W p l e rm_X13_worth s m aa below meth c H locs 0 0 (MQ below qq aa s 0 0 A) (F0 m 0 ls []) by subst hH; subst hlocs; exact hg
  unfold p_X13_worth at h
  refine lv_aload_n hx hb dX13_worth_0 rfl (lv_at hl 0 rfl) ?_
  refine lv_iconst (v := (0 : Int32)) hx hb dX13_worth_1 (by decide) ?_
  refine va_put (D := (dC, dI)) (ci := 11) (v := .int (0 : Int32)) (ty := .int) (C := RX13) (T := TX13) (N := 64) hx hb hts in_X13 tyX13 tyX13_ok nmX13 hown hK hP hD hS 0 rfl rfl 0 (by decide) lk0 (fun _ h9 => h9) rfl (by decide +kernel) rfl rfl (Nat.le_of_ble_eq_true rfl) dX13_worth_2 (fun H locs hP hD hS => ?_)
  have hP : va_P (dC, dI) vwCl (w_X13_worth cy a0 ((0 : Int32)) gvm gtd gfl grd gnv gac grc gim) H := hP
  have hD : va_D A (w_X13_worth cy a0 ((0 : Int32)) gvm gtd gfl grd gnv gac grc gim) := hD
  refine lv_aload_n hx hb dX13_worth_5 rfl (lv_at hl 0 rfl) ?_
  refine lv_iload_n hx hb dX13_worth_6 rfl (lv_at hl 1 rfl) ?_
  obtain ⟨v1, hv2, h⟩ := ok_bind h
  refine cl_vi (w2 := fun (u : (Int32)) => w_X13_worth cy a0 u gvm gtd gfl grd gnv gac grc gim) (As := [.int x1]) (rest := []) ⟨hx, hb, hml, hown, hts⟩ (c_X13_isDoor l dC dI cy a0 (0 : Int32) gvm gtd gfl grd gnv gac grc gim x1 H.size v1 hv2) (cwV 1 hts gX13_worth_X13_isDoor rfl rfl rfl (by decide +kernel) ⟨Nat.le_of_ble_eq_true rfl, Nat.le_of_ble_eq_true rfl⟩) (va_recv hK hP (ci := 11) (q0 := 0) rfl rfl) cl_blind (cl_pre hK hP hD [0, 1, 2, 3, 4, 5, 6, 7, 8, 9] (by decide) rfl) hP hD hS hA [0, 1, 2, 3, 4, 5, 6, 7, 8, 9] rfl rfl hl.1 rfl (lv_room (Nat.le_of_ble_eq_true rfl)) dX13_worth_7 ⟨Nat.le_of_ble_eq_true rfl, Nat.le_of_ble_eq_true rfl⟩ ⟨rfl, rfl⟩ (fun _ => updM [0, 1, 2, 3, 4, 5, 6, 7, 8, 9] [] [] 10 rfl rfl rfl rfl rfl (by decide +kernel) (by decide +kernel) rfl) (fun r u H locs hw hP hD hS => ?_)
  obtain ⟨rfl, rfl⟩ := hw
  have hP : va_P (dC, dI) vwCl (w_X13_worth cy a0 v1.2 gvm gtd gfl grd gnv gac grc gim) H := hP
  have hD : va_D A (w_X13_worth cy a0 v1.2 gvm gtd gfl grd gnv gac grc gim) := hD
  refine lv_if_eq (tgt := 31) hx hb dX13_worth_10 (by decide) (fun c3 => ?_) (fun c3 => ?_)
  · rw [if_pos c3] at h
    refine lv_iconst (v := (0 : Int32)) hx hb dX13_worth_31 (by decide) ?_
    exact W.iret (v := (0 : Int32)) hx hb hr (fun t ht hW => by rw [hqq]; have hh := Option.some.inj h; exact ⟨⟨(0 : Int32), (v1.2), rfl, ⟨fst_of hh, snd_of hh⟩, by rw [ht]; exact hP, va_K.moved hW.alike hK⟩, hS.F ht⟩) hS.2.2 dX13_worth_32
  · rw [if_neg c3] at h
    refine lv_aload_n hx hb dX13_worth_13 rfl (lv_at hl 0 rfl) ?_
    refine lv_iload_n hx hb dX13_worth_14 rfl (lv_at hl 2 rfl) ?_
    refine lv_iconst (v := (2 : Int32)) hx hb dX13_worth_15 (by decide) ?_
    obtain ⟨v4, hv5, h⟩ := ok_bind h
    refine cl_vi (w2 := fun (u : (Int32)) => w_X13_worth cy a0 u gvm gtd gfl grd gnv gac grc gim) (As := [.int x2, .int (2 : Int32)]) (rest := []) ⟨hx, hb, hml, hown, hts⟩ (c_X13_isBase l dC dI cy a0 v1.2 gvm gtd gfl grd gnv gac grc gim x2 (2 : Int32) H.size v4 hv5) (cwV 2 hts gX13_worth_X13_isBase rfl rfl rfl (by decide +kernel) ⟨Nat.le_of_ble_eq_true rfl, Nat.le_of_ble_eq_true rfl⟩) (va_recv hK hP (ci := 11) (q0 := 0) rfl rfl) cl_blind (cl_pre hK hP hD [0] (by decide) rfl) hP hD hS hA [0] rfl rfl hl.1 rfl (lv_room (Nat.le_of_ble_eq_true rfl)) dX13_worth_16 ⟨Nat.le_of_ble_eq_true rfl, Nat.le_of_ble_eq_true rfl⟩ ⟨rfl, rfl⟩ (fun _ => updM [0] [1, 2, 3, 4, 5, 6, 7, 8, 9] [(a0 1, .inl (cy 1, 5, .inl (gvm.2.2.2.1))), (a0 2, .inl (cy 1, 5, .inl (gvm.2.2.2.2.1))), (a0 3, .inl (cy 1, 5, .inl (gvm.2.2.2.2.2.1))), (a0 4, .inl (cy 1, 25, .inl (gvm.2.2.2.2.2.2.1))), (a0 5, .inl (cy 1, 10, .inl (gvm.2.2.2.2.2.2.2.1))), (a0 6, .inl (cy 1, 10, .inl (gvm.2.2.2.2.2.2.2.2.1))), (a0 7, .inl (cy 1, 10, .inl (gvm.2.2.2.2.2.2.2.2.2.1))), (a0 8, .inl (cy 1, 10, .inl (gvm.2.2.2.2.2.2.2.2.2.2.1))), (a0 9, .inl (cy 1, 50, .inl (gvm.2.2.2.2.2.2.2.2.2.2.2)))] 10 rfl rfl rfl rfl rfl (by decide +kernel) (by decide +kernel) rfl) (fun r u H locs hw hP hD hS => ?_)
    obtain ⟨rfl, rfl⟩ := hw
    have hP : va_P (dC, dI) vwCl (w_X13_worth cy a0 v4.2 gvm gtd gfl grd gnv gac grc gim) H := hP
    have hD : va_D A (w_X13_worth cy a0 v4.2 gvm gtd gfl grd gnv gac grc gim) := hD
    refine lv_if_eq (tgt := 31) hx hb dX13_worth_19 (by decide) (fun c6 => ?_) (fun c6 => ?_)
    · rw [if_pos c6] at h
      refine lv_iconst (v := (0 : Int32)) hx hb dX13_worth_31 (by decide) ?_
      exact W.iret (v := (0 : Int32)) hx hb hr (fun t ht hW => by rw [hqq]; have hh := Option.some.inj h; exact ⟨⟨(0 : Int32), (v4.2), rfl, ⟨fst_of hh, snd_of hh⟩, by rw [ht]; exact hP, va_K.moved hW.alike hK⟩, hS.F ht⟩) hS.2.2 dX13_worth_32
    · rw [if_neg c6] at h
      refine lv_aload_n hx hb dX13_worth_22 rfl (lv_at hl 0 rfl) ?_
      refine lv_iload_n hx hb dX13_worth_23 rfl (lv_at hl 1 rfl) ?_
      refine lv_iload_n hx hb dX13_worth_24 rfl (lv_at hl 2 rfl) ?_
      obtain ⟨v7, hv8, h⟩ := ok_bind h
      refine cl_vi (w2 := fun (_ : Unit) => w_X13_worth cy a0 v4.2 gvm gtd gfl grd gnv gac grc gim) (As := [.int x1, .int x2]) (rest := []) ⟨hx, hb, hml, hown, hts⟩ (c_X13_worthOf l dC dI cy a0 v4.2 gvm gtd gfl grd gnv gac grc gim x1 x2 H.size v7 hv8) (cwV 2 hts gX13_worth_X13_worthOf rfl rfl rfl (by decide +kernel) ⟨Nat.le_of_ble_eq_true rfl, Nat.le_of_ble_eq_true rfl⟩) (va_recv hK hP (ci := 11) (q0 := 0) rfl rfl) cl_blind (cl_pre hK hP hD [0, 1, 2, 3, 4, 5, 6, 7, 8, 9] (by decide) rfl) hP hD hS hA [0, 1, 2, 3, 4, 5, 6, 7, 8, 9] rfl rfl hl.1 rfl (lv_room (Nat.le_of_ble_eq_true rfl)) dX13_worth_25 ⟨Nat.le_of_ble_eq_true rfl, Nat.le_of_ble_eq_true rfl⟩ ⟨rfl, rfl⟩ (fun _ => updR [0, 1, 2, 3, 4, 5, 6, 7, 8, 9] rfl) (fun r u H locs hw hP hD hS => ?_)
      have hw := hw.symm
      subst hw
      have hP : va_P (dC, dI) vwCl (w_X13_worth cy a0 v4.2 gvm gtd gfl grd gnv gac grc gim) H := hP
      have hD : va_D A (w_X13_worth cy a0 v4.2 gvm gtd gfl grd gnv gac grc gim) := hD
      refine lv_goto (tgt := 32) hx hb dX13_worth_28 (by decide) ?_
      exact W.iret (v := v7) hx hb hr (fun t ht hW => by rw [hqq]; have hh := Option.some.inj h; exact ⟨⟨v7, (v4.2), rfl, ⟨fst_of hh, snd_of hh⟩, by rw [ht]; exact hP, va_K.moved hW.alike hK⟩, hS.F ht⟩) hS.2.2 dX13_worth_32

abbrev w_X13_best (cy : Nat → ClassId) (a0 : Nat → Nat) (gth : Int32) (gvm : Int32 × Int32 × Int32 × (Nat → Int32) × (Nat → Int32) × (Nat → Int32) × (Nat → Int32) × (Nat → Int32) × (Nat → Int32) × (Nat → Int32) × (Nat → Int32) × (Nat → Int32)) (gtd : Int32) (gfl : Int32 × Int32) (grd : Int32 × Int32 × Int32 × Int32 × Int32 × Int32 × Int64 × (Nat → Int32)) (gnv : Int32 × Int32 × Int32 × Int32 × Int32 × (Nat → Int32) × (Nat → Int32) × (Nat → Int32) × (Nat → Int32) × (Nat → Int32) × (Nat → Int32)) (gac : Int32 × (Nat → Int32) × (Nat → Int32)) (gla : (Nat → Int32)) (grc : Int32 × (Nat → Int32)) (gim : Int32 × Int32 × Int32 × (Nat → Int32) × (Nat → Int32) × (Nat → Int32) × (Nat → Int32) × (Nat → Int32) × (Nat → Int32) × (Nat → Int32) × (Nat → Int32) × (Nat → Int32)) : va_W := [(a0 0, .inr (11, [.int (gth), .int (gvm.1), .int (gvm.2.1), .int (gvm.2.2.1), .ref (a0 1), .ref (a0 2), .ref (a0 3), .ref (a0 4), .ref (a0 5), .ref (a0 6), .ref (a0 7), .ref (a0 8), .ref (a0 9), .ref (a0 10), .int (gtd), .int (gfl.1), .int (gfl.2), .ref (a0 11), .int (grd.1), .int (grd.2.1), .int (grd.2.2.1), .int (grd.2.2.2.1), .int (grd.2.2.2.2.1), .int (grd.2.2.2.2.2.1), .long (grd.2.2.2.2.2.2.1), .ref (a0 12), .int (gnv.1), .int (gnv.2.1), .int (gnv.2.2.1), .int (gnv.2.2.2.1), .int (gnv.2.2.2.2.1), .ref (a0 13), .ref (a0 14), .ref (a0 15), .ref (a0 16), .ref (a0 17), .ref (a0 18), .int (gac.1), .ref (a0 19), .ref (a0 20), .ref (a0 21), .ref (a0 22), .ref (a0 23), .ref (a0 24), .ref (a0 25), .ref (a0 26), .ref (a0 27), .int (grc.1), .ref (a0 28), .ref (a0 29), .ref (a0 30), .ref (a0 31), .int (gim.1), .int (gim.2.1), .int (gim.2.2.1), .ref (a0 32), .ref (a0 33), .ref (a0 34), .ref (a0 35), .ref (a0 36), .ref (a0 37), .ref (a0 38), .ref (a0 39), .ref (a0 40)])), (a0 1, .inl (cy 1, 5, .inl (gvm.2.2.2.1))), (a0 2, .inl (cy 1, 5, .inl (gvm.2.2.2.2.1))), (a0 3, .inl (cy 1, 5, .inl (gvm.2.2.2.2.2.1))), (a0 4, .inl (cy 1, 25, .inl (gvm.2.2.2.2.2.2.1))), (a0 5, .inl (cy 1, 10, .inl (gvm.2.2.2.2.2.2.2.1))), (a0 6, .inl (cy 1, 10, .inl (gvm.2.2.2.2.2.2.2.2.1))), (a0 7, .inl (cy 1, 10, .inl (gvm.2.2.2.2.2.2.2.2.2.1))), (a0 8, .inl (cy 1, 10, .inl (gvm.2.2.2.2.2.2.2.2.2.2.1))), (a0 9, .inl (cy 1, 50, .inl (gvm.2.2.2.2.2.2.2.2.2.2.2))), (a0 21, .inl (cy 1, 620, .inl (gla)))]
abbrev rm_X13_best : Room := { frames := 2, cells := 0, slots := 0, locals := 49 }
set_option maxHeartbeats 1000000 in
set_option maxRecDepth 100000 in
theorem c_X13_best (l : Launch) (dC : Nat → ClassId) (dI : Nat → Nat → Nat) (cy : Nat → ClassId) (a0 : Nat → Nat) (gth : Int32) (gvm : Int32 × Int32 × Int32 × (Nat → Int32) × (Nat → Int32) × (Nat → Int32) × (Nat → Int32) × (Nat → Int32) × (Nat → Int32) × (Nat → Int32) × (Nat → Int32) × (Nat → Int32)) (gtd : Int32) (gfl : Int32 × Int32) (grd : Int32 × Int32 × Int32 × Int32 × Int32 × Int32 × Int64 × (Nat → Int32)) (gnv : Int32 × Int32 × Int32 × Int32 × Int32 × (Nat → Int32) × (Nat → Int32) × (Nat → Int32) × (Nat → Int32) × (Nat → Int32) × (Nat → Int32)) (gac : Int32 × (Nat → Int32) × (Nat → Int32)) (gla : (Nat → Int32)) (grc : Int32 × (Nat → Int32)) (gim : Int32 × Int32 × Int32 × (Nat → Int32) × (Nat → Int32) × (Nat → Int32) × (Nat → Int32) × (Nat → Int32) × (Nat → Int32) × (Nat → Int32) × (Nat → Int32) × (Nat → Int32)) (x1 : Int32) (x2 : Int32) (sz : Nat) (R0 : Int32 × (Int32) × ((Nat → Int32))) (h : p_X13_best gth gvm gla x1 x2 = some R0) : Met l yX13_best wsX13_best rm_X13_best (va_Pc [.ref (a0 0), .int x1, .int x2] (prC dC dI cy (w_X13_best cy a0 gth gvm gtd gfl grd gnv gac gla grc gim) sz)) (va_Qi (fun (r : Int32) (u : (Int32) × ((Nat → Int32))) => r = R0.1 ∧ u = R0.2) (fun (u : (Int32) × ((Nat → Int32))) t => poC dC dI cy (w_X13_best cy a0 u.1 gvm gtd gfl grd gnv gac u.2 grc gim) t) (va_A (w_X13_best cy a0 gth gvm gtd gfl grd gnv gac gla grc gim) sz)) 0 0 (va_A (w_X13_best cy a0 gth gvm gtd gfl grd gnv gac gla grc gim) sz) := by
  refine Met.ofW (cc := cX13_best) (maxL := 5) (ret := (some .int)) (by decide) rfl ?_
  intro p e s m aa below meth c s₁ B hml hv
  obtain ⟨haa, hsz, hP, hK, hD0⟩ := hv
  have hx := B.exec
  have hb := B.bytes
  have hr := B.returns
  have hts := atoms_spec (ws := wsX13_best) B.pre
  have hown : s.vm.findClass RX13 = some m.cls := findClass_of_methodNamed B.named
  have hlocks := B.notSynchronized
  subst hsz
  have hD := hD0.self (sz := s.heap.size)
  obtain ⟨qq, hqq⟩ : ∃ qq, qq = (va_Qi (fun (r : Int32) (u : (Int32) × ((Nat → Int32))) => r = R0.1 ∧ u = R0.2) (fun (u : (Int32) × ((Nat → Int32))) t => poC dC dI cy (w_X13_best cy a0 u.1 gvm gtd gfl grd gnv gac u.2 grc gim) t) (va_A (w_X13_best cy a0 gth gvm gtd gfl grd gnv gac gla grc gim) s.heap.size)) := ⟨_, rfl⟩
  rw [← hqq]
  generalize hAe : va_A (w_X13_best cy a0 gth gvm gtd gfl grd gnv gac gla grc gim) s.heap.size = A at hD hqq ⊢
  have hA : ∀ q : Nat, s.heap.size ≤ q → A q := fun q h => by rw [← hAe]; exact Or.inr h
  have hS : va_S A s.heap s.heap [] := va_S.rf
  have hl := lv_entry ([.ref (a0 0), .int x1, .int x2]) (n := 5) (Nat.le_of_ble_eq_true rfl)
  have hE : entryFrame m aa 5 = F0 m 0 ((lg_sl ([.ref (a0 0), .int x1, .int x2]) ++ List.replicate (5 - (lg_sl ([.ref (a0 0), .int x1, .int x2])).length) Slot.unset).toArray) [] := by rw [haa]; exact lg_entry_eq m _ 5
  refine W.eq hE ?_
  generalize (lg_sl ([.ref (a0 0), .int x1, .int x2]) ++ List.replicate (5 - (lg_sl ([.ref (a0 0), .int x1, .int x2])).length) Slot.unset).toArray = ls at hl ⊢
  have hl : lv_has ls 5 [(0, .ref (a0 0)), (1, .int x1), (2, .int x2)] := hl
  change W p l e rm_X13_best s m aa below meth c s.heap [] 0 0 (MQ below qq aa s 0 0 A) (F0 m 0 ls [])
  have hS0 := hS
  have lk0 := hts (.fieldLink RX13 135 "GoatDoorsModel" "thrown" "I") (by decide +kernel)
  have in_X13 : ∀ w ∈ wsX130, w ∈ wsX13_best := by decide +kernel
  have c72 : ∀ (k46 : (Int32) → ((Nat → Int32)) → Int32 → Int32 → Int32 → Int32 → Option (Int32 × (Int32) × ((Nat → Int32)))) (hk46 : ∀ (gth : Int32) (gla : (Nat → Int32)) (x1 : Int32) (x2 : Int32) (x3 : Int32) (x4 : Int32) (H : Heap) (locs : List Loc) (ls : Array Slot), k46 gth gla x1 x2 x3 x4 = some R0 → va_P (dC, dI) vwCl (w_X13_best cy a0 gth gvm gtd gfl grd gnv gac gla grc gim) H → va_D A (w_X13_best cy a0 gth gvm gtd gfl grd gnv gac gla grc gim) → va_S A s.heap H locs → lv_has ls 5 [(0, .ref (a0 0)), (1, .int x1), (2, .int x2), (3, .int x3), (4, .int x4)] → W p l e rm_X13_best s m aa below meth c H locs 0 0 (MQ below qq aa s 0 0 A) (F0 m 46 ls [])), ∀ (gth : Int32) (gla : (Nat → Int32)) (x1 : Int32) (x2 : Int32) (x3 : Int32) (x4 : Int32) (H : Heap) (locs : List Loc) (ls : Array Slot), p_X13_best_72 k46 gvm gth gla x1 x2 x3 x4 = some R0 → va_P (dC, dI) vwCl (w_X13_best cy a0 gth gvm gtd gfl grd gnv gac gla grc gim) H → va_D A (w_X13_best cy a0 gth gvm gtd gfl grd gnv gac gla grc gim) → va_S A s.heap H locs → lv_has ls 5 [(0, .ref (a0 0)), (1, .int x1), (2, .int x2), (3, .int x3), (4, .int x4)] → W p l e rm_X13_best s m aa below meth c H locs 0 0 (MQ below qq aa s 0 0 A) (F0 m 72 ls []) := by
    intro k46 hk46 gth gla x1 x2 x3 x4 H locs ls h hP hD hS hl
    unfold p_X13_best_72 at h
    refine lv_iinc (v := (x4 + (1 : Int32))) (lv' := [(4, .int (x4 + (1 : Int32))), (0, .ref (a0 0)), (1, .int x1), (2, .int x2), (3, .int x3)]) hx hb dX13_best_72 hl (k := 4) rfl rfl (by decide) rfl (fun ls hl => ?_)
    refine lv_goto (tgt := 46) hx hb dX13_best_75 (by decide) ?_
    exact hk46 gth gla x1 x2 x3 (x4 + (1 : Int32)) H locs ls h hP hD hS (lv_sub hl [1, 2, 3, 4, 0] rfl)
  have c46 : ∀ (n : Nat), ∀ (gth : Int32) (gla : (Nat → Int32)) (x1 : Int32) (x2 : Int32) (x3 : Int32) (x4 : Int32) (H : Heap) (locs : List Loc) (ls : Array Slot), p_X13_best_46 gvm n gth gla x1 x2 x3 x4 = some R0 → va_P (dC, dI) vwCl (w_X13_best cy a0 gth gvm gtd gfl grd gnv gac gla grc gim) H → va_D A (w_X13_best cy a0 gth gvm gtd gfl grd gnv gac gla grc gim) → va_S A s.heap H locs → lv_has ls 5 [(0, .ref (a0 0)), (1, .int x1), (2, .int x2), (3, .int x3), (4, .int x4)] → W p l e rm_X13_best s m aa below meth c H locs 0 0 (MQ below qq aa s 0 0 A) (F0 m 46 ls []) := by
    intro  n
    induction n with
    | zero => intro gth gla x1 x2 x3 x4 H locs ls h; exact no_some h
    | succ n ih =>
      intro gth gla x1 x2 x3 x4 H locs ls h hP hD hS hl
      rw [p_X13_best_46.eq_2] at h
      refine lv_iload hx hb dX13_best_46 (lv_at hl 4 rfl) ?_
      refine lv_bipush (v := (40 : Int32)) hx hb dX13_best_48 (by decide) ?_
      refine lv_icmp_gt (tgt := 78) hx hb dX13_best_50 (by decide) (fun c1 => ?_) (fun c1 => ?_)
      · rw [if_pos c1] at h
        refine lv_iload_n hx hb dX13_best_78 rfl (lv_at hl 2 rfl) ?_
        refine lv_if_ne (tgt := 86) hx hb dX13_best_79 (by decide) (fun c2 => ?_) (fun c2 => ?_)
        · rw [if_neg c2] at h
          refine lv_aload_n hx hb dX13_best_86 rfl (lv_at hl 0 rfl) ?_
          refine lv_iload_n hx hb dX13_best_87 rfl (lv_at hl 1 rfl) ?_
          refine lv_iload_n hx hb dX13_best_88 rfl (lv_at hl 3 rfl) ?_
          obtain ⟨v3, hv4, h⟩ := ok_bind h
          refine cl_vi (w2 := fun (_ : Unit) => w_X13_best cy a0 gth gvm gtd gfl grd gnv gac gla grc gim) (As := [.int x1, .int x3]) (rest := []) ⟨hx, hb, hml, hown, hts⟩ (c_X13_net l dC dI cy a0 gth gvm gtd gfl grd gnv gac gla grc gim x1 x3 H.size v3 hv4) (cwV 2 hts gX13_best_X13_net rfl rfl rfl (by decide +kernel) ⟨Nat.le_of_ble_eq_true rfl, Nat.le_of_ble_eq_true rfl⟩) (va_recv hK hP (ci := 11) (q0 := 0) rfl rfl) cl_blind (cl_pre hK hP hD [0, 1, 2, 3, 4, 5, 6, 7, 8, 9, 10] (by decide) rfl) hP hD hS hA [0, 1, 2, 3, 4, 5, 6, 7, 8, 9, 10] rfl rfl hl.1 rfl (lv_room (Nat.le_of_ble_eq_true rfl)) dX13_best_89 ⟨Nat.le_of_ble_eq_true rfl, Nat.le_of_ble_eq_true rfl⟩ ⟨rfl, rfl⟩ (fun _ => updR [0, 1, 2, 3, 4, 5, 6, 7, 8, 9, 10] rfl) (fun r u H locs hw hP hD hS => ?_)
          have hw := hw.symm
          subst hw
          have hP : va_P (dC, dI) vwCl (w_X13_best cy a0 gth gvm gtd gfl grd gnv gac gla grc gim) H := hP
          have hD : va_D A (w_X13_best cy a0 gth gvm gtd gfl grd gnv gac gla grc gim) := hD
          exact W.iret (v := v3) hx hb hr (fun t ht hW => by rw [hqq]; have hh := Option.some.inj h; exact ⟨⟨v3, ((gth, gla)), rfl, ⟨fst_of hh, snd_of hh⟩, by rw [ht]; exact hP, va_K.moved hW.alike hK⟩, hS.F ht⟩) hS.2.2 dX13_best_92
        · rw [if_pos c2] at h
          refine lv_iload_n hx hb dX13_best_82 rfl (lv_at hl 3 rfl) ?_
          refine lv_goto (tgt := 92) hx hb dX13_best_83 (by decide) ?_
          exact W.iret (v := x3) hx hb hr (fun t ht hW => by rw [hqq]; have hh := Option.some.inj h; exact ⟨⟨x3, ((gth, gla)), rfl, ⟨fst_of hh, snd_of hh⟩, by rw [ht]; exact hP, va_K.moved hW.alike hK⟩, hS.F ht⟩) hS.2.2 dX13_best_92
      · rw [if_neg c1] at h
        refine lv_aload_n hx hb dX13_best_53 rfl (lv_at hl 0 rfl) ?_
        refine lv_iload_n hx hb dX13_best_54 rfl (lv_at hl 1 rfl) ?_
        refine lv_iload hx hb dX13_best_55 (lv_at hl 4 rfl) ?_
        obtain ⟨v5, hv6, h⟩ := ok_bind h
        refine cl_vi (w2 := fun (_ : Unit) => w_X13_best cy a0 gth gvm gtd gfl grd gnv gac gla grc gim) (As := [.int x1, .int x4]) (rest := []) ⟨hx, hb, hml, hown, hts⟩ (c_X13_net l dC dI cy a0 gth gvm gtd gfl grd gnv gac gla grc gim x1 x4 H.size v5 hv6) (cwV 2 hts gX13_best_X13_net rfl rfl rfl (by decide +kernel) ⟨Nat.le_of_ble_eq_true rfl, Nat.le_of_ble_eq_true rfl⟩) (va_recv hK hP (ci := 11) (q0 := 0) rfl rfl) cl_blind (cl_pre hK hP hD [0, 1, 2, 3, 4, 5, 6, 7, 8, 9, 10] (by decide) rfl) hP hD hS hA [0, 1, 2, 3, 4, 5, 6, 7, 8, 9, 10] rfl rfl hl.1 rfl (lv_room (Nat.le_of_ble_eq_true rfl)) dX13_best_57 ⟨Nat.le_of_ble_eq_true rfl, Nat.le_of_ble_eq_true rfl⟩ ⟨rfl, rfl⟩ (fun _ => updR [0, 1, 2, 3, 4, 5, 6, 7, 8, 9, 10] rfl) (fun r u H locs hw hP hD hS => ?_)
        have hw := hw.symm
        subst hw
        have hP : va_P (dC, dI) vwCl (w_X13_best cy a0 gth gvm gtd gfl grd gnv gac gla grc gim) H := hP
        have hD : va_D A (w_X13_best cy a0 gth gvm gtd gfl grd gnv gac gla grc gim) := hD
        refine lv_aload_n hx hb dX13_best_60 rfl (lv_at hl 0 rfl) ?_
        refine lv_iload_n hx hb dX13_best_61 rfl (lv_at hl 1 rfl) ?_
        refine lv_iload_n hx hb dX13_best_62 rfl (lv_at hl 3 rfl) ?_
        obtain ⟨v7, hv8, h⟩ := ok_bind h
        refine cl_vi (w2 := fun (_ : Unit) => w_X13_best cy a0 gth gvm gtd gfl grd gnv gac gla grc gim) (As := [.int x1, .int x3]) (rest := [.int v5]) ⟨hx, hb, hml, hown, hts⟩ (c_X13_net l dC dI cy a0 gth gvm gtd gfl grd gnv gac gla grc gim x1 x3 H.size v7 hv8) (cwV 2 hts gX13_best_X13_net rfl rfl rfl (by decide +kernel) ⟨Nat.le_of_ble_eq_true rfl, Nat.le_of_ble_eq_true rfl⟩) (va_recv hK hP (ci := 11) (q0 := 0) rfl rfl) cl_blind (cl_pre hK hP hD [0, 1, 2, 3, 4, 5, 6, 7, 8, 9, 10] (by decide) rfl) hP hD hS hA [0, 1, 2, 3, 4, 5, 6, 7, 8, 9, 10] rfl rfl hl.1 rfl (lv_room (Nat.le_of_ble_eq_true rfl)) dX13_best_63 ⟨Nat.le_of_ble_eq_true rfl, Nat.le_of_ble_eq_true rfl⟩ ⟨rfl, rfl⟩ (fun _ => updR [0, 1, 2, 3, 4, 5, 6, 7, 8, 9, 10] rfl) (fun r u H locs hw hP hD hS => ?_)
        have hw := hw.symm
        subst hw
        have hP : va_P (dC, dI) vwCl (w_X13_best cy a0 gth gvm gtd gfl grd gnv gac gla grc gim) H := hP
        have hD : va_D A (w_X13_best cy a0 gth gvm gtd gfl grd gnv gac gla grc gim) := hD
        refine lv_icmp_le (tgt := 72) hx hb dX13_best_66 (by decide) (fun c9 => ?_) (fun c9 => ?_)
        · rw [if_pos c9] at h
          exact c72 (p_X13_best_46 gvm n) ih gth gla x1 x2 x3 x4 H locs ls h hP hD hS (lv_sub hl [0, 1, 2, 3, 4] rfl)
        · rw [if_neg c9] at h
          refine lv_iload hx hb dX13_best_69 (lv_at hl 4 rfl) ?_
          refine lv_istore_n (lv' := [(3, .int x4), (0, .ref (a0 0)), (1, .int x1), (2, .int x2), (4, .int x4)]) hx hb dX13_best_71 rfl hl (by decide) rfl (fun ls hl => ?_)
          exact c72 (p_X13_best_46 gvm n) ih gth gla x1 x2 x4 x4 H locs ls h hP hD hS (lv_sub hl [1, 2, 3, 0, 4] rfl)
  have c28 : ∀ (_u : Unit), ∀ (gth : Int32) (gla : (Nat → Int32)) (x1 : Int32) (x2 : Int32) (t1 : Int32) (H : Heap) (locs : List Loc) (ls : Array Slot), p_X13_best_28 gvm gth gla x1 x2 t1 = some R0 → va_P (dC, dI) vwCl (w_X13_best cy a0 gth gvm gtd gfl grd gnv gac gla grc gim) H → va_D A (w_X13_best cy a0 gth gvm gtd gfl grd gnv gac gla grc gim) → va_S A s.heap H locs → lv_has ls 5 [(0, .ref (a0 0)), (1, .int x1), (2, .int x2)] → W p l e rm_X13_best s m aa below meth c H locs 0 0 (MQ below qq aa s 0 0 A) (F0 m 28 ls [.int t1, .ref (a0 0)]) := by
    intro _ gth gla x1 x2 t1 H locs ls h hP hD hS hl
    unfold p_X13_best_28 at h
    refine lv_iconst (v := (1 : Int32)) hx hb dX13_best_28 (by decide) ?_
    obtain ⟨v1, hv2, h⟩ := ok_bind h
    refine cl_vi (w2 := fun (u : (Int32)) => w_X13_best cy a0 u gvm gtd gfl grd gnv gac gla grc gim) (As := [.int t1, .int (1 : Int32)]) (rest := []) ⟨hx, hb, hml, hown, hts⟩ (c_X13_right l dC dI cy a0 gth gvm gtd gfl grd gnv gac grc gim t1 (1 : Int32) H.size v1 hv2) (cwV 2 hts gX13_best_X13_right rfl rfl rfl (by decide +kernel) ⟨Nat.le_of_ble_eq_true rfl, Nat.le_of_ble_eq_true rfl⟩) (va_recv hK hP (ci := 11) (q0 := 0) rfl rfl) cl_blind (cl_pre hK hP hD [0] (by decide) rfl) hP hD hS hA [0] rfl rfl hl.1 rfl (lv_room (Nat.le_of_ble_eq_true rfl)) dX13_best_29 ⟨Nat.le_of_ble_eq_true rfl, Nat.le_of_ble_eq_true rfl⟩ ⟨rfl, rfl⟩ (fun _ => updM [0] [1, 2, 3, 4, 5, 6, 7, 8, 9, 10] [(a0 1, .inl (cy 1, 5, .inl (gvm.2.2.2.1))), (a0 2, .inl (cy 1, 5, .inl (gvm.2.2.2.2.1))), (a0 3, .inl (cy 1, 5, .inl (gvm.2.2.2.2.2.1))), (a0 4, .inl (cy 1, 25, .inl (gvm.2.2.2.2.2.2.1))), (a0 5, .inl (cy 1, 10, .inl (gvm.2.2.2.2.2.2.2.1))), (a0 6, .inl (cy 1, 10, .inl (gvm.2.2.2.2.2.2.2.2.1))), (a0 7, .inl (cy 1, 10, .inl (gvm.2.2.2.2.2.2.2.2.2.1))), (a0 8, .inl (cy 1, 10, .inl (gvm.2.2.2.2.2.2.2.2.2.2.1))), (a0 9, .inl (cy 1, 50, .inl (gvm.2.2.2.2.2.2.2.2.2.2.2))), (a0 21, .inl (cy 1, 620, .inl (gla)))] 11 rfl rfl rfl rfl rfl (by decide +kernel) (by decide +kernel) rfl) (fun r u H locs hw hP hD hS => ?_)
    obtain ⟨rfl, rfl⟩ := hw
    have hP : va_P (dC, dI) vwCl (w_X13_best cy a0 v1.2 gvm gtd gfl grd gnv gac gla grc gim) H := hP
    have hD : va_D A (w_X13_best cy a0 v1.2 gvm gtd gfl grd gnv gac gla grc gim) := hD
    refine lv_if_ne (tgt := 37) hx hb dX13_best_32 (by decide) (fun c3 => ?_) (fun c3 => ?_)
    · rw [if_neg c3] at h
      refine lv_aload_n hx hb dX13_best_37 rfl (lv_at hl 0 rfl) ?_
      obtain ⟨v4, hv5, h⟩ := ok_bind h
      refine cl_vv (w2 := fun (u : ((Nat → Int32))) => w_X13_best cy a0 v1.2 gvm gtd gfl grd gnv gac u grc gim) (As := []) (rest := []) ⟨hx, hb, hml, hown, hts⟩ (c_X13_lay l dC dI cy a0 v1.2 gvm gtd gfl grd gnv gac gla grc gim H.size v4 hv5) (cwV 0 hts gX13_best_X13_lay rfl rfl rfl (by decide +kernel) ⟨Nat.le_of_ble_eq_true rfl, Nat.le_of_ble_eq_true rfl⟩) (va_recv hK hP (ci := 11) (q0 := 0) rfl rfl) cl_blind (cl_pre hK hP hD [0, 1, 2, 3, 4, 5, 6, 7, 8, 9, 10] (by decide) rfl) hP hD hS hA [0, 1, 2, 3, 4, 5, 6, 7, 8, 9, 10] rfl rfl hl.1 rfl (lv_room (Nat.le_of_ble_eq_true rfl)) dX13_best_38 ⟨Nat.le_of_ble_eq_true rfl, Nat.le_of_ble_eq_true rfl⟩ ⟨rfl, rfl⟩ (fun _ => updM [0, 1, 2, 3, 4, 5, 6, 7, 8, 9, 10] [] [] 11 rfl rfl rfl rfl rfl (by decide +kernel) (by decide +kernel) rfl) (fun u H locs hw hP hD hS => ?_)
      have hw := hw.symm
      subst hw
      have hP : va_P (dC, dI) vwCl (w_X13_best cy a0 v1.2 gvm gtd gfl grd gnv gac v4 grc gim) H := hP
      have hD : va_D A (w_X13_best cy a0 v1.2 gvm gtd gfl grd gnv gac v4 grc gim) := hD
      refine lv_iconst (v := (0 : Int32)) hx hb dX13_best_41 (by decide) ?_
      refine lv_istore_n (lv' := [(3, .int (0 : Int32)), (0, .ref (a0 0)), (1, .int x1), (2, .int x2)]) hx hb dX13_best_42 rfl hl (by decide) rfl (fun ls hl => ?_)
      refine lv_iconst (v := (1 : Int32)) hx hb dX13_best_43 (by decide) ?_
      refine lv_istore (lv' := [(4, .int (1 : Int32)), (3, .int (0 : Int32)), (0, .ref (a0 0)), (1, .int x1), (2, .int x2)]) hx hb dX13_best_44 hl (by decide) rfl (fun ls hl => ?_)
      exact c46 fu v1.2 v4 x1 x2 (0 : Int32) (1 : Int32) H locs ls h hP hD hS (lv_sub hl [2, 3, 4, 1, 0] rfl)
    · rw [if_pos c3] at h
      refine lv_iconst (v := (0 : Int32)) hx hb dX13_best_35 (by decide) ?_
      exact W.iret (v := (0 : Int32)) hx hb hr (fun t ht hW => by rw [hqq]; have hh := Option.some.inj h; exact ⟨⟨(0 : Int32), ((v1.2, gla)), rfl, ⟨fst_of hh, snd_of hh⟩, by rw [ht]; exact hP, va_K.moved hW.alike hK⟩, hS.F ht⟩) hS.2.2 dX13_best_36
  have c23 : ∀ (_u : Unit), ∀ (gth : Int32) (gla : (Nat → Int32)) (x1 : Int32) (x2 : Int32) (H : Heap) (locs : List Loc) (ls : Array Slot), p_X13_best_23 gvm gth gla x1 x2 = some R0 → va_P (dC, dI) vwCl (w_X13_best cy a0 gth gvm gtd gfl grd gnv gac gla grc gim) H → va_D A (w_X13_best cy a0 gth gvm gtd gfl grd gnv gac gla grc gim) → va_S A s.heap H locs → lv_has ls 5 [(0, .ref (a0 0)), (1, .int x1), (2, .int x2)] → W p l e rm_X13_best s m aa below meth c H locs 0 0 (MQ below qq aa s 0 0 A) (F0 m 23 ls [.ref (a0 0)]) := by
    intro _ gth gla x1 x2 H locs ls h hP hD hS hl
    unfold p_X13_best_23 at h
    refine lv_iconst (v := (1 : Int32)) hx hb dX13_best_23 (by decide) ?_
    refine lv_goto (tgt := 28) hx hb dX13_best_24 (by decide) ?_
    exact c28 () gth gla x1 x2 (1 : Int32) H locs ls h hP hD hS (lv_sub hl [0, 1, 2] rfl)
  obtain ⟨H, hH⟩ : ∃ H : Heap, H = s.heap := ⟨_, rfl⟩
  obtain ⟨locs, hlocs⟩ : ∃ locs : List Loc, locs = [] := ⟨_, rfl⟩
  have hS : va_S A s.heap H locs := by rw [hH, hlocs]; exact hS
  rw [← hH] at hP
  suffices hg : W p l e rm_X13_best s m aa below meth c H locs 0 0 (MQ below qq aa s 0 0 A) (F0 m 0 ls []) by subst hH; subst hlocs; exact hg
  unfold p_X13_best at h
  refine lv_aload_n hx hb dX13_best_0 rfl (lv_at hl 0 rfl) ?_
  refine lv_iconst (v := (0 : Int32)) hx hb dX13_best_1 (by decide) ?_
  refine va_put (D := (dC, dI)) (ci := 11) (v := .int (0 : Int32)) (ty := .int) (C := RX13) (T := TX13) (N := 64) hx hb hts in_X13 tyX13 tyX13_ok nmX13 hown hK hP hD hS 0 rfl rfl 0 (by decide) lk0 (fun _ h9 => h9) rfl (by decide +kernel) rfl rfl (Nat.le_of_ble_eq_true rfl) dX13_best_2 (fun H locs hP hD hS => ?_)
  have hP : va_P (dC, dI) vwCl (w_X13_best cy a0 ((0 : Int32)) gvm gtd gfl grd gnv gac gla grc gim) H := hP
  have hD : va_D A (w_X13_best cy a0 ((0 : Int32)) gvm gtd gfl grd gnv gac gla grc gim) := hD
  refine lv_aload_n hx hb dX13_best_5 rfl (lv_at hl 0 rfl) ?_
  refine lv_iload_n hx hb dX13_best_6 rfl (lv_at hl 1 rfl) ?_
  obtain ⟨v1, hv2, h⟩ := ok_bind h
  refine cl_vi (w2 := fun (u : (Int32)) => w_X13_best cy a0 u gvm gtd gfl grd gnv gac gla grc gim) (As := [.int x1]) (rest := []) ⟨hx, hb, hml, hown, hts⟩ (c_X13_isOwner l dC dI cy a0 (0 : Int32) gvm gtd gfl grd gnv gac grc gim x1 H.size v1 hv2) (cwV 1 hts gX13_best_X13_isOwner rfl rfl rfl (by decide +kernel) ⟨Nat.le_of_ble_eq_true rfl, Nat.le_of_ble_eq_true rfl⟩) (va_recv hK hP (ci := 11) (q0 := 0) rfl rfl) cl_blind (cl_pre hK hP hD [0, 1, 2, 3, 4, 5, 6, 7, 8, 9] (by decide) rfl) hP hD hS hA [0, 1, 2, 3, 4, 5, 6, 7, 8, 9] rfl rfl hl.1 rfl (lv_room (Nat.le_of_ble_eq_true rfl)) dX13_best_7 ⟨Nat.le_of_ble_eq_true rfl, Nat.le_of_ble_eq_true rfl⟩ ⟨rfl, rfl⟩ (fun _ => updM [0, 1, 2, 3, 4, 5, 6, 7, 8, 9] [10] [(a0 21, .inl (cy 1, 620, .inl (gla)))] 11 rfl rfl rfl rfl rfl (by decide +kernel) (by decide +kernel) rfl) (fun r u H locs hw hP hD hS => ?_)
  obtain ⟨rfl, rfl⟩ := hw
  have hP : va_P (dC, dI) vwCl (w_X13_best cy a0 v1.2 gvm gtd gfl grd gnv gac gla grc gim) H := hP
  have hD : va_D A (w_X13_best cy a0 v1.2 gvm gtd gfl grd gnv gac gla grc gim) := hD
  refine lv_if_eq (tgt := 35) hx hb dX13_best_10 (by decide) (fun c3 => ?_) (fun c3 => ?_)
  · rw [if_pos c3] at h
    refine lv_iconst (v := (0 : Int32)) hx hb dX13_best_35 (by decide) ?_
    exact W.iret (v := (0 : Int32)) hx hb hr (fun t ht hW => by rw [hqq]; have hh := Option.some.inj h; exact ⟨⟨(0 : Int32), ((v1.2, gla)), rfl, ⟨fst_of hh, snd_of hh⟩, by rw [ht]; exact hP, va_K.moved hW.alike hK⟩, hS.F ht⟩) hS.2.2 dX13_best_36
  · rw [if_neg c3] at h
    refine lv_aload_n hx hb dX13_best_13 rfl (lv_at hl 0 rfl) ?_
    refine lv_iload_n hx hb dX13_best_14 rfl (lv_at hl 2 rfl) ?_
    refine lv_if_eq (tgt := 23) hx hb dX13_best_15 (by decide) (fun c4 => ?_) (fun c4 => ?_)
    · rw [if_pos c4] at h
      exact c23 () v1.2 gla x1 x2 H locs ls h hP hD hS (lv_sub hl [0, 1, 2] rfl)
    · rw [if_neg c4] at h
      refine lv_iload_n hx hb dX13_best_18 rfl (lv_at hl 2 rfl) ?_
      refine lv_iconst (v := (1 : Int32)) hx hb dX13_best_19 (by decide) ?_
      refine lv_icmp_ne (tgt := 27) hx hb dX13_best_20 (by decide) (fun c5 => ?_) (fun c5 => ?_)
      · rw [if_neg c5] at h
        refine lv_iconst (v := (0 : Int32)) hx hb dX13_best_27 (by decide) ?_
        exact c28 () v1.2 gla x1 x2 (0 : Int32) H locs ls h hP hD hS (lv_sub hl [0, 1, 2] rfl)
      · rw [if_pos c5] at h
        exact c23 () v1.2 gla x1 x2 H locs ls h hP hD hS (lv_sub hl [0, 1, 2] rfl)

abbrev w_X13_netsOf (cy : Nat → ClassId) (a0 : Nat → Nat) (gth : Int32) (gvm : Int32 × Int32 × Int32 × (Nat → Int32) × (Nat → Int32) × (Nat → Int32) × (Nat → Int32) × (Nat → Int32) × (Nat → Int32) × (Nat → Int32) × (Nat → Int32) × (Nat → Int32)) (gtd : Int32) (gfl : Int32 × Int32) (grd : Int32 × Int32 × Int32 × Int32 × Int32 × Int32 × Int64 × (Nat → Int32)) (gnv : Int32 × Int32 × Int32 × Int32 × Int32 × (Nat → Int32) × (Nat → Int32) × (Nat → Int32) × (Nat → Int32) × (Nat → Int32) × (Nat → Int32)) (gac : Int32 × (Nat → Int32) × (Nat → Int32)) (gla : (Nat → Int32)) (gne : (Nat → Int32)) (grc : Int32 × (Nat → Int32)) (gim : Int32 × Int32 × Int32 × (Nat → Int32) × (Nat → Int32) × (Nat → Int32) × (Nat → Int32) × (Nat → Int32) × (Nat → Int32) × (Nat → Int32) × (Nat → Int32) × (Nat → Int32)) : va_W := [(a0 0, .inr (11, [.int (gth), .int (gvm.1), .int (gvm.2.1), .int (gvm.2.2.1), .ref (a0 1), .ref (a0 2), .ref (a0 3), .ref (a0 4), .ref (a0 5), .ref (a0 6), .ref (a0 7), .ref (a0 8), .ref (a0 9), .ref (a0 10), .int (gtd), .int (gfl.1), .int (gfl.2), .ref (a0 11), .int (grd.1), .int (grd.2.1), .int (grd.2.2.1), .int (grd.2.2.2.1), .int (grd.2.2.2.2.1), .int (grd.2.2.2.2.2.1), .long (grd.2.2.2.2.2.2.1), .ref (a0 12), .int (gnv.1), .int (gnv.2.1), .int (gnv.2.2.1), .int (gnv.2.2.2.1), .int (gnv.2.2.2.2.1), .ref (a0 13), .ref (a0 14), .ref (a0 15), .ref (a0 16), .ref (a0 17), .ref (a0 18), .int (gac.1), .ref (a0 19), .ref (a0 20), .ref (a0 21), .ref (a0 22), .ref (a0 23), .ref (a0 24), .ref (a0 25), .ref (a0 26), .ref (a0 27), .int (grc.1), .ref (a0 28), .ref (a0 29), .ref (a0 30), .ref (a0 31), .int (gim.1), .int (gim.2.1), .int (gim.2.2.1), .ref (a0 32), .ref (a0 33), .ref (a0 34), .ref (a0 35), .ref (a0 36), .ref (a0 37), .ref (a0 38), .ref (a0 39), .ref (a0 40)])), (a0 1, .inl (cy 1, 5, .inl (gvm.2.2.2.1))), (a0 2, .inl (cy 1, 5, .inl (gvm.2.2.2.2.1))), (a0 3, .inl (cy 1, 5, .inl (gvm.2.2.2.2.2.1))), (a0 4, .inl (cy 1, 25, .inl (gvm.2.2.2.2.2.2.1))), (a0 5, .inl (cy 1, 10, .inl (gvm.2.2.2.2.2.2.2.1))), (a0 6, .inl (cy 1, 10, .inl (gvm.2.2.2.2.2.2.2.2.1))), (a0 7, .inl (cy 1, 10, .inl (gvm.2.2.2.2.2.2.2.2.2.1))), (a0 8, .inl (cy 1, 10, .inl (gvm.2.2.2.2.2.2.2.2.2.2.1))), (a0 9, .inl (cy 1, 50, .inl (gvm.2.2.2.2.2.2.2.2.2.2.2))), (a0 21, .inl (cy 1, 620, .inl (gla))), (a0 22, .inl (cy 1, 41, .inl (gne)))]
abbrev rm_X13_netsOf : Room := { frames := 2, cells := 0, slots := 0, locals := 46 }
set_option maxHeartbeats 1000000 in
set_option maxRecDepth 100000 in
theorem c_X13_netsOf (l : Launch) (dC : Nat → ClassId) (dI : Nat → Nat → Nat) (cy : Nat → ClassId) (a0 : Nat → Nat) (gth : Int32) (gvm : Int32 × Int32 × Int32 × (Nat → Int32) × (Nat → Int32) × (Nat → Int32) × (Nat → Int32) × (Nat → Int32) × (Nat → Int32) × (Nat → Int32) × (Nat → Int32) × (Nat → Int32)) (gtd : Int32) (gfl : Int32 × Int32) (grd : Int32 × Int32 × Int32 × Int32 × Int32 × Int32 × Int64 × (Nat → Int32)) (gnv : Int32 × Int32 × Int32 × Int32 × Int32 × (Nat → Int32) × (Nat → Int32) × (Nat → Int32) × (Nat → Int32) × (Nat → Int32) × (Nat → Int32)) (gac : Int32 × (Nat → Int32) × (Nat → Int32)) (gla : (Nat → Int32)) (gne : (Nat → Int32)) (grc : Int32 × (Nat → Int32)) (gim : Int32 × Int32 × Int32 × (Nat → Int32) × (Nat → Int32) × (Nat → Int32) × (Nat → Int32) × (Nat → Int32) × (Nat → Int32) × (Nat → Int32) × (Nat → Int32) × (Nat → Int32)) (x1 : Int32) (sz : Nat) (R0 : ((Nat → Int32))) (h : p_X13_netsOf gvm gla gne x1 = some R0) : Met l yX13_netsOf wsX13_netsOf rm_X13_netsOf (va_Pc [.ref (a0 0), .int x1] (prC dC dI cy (w_X13_netsOf cy a0 gth gvm gtd gfl grd gnv gac gla gne grc gim) sz)) (va_Qv (fun (u : ((Nat → Int32))) => u = R0) (fun (u : ((Nat → Int32))) t => poC dC dI cy (w_X13_netsOf cy a0 gth gvm gtd gfl grd gnv gac gla u grc gim) t) (va_A (w_X13_netsOf cy a0 gth gvm gtd gfl grd gnv gac gla gne grc gim) sz)) 0 0 (va_A (w_X13_netsOf cy a0 gth gvm gtd gfl grd gnv gac gla gne grc gim) sz) := by
  refine Met.ofW (cc := cX13_netsOf) (maxL := 3) (ret := none) (by decide) rfl ?_
  intro p e s m aa below meth c s₁ B hml hv
  obtain ⟨haa, hsz, hP, hK, hD0⟩ := hv
  have hx := B.exec
  have hb := B.bytes
  have hr := B.returns
  have hts := atoms_spec (ws := wsX13_netsOf) B.pre
  have hown : s.vm.findClass RX13 = some m.cls := findClass_of_methodNamed B.named
  have hlocks := B.notSynchronized
  subst hsz
  have hD := hD0.self (sz := s.heap.size)
  obtain ⟨qq, hqq⟩ : ∃ qq, qq = (va_Qv (fun (u : ((Nat → Int32))) => u = R0) (fun (u : ((Nat → Int32))) t => poC dC dI cy (w_X13_netsOf cy a0 gth gvm gtd gfl grd gnv gac gla u grc gim) t) (va_A (w_X13_netsOf cy a0 gth gvm gtd gfl grd gnv gac gla gne grc gim) s.heap.size)) := ⟨_, rfl⟩
  rw [← hqq]
  generalize hAe : va_A (w_X13_netsOf cy a0 gth gvm gtd gfl grd gnv gac gla gne grc gim) s.heap.size = A at hD hqq ⊢
  have hA : ∀ q : Nat, s.heap.size ≤ q → A q := fun q h => by rw [← hAe]; exact Or.inr h
  have hS : va_S A s.heap s.heap [] := va_S.rf
  have hl := lv_entry ([.ref (a0 0), .int x1]) (n := 3) (Nat.le_of_ble_eq_true rfl)
  have hE : entryFrame m aa 3 = F0 m 0 ((lg_sl ([.ref (a0 0), .int x1]) ++ List.replicate (3 - (lg_sl ([.ref (a0 0), .int x1])).length) Slot.unset).toArray) [] := by rw [haa]; exact lg_entry_eq m _ 3
  refine W.eq hE ?_
  generalize (lg_sl ([.ref (a0 0), .int x1]) ++ List.replicate (3 - (lg_sl ([.ref (a0 0), .int x1])).length) Slot.unset).toArray = ls at hl ⊢
  have hl : lv_has ls 3 [(0, .ref (a0 0)), (1, .int x1)] := hl
  change W p l e rm_X13_netsOf s m aa below meth c s.heap [] 0 0 (MQ below qq aa s 0 0 A) (F0 m 0 ls [])
  have hS0 := hS
  have lk0 := hts (.fieldLink RX13 77 "GoatDoorsModel" "nets" "[I") (by decide +kernel)
  have in_X13 : ∀ w ∈ wsX130, w ∈ wsX13_netsOf := by decide +kernel
  have c2 : ∀ (n : Nat), ∀ (gne : (Nat → Int32)) (x1 : Int32) (x2 : Int32) (H : Heap) (locs : List Loc) (ls : Array Slot), p_X13_netsOf_2 gvm gla n gne x1 x2 = some R0 → va_P (dC, dI) vwCl (w_X13_netsOf cy a0 gth gvm gtd gfl grd gnv gac gla gne grc gim) H → va_D A (w_X13_netsOf cy a0 gth gvm gtd gfl grd gnv gac gla gne grc gim) → va_S A s.heap H locs → lv_has ls 3 [(0, .ref (a0 0)), (1, .int x1), (2, .int x2)] → W p l e rm_X13_netsOf s m aa below meth c H locs 0 0 (MQ below qq aa s 0 0 A) (F0 m 2 ls []) := by
    intro  n
    induction n with
    | zero => intro gne x1 x2 H locs ls h; exact no_some h
    | succ n ih =>
      intro gne x1 x2 H locs ls h hP hD hS hl
      rw [p_X13_netsOf_2.eq_2] at h
      refine lv_iload_n hx hb dX13_netsOf_2 rfl (lv_at hl 2 rfl) ?_
      refine lv_bipush (v := (40 : Int32)) hx hb dX13_netsOf_3 (by decide) ?_
      refine lv_icmp_gt (tgt := 26) hx hb dX13_netsOf_5 (by decide) (fun c1 => ?_) (fun c1 => ?_)
      · rw [if_pos c1] at h
        exact W.vret hx hb hr (fun t ht hW => by rw [hqq]; have hh := Option.some.inj h; exact ⟨⟨(gne), rfl, Option.some.inj h, by rw [ht]; exact hP, va_K.moved hW.alike hK⟩, hS.F ht⟩) hS.2.2 dX13_netsOf_26
      · rw [if_neg c1] at h
        refine lv_aload_n hx hb dX13_netsOf_8 rfl (lv_at hl 0 rfl) ?_
        refine va_get (D := (dC, dI)) (ci := 11) (v := .ref (a0 22)) (C := RX13) (T := TX13) (N := 64) hx hb hts in_X13 hown hK hP 0 rfl rfl 41 (by decide) lk0 (fun _ h9 => h9) rfl dX13_netsOf_9 ?_
        refine lv_iload_n hx hb dX13_netsOf_12 rfl (lv_at hl 2 rfl) ?_
        refine lv_aload_n hx hb dX13_netsOf_13 rfl (lv_at hl 0 rfl) ?_
        refine lv_iload_n hx hb dX13_netsOf_14 rfl (lv_at hl 1 rfl) ?_
        refine lv_iload_n hx hb dX13_netsOf_15 rfl (lv_at hl 2 rfl) ?_
        obtain ⟨v2, hv3, h⟩ := ok_bind h
        refine cl_vi (w2 := fun (_ : Unit) => w_X13_netsOf cy a0 gth gvm gtd gfl grd gnv gac gla gne grc gim) (As := [.int x1, .int x2]) (rest := [.int x2, .ref (a0 22)]) ⟨hx, hb, hml, hown, hts⟩ (c_X13_net l dC dI cy a0 gth gvm gtd gfl grd gnv gac gla grc gim x1 x2 H.size v2 hv3) (cwV 2 hts gX13_netsOf_X13_net rfl rfl rfl (by decide +kernel) ⟨Nat.le_of_ble_eq_true rfl, Nat.le_of_ble_eq_true rfl⟩) (va_recv hK hP (ci := 11) (q0 := 0) rfl rfl) cl_blind (cl_pre hK hP hD [0, 1, 2, 3, 4, 5, 6, 7, 8, 9, 10] (by decide) rfl) hP hD hS hA [0, 1, 2, 3, 4, 5, 6, 7, 8, 9, 10] rfl rfl hl.1 rfl (lv_room (Nat.le_of_ble_eq_true rfl)) dX13_netsOf_16 ⟨Nat.le_of_ble_eq_true rfl, Nat.le_of_ble_eq_true rfl⟩ ⟨rfl, rfl⟩ (fun _ => updR [0, 1, 2, 3, 4, 5, 6, 7, 8, 9, 10] rfl) (fun r u H locs hw hP hD hS => ?_)
        have hw := hw.symm
        subst hw
        have hP : va_P (dC, dI) vwCl (w_X13_netsOf cy a0 gth gvm gtd gfl grd gnv gac gla gne grc gim) H := hP
        have hD : va_D A (w_X13_netsOf cy a0 gth gvm gtd gfl grd gnv gac gla gne grc gim) := hD
        obtain ⟨hi4, h⟩ := ok_if h
        refine va_iast hx hb hK hP hD hS 11 1 rfl rfl (ix_in hi4) dX13_netsOf_19 (fun H locs hP hD hS => ?_)
        have hP : va_P (dC, dI) vwCl (w_X13_netsOf cy a0 gth gvm gtd gfl grd gnv gac gla ((upd gne x2.toNatClampNeg v2)) grc gim) H := hP
        have hD : va_D A (w_X13_netsOf cy a0 gth gvm gtd gfl grd gnv gac gla ((upd gne x2.toNatClampNeg v2)) grc gim) := hD
        refine lv_iinc (v := (x2 + (1 : Int32))) (lv' := [(2, .int (x2 + (1 : Int32))), (0, .ref (a0 0)), (1, .int x1)]) hx hb dX13_netsOf_20 hl (k := 2) rfl rfl (by decide) rfl (fun ls hl => ?_)
        refine lv_goto (tgt := 2) hx hb dX13_netsOf_23 (by decide) ?_
        exact ih (upd gne x2.toNatClampNeg v2) x1 (x2 + (1 : Int32)) H locs ls h hP hD hS (lv_sub hl [1, 2, 0] rfl)
  obtain ⟨H, hH⟩ : ∃ H : Heap, H = s.heap := ⟨_, rfl⟩
  obtain ⟨locs, hlocs⟩ : ∃ locs : List Loc, locs = [] := ⟨_, rfl⟩
  have hS : va_S A s.heap H locs := by rw [hH, hlocs]; exact hS
  rw [← hH] at hP
  suffices hg : W p l e rm_X13_netsOf s m aa below meth c H locs 0 0 (MQ below qq aa s 0 0 A) (F0 m 0 ls []) by subst hH; subst hlocs; exact hg
  unfold p_X13_netsOf at h
  refine lv_iconst (v := (0 : Int32)) hx hb dX13_netsOf_0 (by decide) ?_
  refine lv_istore_n (lv' := [(2, .int (0 : Int32)), (0, .ref (a0 0)), (1, .int x1)]) hx hb dX13_netsOf_1 rfl hl (by decide) rfl (fun ls hl => ?_)
  exact c2 fu gne x1 (0 : Int32) H locs ls h hP hD hS (lv_sub hl [1, 2, 0] rfl)

abbrev w_X13_spread (cy : Nat → ClassId) (a0 : Nat → Nat) (gth : Int32) (gvm : Int32 × Int32 × Int32 × (Nat → Int32) × (Nat → Int32) × (Nat → Int32) × (Nat → Int32) × (Nat → Int32) × (Nat → Int32) × (Nat → Int32) × (Nat → Int32) × (Nat → Int32)) (gtd : Int32) (gfl : Int32 × Int32) (grd : Int32 × Int32 × Int32 × Int32 × Int32 × Int32 × Int64 × (Nat → Int32)) (gnv : Int32 × Int32 × Int32 × Int32 × Int32 × (Nat → Int32) × (Nat → Int32) × (Nat → Int32) × (Nat → Int32) × (Nat → Int32) × (Nat → Int32)) (gac : Int32 × (Nat → Int32) × (Nat → Int32)) (gne : (Nat → Int32)) (grc : Int32 × (Nat → Int32)) (gim : Int32 × Int32 × Int32 × (Nat → Int32) × (Nat → Int32) × (Nat → Int32) × (Nat → Int32) × (Nat → Int32) × (Nat → Int32) × (Nat → Int32) × (Nat → Int32) × (Nat → Int32)) : va_W := [(a0 0, .inr (11, [.int (gth), .int (gvm.1), .int (gvm.2.1), .int (gvm.2.2.1), .ref (a0 1), .ref (a0 2), .ref (a0 3), .ref (a0 4), .ref (a0 5), .ref (a0 6), .ref (a0 7), .ref (a0 8), .ref (a0 9), .ref (a0 10), .int (gtd), .int (gfl.1), .int (gfl.2), .ref (a0 11), .int (grd.1), .int (grd.2.1), .int (grd.2.2.1), .int (grd.2.2.2.1), .int (grd.2.2.2.2.1), .int (grd.2.2.2.2.2.1), .long (grd.2.2.2.2.2.2.1), .ref (a0 12), .int (gnv.1), .int (gnv.2.1), .int (gnv.2.2.1), .int (gnv.2.2.2.1), .int (gnv.2.2.2.2.1), .ref (a0 13), .ref (a0 14), .ref (a0 15), .ref (a0 16), .ref (a0 17), .ref (a0 18), .int (gac.1), .ref (a0 19), .ref (a0 20), .ref (a0 21), .ref (a0 22), .ref (a0 23), .ref (a0 24), .ref (a0 25), .ref (a0 26), .ref (a0 27), .int (grc.1), .ref (a0 28), .ref (a0 29), .ref (a0 30), .ref (a0 31), .int (gim.1), .int (gim.2.1), .int (gim.2.2.1), .ref (a0 32), .ref (a0 33), .ref (a0 34), .ref (a0 35), .ref (a0 36), .ref (a0 37), .ref (a0 38), .ref (a0 39), .ref (a0 40)])), (a0 22, .inl (cy 1, 41, .inl (gne)))]
abbrev rm_X13_spread : Room := { frames := 0, cells := 0, slots := 0, locals := 0 }
set_option maxHeartbeats 1000000 in
set_option maxRecDepth 100000 in
theorem c_X13_spread (l : Launch) (dC : Nat → ClassId) (dI : Nat → Nat → Nat) (cy : Nat → ClassId) (a0 : Nat → Nat) (gth : Int32) (gvm : Int32 × Int32 × Int32 × (Nat → Int32) × (Nat → Int32) × (Nat → Int32) × (Nat → Int32) × (Nat → Int32) × (Nat → Int32) × (Nat → Int32) × (Nat → Int32) × (Nat → Int32)) (gtd : Int32) (gfl : Int32 × Int32) (grd : Int32 × Int32 × Int32 × Int32 × Int32 × Int32 × Int64 × (Nat → Int32)) (gnv : Int32 × Int32 × Int32 × Int32 × Int32 × (Nat → Int32) × (Nat → Int32) × (Nat → Int32) × (Nat → Int32) × (Nat → Int32) × (Nat → Int32)) (gac : Int32 × (Nat → Int32) × (Nat → Int32)) (gne : (Nat → Int32)) (grc : Int32 × (Nat → Int32)) (gim : Int32 × Int32 × Int32 × (Nat → Int32) × (Nat → Int32) × (Nat → Int32) × (Nat → Int32) × (Nat → Int32) × (Nat → Int32) × (Nat → Int32) × (Nat → Int32) × (Nat → Int32)) (x1 : Int32) (x2 : Int32) (sz : Nat) (R0 : Int32) (h : p_X13_spread gne x1 x2 = some R0) : Met l yX13_spread wsX13_spread rm_X13_spread (va_Pc [.ref (a0 0), .int x1, .int x2] (prC dC dI cy (w_X13_spread cy a0 gth gvm gtd gfl grd gnv gac gne grc gim) sz)) (va_Qi (fun (r : Int32) (_ : Unit) => r = R0) (fun (_ : Unit) t => poC dC dI cy (w_X13_spread cy a0 gth gvm gtd gfl grd gnv gac gne grc gim) t) (va_A (w_X13_spread cy a0 gth gvm gtd gfl grd gnv gac gne grc gim) sz)) 0 0 (va_A (w_X13_spread cy a0 gth gvm gtd gfl grd gnv gac gne grc gim) sz) := by
  refine Met.ofW (cc := cX13_spread) (maxL := 6) (ret := (some .int)) (by decide) rfl ?_
  intro p e s m aa below meth c s₁ B hml hv
  obtain ⟨haa, hsz, hP, hK, hD0⟩ := hv
  have hx := B.exec
  have hb := B.bytes
  have hr := B.returns
  have hts := atoms_spec (ws := wsX13_spread) B.pre
  have hown : s.vm.findClass RX13 = some m.cls := findClass_of_methodNamed B.named
  have hlocks := B.notSynchronized
  subst hsz
  have hD := hD0.self (sz := s.heap.size)
  obtain ⟨qq, hqq⟩ : ∃ qq, qq = (va_Qi (fun (r : Int32) (_ : Unit) => r = R0) (fun (_ : Unit) t => poC dC dI cy (w_X13_spread cy a0 gth gvm gtd gfl grd gnv gac gne grc gim) t) (va_A (w_X13_spread cy a0 gth gvm gtd gfl grd gnv gac gne grc gim) s.heap.size)) := ⟨_, rfl⟩
  rw [← hqq]
  generalize hAe : va_A (w_X13_spread cy a0 gth gvm gtd gfl grd gnv gac gne grc gim) s.heap.size = A at hD hqq ⊢
  have hA : ∀ q : Nat, s.heap.size ≤ q → A q := fun q h => by rw [← hAe]; exact Or.inr h
  have hS : va_S A s.heap s.heap [] := va_S.rf
  have hl := lv_entry ([.ref (a0 0), .int x1, .int x2]) (n := 6) (Nat.le_of_ble_eq_true rfl)
  have hE : entryFrame m aa 6 = F0 m 0 ((lg_sl ([.ref (a0 0), .int x1, .int x2]) ++ List.replicate (6 - (lg_sl ([.ref (a0 0), .int x1, .int x2])).length) Slot.unset).toArray) [] := by rw [haa]; exact lg_entry_eq m _ 6
  refine W.eq hE ?_
  generalize (lg_sl ([.ref (a0 0), .int x1, .int x2]) ++ List.replicate (6 - (lg_sl ([.ref (a0 0), .int x1, .int x2])).length) Slot.unset).toArray = ls at hl ⊢
  have hl : lv_has ls 6 [(0, .ref (a0 0)), (1, .int x1), (2, .int x2)] := hl
  change W p l e rm_X13_spread s m aa below meth c s.heap [] 0 0 (MQ below qq aa s 0 0 A) (F0 m 0 ls [])
  have hS0 := hS
  have lk0 := hts (.fieldLink RX13 77 "GoatDoorsModel" "nets" "[I") (by decide +kernel)
  have in_X13 : ∀ w ∈ wsX130, w ∈ wsX13_spread := by decide +kernel
  have c71 : ∀ (k18 : Int32 → Int32 → Int32 → Int32 → Option (Int32)) (hk18 : ∀ (x2 : Int32) (x3 : Int32) (x4 : Int32) (x5 : Int32) (H : Heap) (locs : List Loc) (ls : Array Slot), k18 x2 x3 x4 x5 = some R0 → va_P (dC, dI) vwCl (w_X13_spread cy a0 gth gvm gtd gfl grd gnv gac gne grc gim) H → va_D A (w_X13_spread cy a0 gth gvm gtd gfl grd gnv gac gne grc gim) → va_S A s.heap H locs → lv_has ls 6 [(0, .ref (a0 0)), (2, .int x2), (3, .int x3), (4, .int x4), (5, .int x5)] → W p l e rm_X13_spread s m aa below meth c H locs 0 0 (MQ below qq aa s 0 0 A) (F0 m 18 ls [])), ∀ (x2 : Int32) (x3 : Int32) (x5 : Int32) (t0 : Int32) (H : Heap) (locs : List Loc) (ls : Array Slot), p_X13_spread_71 k18 gne x2 x3 x5 t0 = some R0 → va_P (dC, dI) vwCl (w_X13_spread cy a0 gth gvm gtd gfl grd gnv gac gne grc gim) H → va_D A (w_X13_spread cy a0 gth gvm gtd gfl grd gnv gac gne grc gim) → va_S A s.heap H locs → lv_has ls 6 [(0, .ref (a0 0)), (2, .int x2), (3, .int x3), (5, .int x5)] → W p l e rm_X13_spread s m aa below meth c H locs 0 0 (MQ below qq aa s 0 0 A) (F0 m 71 ls [.int t0]) := by
    intro k18 hk18 x2 x3 x5 t0 H locs ls h hP hD hS hl
    unfold p_X13_spread_71 at h
    refine lv_istore (lv' := [(4, .int t0), (0, .ref (a0 0)), (2, .int x2), (3, .int x3), (5, .int x5)]) hx hb dX13_spread_71 hl (by decide) rfl (fun ls hl => ?_)
    refine lv_iinc (v := (x5 + (1 : Int32))) (lv' := [(5, .int (x5 + (1 : Int32))), (4, .int t0), (0, .ref (a0 0)), (2, .int x2), (3, .int x3)]) hx hb dX13_spread_73 hl (k := 4) rfl rfl (by decide) rfl (fun ls hl => ?_)
    refine lv_goto (tgt := 18) hx hb dX13_spread_76 (by decide) ?_
    exact hk18 x2 x3 t0 (x5 + (1 : Int32)) H locs ls h hP hD hS (lv_sub hl [2, 3, 4, 1, 0] rfl)
  have c46 : ∀ (k18 : Int32 → Int32 → Int32 → Int32 → Option (Int32)) (hk18 : ∀ (x2 : Int32) (x3 : Int32) (x4 : Int32) (x5 : Int32) (H : Heap) (locs : List Loc) (ls : Array Slot), k18 x2 x3 x4 x5 = some R0 → va_P (dC, dI) vwCl (w_X13_spread cy a0 gth gvm gtd gfl grd gnv gac gne grc gim) H → va_D A (w_X13_spread cy a0 gth gvm gtd gfl grd gnv gac gne grc gim) → va_S A s.heap H locs → lv_has ls 6 [(0, .ref (a0 0)), (2, .int x2), (3, .int x3), (4, .int x4), (5, .int x5)] → W p l e rm_X13_spread s m aa below meth c H locs 0 0 (MQ below qq aa s 0 0 A) (F0 m 18 ls [])), ∀ (x2 : Int32) (x4 : Int32) (x5 : Int32) (t0 : Int32) (H : Heap) (locs : List Loc) (ls : Array Slot), p_X13_spread_46 k18 gne x2 x4 x5 t0 = some R0 → va_P (dC, dI) vwCl (w_X13_spread cy a0 gth gvm gtd gfl grd gnv gac gne grc gim) H → va_D A (w_X13_spread cy a0 gth gvm gtd gfl grd gnv gac gne grc gim) → va_S A s.heap H locs → lv_has ls 6 [(0, .ref (a0 0)), (2, .int x2), (4, .int x4), (5, .int x5)] → W p l e rm_X13_spread s m aa below meth c H locs 0 0 (MQ below qq aa s 0 0 A) (F0 m 46 ls [.int t0]) := by
    intro k18 hk18 x2 x4 x5 t0 H locs ls h hP hD hS hl
    unfold p_X13_spread_46 at h
    refine lv_istore_n (lv' := [(3, .int t0), (0, .ref (a0 0)), (2, .int x2), (4, .int x4), (5, .int x5)]) hx hb dX13_spread_46 rfl hl (by decide) rfl (fun ls hl => ?_)
    refine lv_aload_n hx hb dX13_spread_47 rfl (lv_at hl 1 rfl) ?_
    refine va_get (D := (dC, dI)) (ci := 11) (v := .ref (a0 22)) (C := RX13) (T := TX13) (N := 64) hx hb hts in_X13 hown hK hP 0 rfl rfl 41 (by decide) lk0 (fun _ h9 => h9) rfl dX13_spread_48 ?_
    refine lv_iload hx hb dX13_spread_51 (lv_at hl 4 rfl) ?_
    obtain ⟨hi1, h⟩ := ok_if h
    refine va_iald hx hb hK hP 1 1 rfl rfl (ix_in hi1) dX13_spread_53 ?_
    refine lv_iload hx hb dX13_spread_54 (lv_at hl 3 rfl) ?_
    refine lv_icmp_le (tgt := 69) hx hb dX13_spread_56 (by decide) (fun c2 => ?_) (fun c2 => ?_)
    · rw [if_pos c2] at h
      refine lv_iload hx hb dX13_spread_69 (lv_at hl 3 rfl) ?_
      exact c71 k18 hk18 x2 t0 x5 x4 H locs ls h hP hD hS (lv_sub hl [1, 2, 0, 4] rfl)
    · rw [if_neg c2] at h
      refine lv_aload_n hx hb dX13_spread_59 rfl (lv_at hl 1 rfl) ?_
      refine va_get (D := (dC, dI)) (ci := 11) (v := .ref (a0 22)) (C := RX13) (T := TX13) (N := 64) hx hb hts in_X13 hown hK hP 0 rfl rfl 41 (by decide) lk0 (fun _ h9 => h9) rfl dX13_spread_60 ?_
      refine lv_iload hx hb dX13_spread_63 (lv_at hl 4 rfl) ?_
      obtain ⟨hi3, h⟩ := ok_if h
      refine va_iald hx hb hK hP 1 1 rfl rfl (ix_in hi3) dX13_spread_65 ?_
      refine lv_goto (tgt := 71) hx hb dX13_spread_66 (by decide) ?_
      exact c71 k18 hk18 x2 t0 x5 (gne x5.toNatClampNeg) H locs ls h hP hD hS (lv_sub hl [1, 2, 0, 4] rfl)
  have c18 : ∀ (n : Nat), ∀ (x2 : Int32) (x3 : Int32) (x4 : Int32) (x5 : Int32) (H : Heap) (locs : List Loc) (ls : Array Slot), p_X13_spread_18 gne n x2 x3 x4 x5 = some R0 → va_P (dC, dI) vwCl (w_X13_spread cy a0 gth gvm gtd gfl grd gnv gac gne grc gim) H → va_D A (w_X13_spread cy a0 gth gvm gtd gfl grd gnv gac gne grc gim) → va_S A s.heap H locs → lv_has ls 6 [(0, .ref (a0 0)), (2, .int x2), (3, .int x3), (4, .int x4), (5, .int x5)] → W p l e rm_X13_spread s m aa below meth c H locs 0 0 (MQ below qq aa s 0 0 A) (F0 m 18 ls []) := by
    intro  n
    induction n with
    | zero => intro x2 x3 x4 x5 H locs ls h; exact no_some h
    | succ n ih =>
      intro x2 x3 x4 x5 H locs ls h hP hD hS hl
      rw [p_X13_spread_18.eq_2] at h
      refine lv_iload hx hb dX13_spread_18 (lv_at hl 4 rfl) ?_
      refine lv_iload_n hx hb dX13_spread_20 rfl (lv_at hl 1 rfl) ?_
      refine lv_icmp_gt (tgt := 79) hx hb dX13_spread_21 (by decide) (fun c1 => ?_) (fun c1 => ?_)
      · rw [if_pos c1] at h
        refine lv_iload hx hb dX13_spread_79 (lv_at hl 3 rfl) ?_
        refine lv_iload_n hx hb dX13_spread_81 rfl (lv_at hl 2 rfl) ?_
        refine lv_isub hx hb dX13_spread_82 ?_
        exact W.iret (v := (x4 - x3)) hx hb hr (fun t ht hW => by rw [hqq]; have hh := Option.some.inj h; exact ⟨⟨(x4 - x3), (()), rfl, Option.some.inj h, by rw [ht]; exact hP, va_K.moved hW.alike hK⟩, hS.F ht⟩) hS.2.2 dX13_spread_83
      · rw [if_neg c1] at h
        refine lv_aload_n hx hb dX13_spread_24 rfl (lv_at hl 0 rfl) ?_
        refine va_get (D := (dC, dI)) (ci := 11) (v := .ref (a0 22)) (C := RX13) (T := TX13) (N := 64) hx hb hts in_X13 hown hK hP 0 rfl rfl 41 (by decide) lk0 (fun _ h9 => h9) rfl dX13_spread_25 ?_
        refine lv_iload hx hb dX13_spread_28 (lv_at hl 4 rfl) ?_
        obtain ⟨hi2, h⟩ := ok_if h
        refine va_iald hx hb hK hP 1 1 rfl rfl (ix_in hi2) dX13_spread_30 ?_
        refine lv_iload_n hx hb dX13_spread_31 rfl (lv_at hl 2 rfl) ?_
        refine lv_icmp_ge (tgt := 45) hx hb dX13_spread_32 (by decide) (fun c3 => ?_) (fun c3 => ?_)
        · rw [if_pos c3] at h
          refine lv_iload_n hx hb dX13_spread_45 rfl (lv_at hl 2 rfl) ?_
          exact c46 (p_X13_spread_18 gne n) ih x2 x4 x5 x3 H locs ls h hP hD hS (lv_sub hl [0, 1, 3, 4] rfl)
        · rw [if_neg c3] at h
          refine lv_aload_n hx hb dX13_spread_35 rfl (lv_at hl 0 rfl) ?_
          refine va_get (D := (dC, dI)) (ci := 11) (v := .ref (a0 22)) (C := RX13) (T := TX13) (N := 64) hx hb hts in_X13 hown hK hP 0 rfl rfl 41 (by decide) lk0 (fun _ h9 => h9) rfl dX13_spread_36 ?_
          refine lv_iload hx hb dX13_spread_39 (lv_at hl 4 rfl) ?_
          obtain ⟨hi4, h⟩ := ok_if h
          refine va_iald hx hb hK hP 1 1 rfl rfl (ix_in hi4) dX13_spread_41 ?_
          refine lv_goto (tgt := 46) hx hb dX13_spread_42 (by decide) ?_
          exact c46 (p_X13_spread_18 gne n) ih x2 x4 x5 (gne x5.toNatClampNeg) H locs ls h hP hD hS (lv_sub hl [0, 1, 3, 4] rfl)
  obtain ⟨H, hH⟩ : ∃ H : Heap, H = s.heap := ⟨_, rfl⟩
  obtain ⟨locs, hlocs⟩ : ∃ locs : List Loc, locs = [] := ⟨_, rfl⟩
  have hS : va_S A s.heap H locs := by rw [hH, hlocs]; exact hS
  rw [← hH] at hP
  suffices hg : W p l e rm_X13_spread s m aa below meth c H locs 0 0 (MQ below qq aa s 0 0 A) (F0 m 0 ls []) by subst hH; subst hlocs; exact hg
  unfold p_X13_spread at h
  refine lv_aload_n hx hb dX13_spread_0 rfl (lv_at hl 0 rfl) ?_
  refine va_get (D := (dC, dI)) (ci := 11) (v := .ref (a0 22)) (C := RX13) (T := TX13) (N := 64) hx hb hts in_X13 hown hK hP 0 rfl rfl 41 (by decide) lk0 (fun _ h9 => h9) rfl dX13_spread_1 ?_
  refine lv_iload_n hx hb dX13_spread_4 rfl (lv_at hl 1 rfl) ?_
  obtain ⟨hi1, h⟩ := ok_if h
  refine va_iald hx hb hK hP 1 1 rfl rfl (ix_in hi1) dX13_spread_5 ?_
  refine lv_istore_n (lv' := [(3, .int (gne x1.toNatClampNeg)), (0, .ref (a0 0)), (1, .int x1), (2, .int x2)]) hx hb dX13_spread_6 rfl hl (by decide) rfl (fun ls hl => ?_)
  refine lv_aload_n hx hb dX13_spread_7 rfl (lv_at hl 1 rfl) ?_
  refine va_get (D := (dC, dI)) (ci := 11) (v := .ref (a0 22)) (C := RX13) (T := TX13) (N := 64) hx hb hts in_X13 hown hK hP 0 rfl rfl 41 (by decide) lk0 (fun _ h9 => h9) rfl dX13_spread_8 ?_
  refine lv_iload_n hx hb dX13_spread_11 rfl (lv_at hl 2 rfl) ?_
  obtain ⟨hi2, h⟩ := ok_if h
  refine va_iald hx hb hK hP 1 1 rfl rfl (ix_in hi2) dX13_spread_12 ?_
  refine lv_istore (lv' := [(4, .int (gne x1.toNatClampNeg)), (3, .int (gne x1.toNatClampNeg)), (0, .ref (a0 0)), (1, .int x1), (2, .int x2)]) hx hb dX13_spread_13 hl (by decide) rfl (fun ls hl => ?_)
  refine lv_iload_n hx hb dX13_spread_15 rfl (lv_at hl 3 rfl) ?_
  refine lv_istore (lv' := [(5, .int x1), (4, .int (gne x1.toNatClampNeg)), (3, .int (gne x1.toNatClampNeg)), (0, .ref (a0 0)), (1, .int x1), (2, .int x2)]) hx hb dX13_spread_16 hl (by decide) rfl (fun ls hl => ?_)
  exact c18 fu x2 (gne x1.toNatClampNeg) (gne x1.toNatClampNeg) x1 H locs ls h hP hD hS (lv_sub hl [3, 5, 2, 1, 0] rfl)

abbrev w_X13_spanOf (cy : Nat → ClassId) (a0 : Nat → Nat) (gth : Int32) (gvm : Int32 × Int32 × Int32 × (Nat → Int32) × (Nat → Int32) × (Nat → Int32) × (Nat → Int32) × (Nat → Int32) × (Nat → Int32) × (Nat → Int32) × (Nat → Int32) × (Nat → Int32)) (gtd : Int32) (gfl : Int32 × Int32) (grd : Int32 × Int32 × Int32 × Int32 × Int32 × Int32 × Int64 × (Nat → Int32)) (gnv : Int32 × Int32 × Int32 × Int32 × Int32 × (Nat → Int32) × (Nat → Int32) × (Nat → Int32) × (Nat → Int32) × (Nat → Int32) × (Nat → Int32)) (gac : Int32 × (Nat → Int32) × (Nat → Int32)) (gla : (Nat → Int32)) (gne : (Nat → Int32)) (grc : Int32 × (Nat → Int32)) (gim : Int32 × Int32 × Int32 × (Nat → Int32) × (Nat → Int32) × (Nat → Int32) × (Nat → Int32) × (Nat → Int32) × (Nat → Int32) × (Nat → Int32) × (Nat → Int32) × (Nat → Int32)) : va_W := [(a0 0, .inr (11, [.int (gth), .int (gvm.1), .int (gvm.2.1), .int (gvm.2.2.1), .ref (a0 1), .ref (a0 2), .ref (a0 3), .ref (a0 4), .ref (a0 5), .ref (a0 6), .ref (a0 7), .ref (a0 8), .ref (a0 9), .ref (a0 10), .int (gtd), .int (gfl.1), .int (gfl.2), .ref (a0 11), .int (grd.1), .int (grd.2.1), .int (grd.2.2.1), .int (grd.2.2.2.1), .int (grd.2.2.2.2.1), .int (grd.2.2.2.2.2.1), .long (grd.2.2.2.2.2.2.1), .ref (a0 12), .int (gnv.1), .int (gnv.2.1), .int (gnv.2.2.1), .int (gnv.2.2.2.1), .int (gnv.2.2.2.2.1), .ref (a0 13), .ref (a0 14), .ref (a0 15), .ref (a0 16), .ref (a0 17), .ref (a0 18), .int (gac.1), .ref (a0 19), .ref (a0 20), .ref (a0 21), .ref (a0 22), .ref (a0 23), .ref (a0 24), .ref (a0 25), .ref (a0 26), .ref (a0 27), .int (grc.1), .ref (a0 28), .ref (a0 29), .ref (a0 30), .ref (a0 31), .int (gim.1), .int (gim.2.1), .int (gim.2.2.1), .ref (a0 32), .ref (a0 33), .ref (a0 34), .ref (a0 35), .ref (a0 36), .ref (a0 37), .ref (a0 38), .ref (a0 39), .ref (a0 40)])), (a0 1, .inl (cy 1, 5, .inl (gvm.2.2.2.1))), (a0 2, .inl (cy 1, 5, .inl (gvm.2.2.2.2.1))), (a0 3, .inl (cy 1, 5, .inl (gvm.2.2.2.2.2.1))), (a0 4, .inl (cy 1, 25, .inl (gvm.2.2.2.2.2.2.1))), (a0 5, .inl (cy 1, 10, .inl (gvm.2.2.2.2.2.2.2.1))), (a0 6, .inl (cy 1, 10, .inl (gvm.2.2.2.2.2.2.2.2.1))), (a0 7, .inl (cy 1, 10, .inl (gvm.2.2.2.2.2.2.2.2.2.1))), (a0 8, .inl (cy 1, 10, .inl (gvm.2.2.2.2.2.2.2.2.2.2.1))), (a0 9, .inl (cy 1, 50, .inl (gvm.2.2.2.2.2.2.2.2.2.2.2))), (a0 21, .inl (cy 1, 620, .inl (gla))), (a0 22, .inl (cy 1, 41, .inl (gne)))]
abbrev rm_X13_spanOf : Room := { frames := 3, cells := 0, slots := 0, locals := 68 }
set_option maxHeartbeats 1000000 in
set_option maxRecDepth 100000 in
theorem c_X13_spanOf (l : Launch) (dC : Nat → ClassId) (dI : Nat → Nat → Nat) (cy : Nat → ClassId) (a0 : Nat → Nat) (gth : Int32) (gvm : Int32 × Int32 × Int32 × (Nat → Int32) × (Nat → Int32) × (Nat → Int32) × (Nat → Int32) × (Nat → Int32) × (Nat → Int32) × (Nat → Int32) × (Nat → Int32) × (Nat → Int32)) (gtd : Int32) (gfl : Int32 × Int32) (grd : Int32 × Int32 × Int32 × Int32 × Int32 × Int32 × Int64 × (Nat → Int32)) (gnv : Int32 × Int32 × Int32 × Int32 × Int32 × (Nat → Int32) × (Nat → Int32) × (Nat → Int32) × (Nat → Int32) × (Nat → Int32) × (Nat → Int32)) (gac : Int32 × (Nat → Int32) × (Nat → Int32)) (gla : (Nat → Int32)) (gne : (Nat → Int32)) (grc : Int32 × (Nat → Int32)) (gim : Int32 × Int32 × Int32 × (Nat → Int32) × (Nat → Int32) × (Nat → Int32) × (Nat → Int32) × (Nat → Int32) × (Nat → Int32) × (Nat → Int32) × (Nat → Int32) × (Nat → Int32)) (x1 : Int32) (x2 : Int32) (x3 : Int32) (sz : Nat) (R0 : Int32 × ((Nat → Int32))) (h : p_X13_spanOf gvm gla gne x1 x2 x3 = some R0) : Met l yX13_spanOf wsX13_spanOf rm_X13_spanOf (va_Pc [.ref (a0 0), .int x1, .int x2, .int x3] (prC dC dI cy (w_X13_spanOf cy a0 gth gvm gtd gfl grd gnv gac gla gne grc gim) sz)) (va_Qi (fun (r : Int32) (u : ((Nat → Int32))) => r = R0.1 ∧ u = R0.2) (fun (u : ((Nat → Int32))) t => poC dC dI cy (w_X13_spanOf cy a0 gth gvm gtd gfl grd gnv gac gla u grc gim) t) (va_A (w_X13_spanOf cy a0 gth gvm gtd gfl grd gnv gac gla gne grc gim) sz)) 0 0 (va_A (w_X13_spanOf cy a0 gth gvm gtd gfl grd gnv gac gla gne grc gim) sz) := by
  refine Met.ofW (cc := cX13_spanOf) (maxL := 4) (ret := (some .int)) (by decide) rfl ?_
  intro p e s m aa below meth c s₁ B hml hv
  obtain ⟨haa, hsz, hP, hK, hD0⟩ := hv
  have hx := B.exec
  have hb := B.bytes
  have hr := B.returns
  have hts := atoms_spec (ws := wsX13_spanOf) B.pre
  have hown : s.vm.findClass RX13 = some m.cls := findClass_of_methodNamed B.named
  have hlocks := B.notSynchronized
  subst hsz
  have hD := hD0.self (sz := s.heap.size)
  obtain ⟨qq, hqq⟩ : ∃ qq, qq = (va_Qi (fun (r : Int32) (u : ((Nat → Int32))) => r = R0.1 ∧ u = R0.2) (fun (u : ((Nat → Int32))) t => poC dC dI cy (w_X13_spanOf cy a0 gth gvm gtd gfl grd gnv gac gla u grc gim) t) (va_A (w_X13_spanOf cy a0 gth gvm gtd gfl grd gnv gac gla gne grc gim) s.heap.size)) := ⟨_, rfl⟩
  rw [← hqq]
  generalize hAe : va_A (w_X13_spanOf cy a0 gth gvm gtd gfl grd gnv gac gla gne grc gim) s.heap.size = A at hD hqq ⊢
  have hA : ∀ q : Nat, s.heap.size ≤ q → A q := fun q h => by rw [← hAe]; exact Or.inr h
  have hS : va_S A s.heap s.heap [] := va_S.rf
  have hl := lv_entry ([.ref (a0 0), .int x1, .int x2, .int x3]) (n := 4) (Nat.le_of_ble_eq_true rfl)
  have hE : entryFrame m aa 4 = F0 m 0 ((lg_sl ([.ref (a0 0), .int x1, .int x2, .int x3]) ++ List.replicate (4 - (lg_sl ([.ref (a0 0), .int x1, .int x2, .int x3])).length) Slot.unset).toArray) [] := by rw [haa]; exact lg_entry_eq m _ 4
  refine W.eq hE ?_
  generalize (lg_sl ([.ref (a0 0), .int x1, .int x2, .int x3]) ++ List.replicate (4 - (lg_sl ([.ref (a0 0), .int x1, .int x2, .int x3])).length) Slot.unset).toArray = ls at hl ⊢
  have hl : lv_has ls 4 [(0, .ref (a0 0)), (1, .int x1), (2, .int x2), (3, .int x3)] := hl
  change W p l e rm_X13_spanOf s m aa below meth c s.heap [] 0 0 (MQ below qq aa s 0 0 A) (F0 m 0 ls [])
  have hS0 := hS
  obtain ⟨H, hH⟩ : ∃ H : Heap, H = s.heap := ⟨_, rfl⟩
  obtain ⟨locs, hlocs⟩ : ∃ locs : List Loc, locs = [] := ⟨_, rfl⟩
  have hS : va_S A s.heap H locs := by rw [hH, hlocs]; exact hS
  rw [← hH] at hP
  suffices hg : W p l e rm_X13_spanOf s m aa below meth c H locs 0 0 (MQ below qq aa s 0 0 A) (F0 m 0 ls []) by subst hH; subst hlocs; exact hg
  unfold p_X13_spanOf at h
  refine lv_aload_n hx hb dX13_spanOf_0 rfl (lv_at hl 0 rfl) ?_
  refine lv_iload_n hx hb dX13_spanOf_1 rfl (lv_at hl 1 rfl) ?_
  obtain ⟨v1, hv2, h⟩ := ok_bind h
  refine cl_vv (w2 := fun (u : ((Nat → Int32))) => w_X13_spanOf cy a0 gth gvm gtd gfl grd gnv gac gla u grc gim) (As := [.int x1]) (rest := []) ⟨hx, hb, hml, hown, hts⟩ (c_X13_netsOf l dC dI cy a0 gth gvm gtd gfl grd gnv gac gla gne grc gim x1 H.size v1 hv2) (cwV 1 hts gX13_spanOf_X13_netsOf rfl rfl rfl (by decide +kernel) ⟨Nat.le_of_ble_eq_true rfl, Nat.le_of_ble_eq_true rfl⟩) (va_recv hK hP (ci := 11) (q0 := 0) rfl rfl) cl_blind (cl_pre hK hP hD [0, 1, 2, 3, 4, 5, 6, 7, 8, 9, 10, 11] (by decide) rfl) hP hD hS hA [0, 1, 2, 3, 4, 5, 6, 7, 8, 9, 10, 11] rfl rfl hl.1 rfl (lv_room (Nat.le_of_ble_eq_true rfl)) dX13_spanOf_2 ⟨Nat.le_of_ble_eq_true rfl, Nat.le_of_ble_eq_true rfl⟩ ⟨rfl, rfl⟩ (fun _ => updM [0, 1, 2, 3, 4, 5, 6, 7, 8, 9, 10, 11] [] [] 12 rfl rfl rfl rfl rfl (by decide +kernel) (by decide +kernel) rfl) (fun u H locs hw hP hD hS => ?_)
  have hw := hw.symm
  subst hw
  have hP : va_P (dC, dI) vwCl (w_X13_spanOf cy a0 gth gvm gtd gfl grd gnv gac gla v1 grc gim) H := hP
  have hD : va_D A (w_X13_spanOf cy a0 gth gvm gtd gfl grd gnv gac gla v1 grc gim) := hD
  refine lv_aload_n hx hb dX13_spanOf_5 rfl (lv_at hl 0 rfl) ?_
  refine lv_iload_n hx hb dX13_spanOf_6 rfl (lv_at hl 2 rfl) ?_
  refine lv_iload_n hx hb dX13_spanOf_7 rfl (lv_at hl 3 rfl) ?_
  obtain ⟨v3, hv4, h⟩ := ok_bind h
  refine cl_vi (w2 := fun (_ : Unit) => w_X13_spanOf cy a0 gth gvm gtd gfl grd gnv gac gla v1 grc gim) (As := [.int x2, .int x3]) (rest := []) ⟨hx, hb, hml, hown, hts⟩ (c_X13_spread l dC dI cy a0 gth gvm gtd gfl grd gnv gac v1 grc gim x2 x3 H.size v3 hv4) (cwV 2 hts gX13_spanOf_X13_spread rfl rfl rfl (by decide +kernel) ⟨Nat.le_of_ble_eq_true rfl, Nat.le_of_ble_eq_true rfl⟩) (va_recv hK hP (ci := 11) (q0 := 0) rfl rfl) cl_blind (cl_pre hK hP hD [0, 11] (by decide) rfl) hP hD hS hA [0, 11] rfl rfl hl.1 rfl (lv_room (Nat.le_of_ble_eq_true rfl)) dX13_spanOf_8 ⟨Nat.le_of_ble_eq_true rfl, Nat.le_of_ble_eq_true rfl⟩ ⟨rfl, rfl⟩ (fun _ => updR [0, 11] rfl) (fun r u H locs hw hP hD hS => ?_)
  have hw := hw.symm
  subst hw
  have hP : va_P (dC, dI) vwCl (w_X13_spanOf cy a0 gth gvm gtd gfl grd gnv gac gla v1 grc gim) H := hP
  have hD : va_D A (w_X13_spanOf cy a0 gth gvm gtd gfl grd gnv gac gla v1 grc gim) := hD
  exact W.iret (v := v3) hx hb hr (fun t ht hW => by rw [hqq]; have hh := Option.some.inj h; exact ⟨⟨v3, (v1), rfl, ⟨fst_of hh, snd_of hh⟩, by rw [ht]; exact hP, va_K.moved hW.alike hK⟩, hS.F ht⟩) hS.2.2 dX13_spanOf_11

abbrev w_X13_span (cy : Nat → ClassId) (a0 : Nat → Nat) (gth : Int32) (gvm : Int32 × Int32 × Int32 × (Nat → Int32) × (Nat → Int32) × (Nat → Int32) × (Nat → Int32) × (Nat → Int32) × (Nat → Int32) × (Nat → Int32) × (Nat → Int32) × (Nat → Int32)) (gtd : Int32) (gfl : Int32 × Int32) (grd : Int32 × Int32 × Int32 × Int32 × Int32 × Int32 × Int64 × (Nat → Int32)) (gnv : Int32 × Int32 × Int32 × Int32 × Int32 × (Nat → Int32) × (Nat → Int32) × (Nat → Int32) × (Nat → Int32) × (Nat → Int32) × (Nat → Int32)) (gac : Int32 × (Nat → Int32) × (Nat → Int32)) (gla : (Nat → Int32)) (gne : (Nat → Int32)) (grc : Int32 × (Nat → Int32)) (gim : Int32 × Int32 × Int32 × (Nat → Int32) × (Nat → Int32) × (Nat → Int32) × (Nat → Int32) × (Nat → Int32) × (Nat → Int32) × (Nat → Int32) × (Nat → Int32) × (Nat → Int32)) : va_W := [(a0 0, .inr (11, [.int (gth), .int (gvm.1), .int (gvm.2.1), .int (gvm.2.2.1), .ref (a0 1), .ref (a0 2), .ref (a0 3), .ref (a0 4), .ref (a0 5), .ref (a0 6), .ref (a0 7), .ref (a0 8), .ref (a0 9), .ref (a0 10), .int (gtd), .int (gfl.1), .int (gfl.2), .ref (a0 11), .int (grd.1), .int (grd.2.1), .int (grd.2.2.1), .int (grd.2.2.2.1), .int (grd.2.2.2.2.1), .int (grd.2.2.2.2.2.1), .long (grd.2.2.2.2.2.2.1), .ref (a0 12), .int (gnv.1), .int (gnv.2.1), .int (gnv.2.2.1), .int (gnv.2.2.2.1), .int (gnv.2.2.2.2.1), .ref (a0 13), .ref (a0 14), .ref (a0 15), .ref (a0 16), .ref (a0 17), .ref (a0 18), .int (gac.1), .ref (a0 19), .ref (a0 20), .ref (a0 21), .ref (a0 22), .ref (a0 23), .ref (a0 24), .ref (a0 25), .ref (a0 26), .ref (a0 27), .int (grc.1), .ref (a0 28), .ref (a0 29), .ref (a0 30), .ref (a0 31), .int (gim.1), .int (gim.2.1), .int (gim.2.2.1), .ref (a0 32), .ref (a0 33), .ref (a0 34), .ref (a0 35), .ref (a0 36), .ref (a0 37), .ref (a0 38), .ref (a0 39), .ref (a0 40)])), (a0 1, .inl (cy 1, 5, .inl (gvm.2.2.2.1))), (a0 2, .inl (cy 1, 5, .inl (gvm.2.2.2.2.1))), (a0 3, .inl (cy 1, 5, .inl (gvm.2.2.2.2.2.1))), (a0 4, .inl (cy 1, 25, .inl (gvm.2.2.2.2.2.2.1))), (a0 5, .inl (cy 1, 10, .inl (gvm.2.2.2.2.2.2.2.1))), (a0 6, .inl (cy 1, 10, .inl (gvm.2.2.2.2.2.2.2.2.1))), (a0 7, .inl (cy 1, 10, .inl (gvm.2.2.2.2.2.2.2.2.2.1))), (a0 8, .inl (cy 1, 10, .inl (gvm.2.2.2.2.2.2.2.2.2.2.1))), (a0 9, .inl (cy 1, 50, .inl (gvm.2.2.2.2.2.2.2.2.2.2.2))), (a0 21, .inl (cy 1, 620, .inl (gla))), (a0 22, .inl (cy 1, 41, .inl (gne)))]
abbrev rm_X13_span : Room := { frames := 4, cells := 0, slots := 0, locals := 91 }
set_option maxHeartbeats 1000000 in
set_option maxRecDepth 100000 in
theorem c_X13_span (l : Launch) (dC : Nat → ClassId) (dI : Nat → Nat → Nat) (cy : Nat → ClassId) (a0 : Nat → Nat) (gth : Int32) (gvm : Int32 × Int32 × Int32 × (Nat → Int32) × (Nat → Int32) × (Nat → Int32) × (Nat → Int32) × (Nat → Int32) × (Nat → Int32) × (Nat → Int32) × (Nat → Int32) × (Nat → Int32)) (gtd : Int32) (gfl : Int32 × Int32) (grd : Int32 × Int32 × Int32 × Int32 × Int32 × Int32 × Int64 × (Nat → Int32)) (gnv : Int32 × Int32 × Int32 × Int32 × Int32 × (Nat → Int32) × (Nat → Int32) × (Nat → Int32) × (Nat → Int32) × (Nat → Int32) × (Nat → Int32)) (gac : Int32 × (Nat → Int32) × (Nat → Int32)) (gla : (Nat → Int32)) (gne : (Nat → Int32)) (grc : Int32 × (Nat → Int32)) (gim : Int32 × Int32 × Int32 × (Nat → Int32) × (Nat → Int32) × (Nat → Int32) × (Nat → Int32) × (Nat → Int32) × (Nat → Int32) × (Nat → Int32) × (Nat → Int32) × (Nat → Int32)) (x1 : Int32) (x2 : Int32) (x3 : Int32) (sz : Nat) (R0 : Int32 × (Int32) × ((Nat → Int32)) × ((Nat → Int32))) (h : p_X13_span gth gvm gla gne x1 x2 x3 = some R0) : Met l yX13_span wsX13_span rm_X13_span (va_Pc [.ref (a0 0), .int x1, .int x2, .int x3] (prC dC dI cy (w_X13_span cy a0 gth gvm gtd gfl grd gnv gac gla gne grc gim) sz)) (va_Qi (fun (r : Int32) (u : (Int32) × ((Nat → Int32)) × ((Nat → Int32))) => r = R0.1 ∧ u = R0.2) (fun (u : (Int32) × ((Nat → Int32)) × ((Nat → Int32))) t => poC dC dI cy (w_X13_span cy a0 u.1 gvm gtd gfl grd gnv gac u.2.1 u.2.2 grc gim) t) (va_A (w_X13_span cy a0 gth gvm gtd gfl grd gnv gac gla gne grc gim) sz)) 0 0 (va_A (w_X13_span cy a0 gth gvm gtd gfl grd gnv gac gla gne grc gim) sz) := by
  refine Met.ofW (cc := cX13_span) (maxL := 4) (ret := (some .int)) (by decide) rfl ?_
  intro p e s m aa below meth c s₁ B hml hv
  obtain ⟨haa, hsz, hP, hK, hD0⟩ := hv
  have hx := B.exec
  have hb := B.bytes
  have hr := B.returns
  have hts := atoms_spec (ws := wsX13_span) B.pre
  have hown : s.vm.findClass RX13 = some m.cls := findClass_of_methodNamed B.named
  have hlocks := B.notSynchronized
  subst hsz
  have hD := hD0.self (sz := s.heap.size)
  obtain ⟨qq, hqq⟩ : ∃ qq, qq = (va_Qi (fun (r : Int32) (u : (Int32) × ((Nat → Int32)) × ((Nat → Int32))) => r = R0.1 ∧ u = R0.2) (fun (u : (Int32) × ((Nat → Int32)) × ((Nat → Int32))) t => poC dC dI cy (w_X13_span cy a0 u.1 gvm gtd gfl grd gnv gac u.2.1 u.2.2 grc gim) t) (va_A (w_X13_span cy a0 gth gvm gtd gfl grd gnv gac gla gne grc gim) s.heap.size)) := ⟨_, rfl⟩
  rw [← hqq]
  generalize hAe : va_A (w_X13_span cy a0 gth gvm gtd gfl grd gnv gac gla gne grc gim) s.heap.size = A at hD hqq ⊢
  have hA : ∀ q : Nat, s.heap.size ≤ q → A q := fun q h => by rw [← hAe]; exact Or.inr h
  have hS : va_S A s.heap s.heap [] := va_S.rf
  have hl := lv_entry ([.ref (a0 0), .int x1, .int x2, .int x3]) (n := 4) (Nat.le_of_ble_eq_true rfl)
  have hE : entryFrame m aa 4 = F0 m 0 ((lg_sl ([.ref (a0 0), .int x1, .int x2, .int x3]) ++ List.replicate (4 - (lg_sl ([.ref (a0 0), .int x1, .int x2, .int x3])).length) Slot.unset).toArray) [] := by rw [haa]; exact lg_entry_eq m _ 4
  refine W.eq hE ?_
  generalize (lg_sl ([.ref (a0 0), .int x1, .int x2, .int x3]) ++ List.replicate (4 - (lg_sl ([.ref (a0 0), .int x1, .int x2, .int x3])).length) Slot.unset).toArray = ls at hl ⊢
  have hl : lv_has ls 4 [(0, .ref (a0 0)), (1, .int x1), (2, .int x2), (3, .int x3)] := hl
  change W p l e rm_X13_span s m aa below meth c s.heap [] 0 0 (MQ below qq aa s 0 0 A) (F0 m 0 ls [])
  have hS0 := hS
  have lk0 := hts (.fieldLink RX13 135 "GoatDoorsModel" "thrown" "I") (by decide +kernel)
  have in_X13 : ∀ w ∈ wsX130, w ∈ wsX13_span := by decide +kernel
  obtain ⟨H, hH⟩ : ∃ H : Heap, H = s.heap := ⟨_, rfl⟩
  obtain ⟨locs, hlocs⟩ : ∃ locs : List Loc, locs = [] := ⟨_, rfl⟩
  have hS : va_S A s.heap H locs := by rw [hH, hlocs]; exact hS
  rw [← hH] at hP
  suffices hg : W p l e rm_X13_span s m aa below meth c H locs 0 0 (MQ below qq aa s 0 0 A) (F0 m 0 ls []) by subst hH; subst hlocs; exact hg
  unfold p_X13_span at h
  refine lv_aload_n hx hb dX13_span_0 rfl (lv_at hl 0 rfl) ?_
  refine lv_iconst (v := (0 : Int32)) hx hb dX13_span_1 (by decide) ?_
  refine va_put (D := (dC, dI)) (ci := 11) (v := .int (0 : Int32)) (ty := .int) (C := RX13) (T := TX13) (N := 64) hx hb hts in_X13 tyX13 tyX13_ok nmX13 hown hK hP hD hS 0 rfl rfl 0 (by decide) lk0 (fun _ h9 => h9) rfl (by decide +kernel) rfl rfl (Nat.le_of_ble_eq_true rfl) dX13_span_2 (fun H locs hP hD hS => ?_)
  have hP : va_P (dC, dI) vwCl (w_X13_span cy a0 ((0 : Int32)) gvm gtd gfl grd gnv gac gla gne grc gim) H := hP
  have hD : va_D A (w_X13_span cy a0 ((0 : Int32)) gvm gtd gfl grd gnv gac gla gne grc gim) := hD
  refine lv_aload_n hx hb dX13_span_5 rfl (lv_at hl 0 rfl) ?_
  refine lv_iload_n hx hb dX13_span_6 rfl (lv_at hl 1 rfl) ?_
  obtain ⟨v1, hv2, h⟩ := ok_bind h
  refine cl_vi (w2 := fun (u : (Int32)) => w_X13_span cy a0 u gvm gtd gfl grd gnv gac gla gne grc gim) (As := [.int x1]) (rest := []) ⟨hx, hb, hml, hown, hts⟩ (c_X13_isOwner l dC dI cy a0 (0 : Int32) gvm gtd gfl grd gnv gac grc gim x1 H.size v1 hv2) (cwV 1 hts gX13_span_X13_isOwner rfl rfl rfl (by decide +kernel) ⟨Nat.le_of_ble_eq_true rfl, Nat.le_of_ble_eq_true rfl⟩) (va_recv hK hP (ci := 11) (q0 := 0) rfl rfl) cl_blind (cl_pre hK hP hD [0, 1, 2, 3, 4, 5, 6, 7, 8, 9] (by decide) rfl) hP hD hS hA [0, 1, 2, 3, 4, 5, 6, 7, 8, 9] rfl rfl hl.1 rfl (lv_room (Nat.le_of_ble_eq_true rfl)) dX13_span_7 ⟨Nat.le_of_ble_eq_true rfl, Nat.le_of_ble_eq_true rfl⟩ ⟨rfl, rfl⟩ (fun _ => updM [0, 1, 2, 3, 4, 5, 6, 7, 8, 9] [10, 11] [(a0 21, .inl (cy 1, 620, .inl (gla))), (a0 22, .inl (cy 1, 41, .inl (gne)))] 12 rfl rfl rfl rfl rfl (by decide +kernel) (by decide +kernel) rfl) (fun r u H locs hw hP hD hS => ?_)
  obtain ⟨rfl, rfl⟩ := hw
  have hP : va_P (dC, dI) vwCl (w_X13_span cy a0 v1.2 gvm gtd gfl grd gnv gac gla gne grc gim) H := hP
  have hD : va_D A (w_X13_span cy a0 v1.2 gvm gtd gfl grd gnv gac gla gne grc gim) := hD
  refine lv_if_eq (tgt := 23) hx hb dX13_span_10 (by decide) (fun c3 => ?_) (fun c3 => ?_)
  · rw [if_pos c3] at h
    refine lv_iconst (v := (0 : Int32)) hx hb dX13_span_23 (by decide) ?_
    exact W.iret (v := (0 : Int32)) hx hb hr (fun t ht hW => by rw [hqq]; have hh := Option.some.inj h; exact ⟨⟨(0 : Int32), ((v1.2, gla, gne)), rfl, ⟨fst_of hh, snd_of hh⟩, by rw [ht]; exact hP, va_K.moved hW.alike hK⟩, hS.F ht⟩) hS.2.2 dX13_span_24
  · rw [if_neg c3] at h
    refine lv_aload_n hx hb dX13_span_13 rfl (lv_at hl 0 rfl) ?_
    refine lv_iload_n hx hb dX13_span_14 rfl (lv_at hl 2 rfl) ?_
    refine lv_iload_n hx hb dX13_span_15 rfl (lv_at hl 3 rfl) ?_
    refine lv_iconst (v := (2 : Int32)) hx hb dX13_span_16 (by decide) ?_
    obtain ⟨v4, hv5, h⟩ := ok_bind h
    refine cl_vi (w2 := fun (u : (Int32)) => w_X13_span cy a0 u gvm gtd gfl grd gnv gac gla gne grc gim) (As := [.int x2, .int x3, .int (2 : Int32)]) (rest := []) ⟨hx, hb, hml, hown, hts⟩ (c_X13_isSpan l dC dI cy a0 v1.2 gvm gtd gfl grd gnv gac grc gim x2 x3 (2 : Int32) H.size v4 hv5) (cwV 3 hts gX13_span_X13_isSpan rfl rfl rfl (by decide +kernel) ⟨Nat.le_of_ble_eq_true rfl, Nat.le_of_ble_eq_true rfl⟩) (va_recv hK hP (ci := 11) (q0 := 0) rfl rfl) cl_blind (cl_pre hK hP hD [0] (by decide) rfl) hP hD hS hA [0] rfl rfl hl.1 rfl (lv_room (Nat.le_of_ble_eq_true rfl)) dX13_span_17 ⟨Nat.le_of_ble_eq_true rfl, Nat.le_of_ble_eq_true rfl⟩ ⟨rfl, rfl⟩ (fun _ => updM [0] [1, 2, 3, 4, 5, 6, 7, 8, 9, 10, 11] [(a0 1, .inl (cy 1, 5, .inl (gvm.2.2.2.1))), (a0 2, .inl (cy 1, 5, .inl (gvm.2.2.2.2.1))), (a0 3, .inl (cy 1, 5, .inl (gvm.2.2.2.2.2.1))), (a0 4, .inl (cy 1, 25, .inl (gvm.2.2.2.2.2.2.1))), (a0 5, .inl (cy 1, 10, .inl (gvm.2.2.2.2.2.2.2.1))), (a0 6, .inl (cy 1, 10, .inl (gvm.2.2.2.2.2.2.2.2.1))), (a0 7, .inl (cy 1, 10, .inl (gvm.2.2.2.2.2.2.2.2.2.1))), (a0 8, .inl (cy 1, 10, .inl (gvm.2.2.2.2.2.2.2.2.2.2.1))), (a0 9, .inl (cy 1, 50, .inl (gvm.2.2.2.2.2.2.2.2.2.2.2))), (a0 21, .inl (cy 1, 620, .inl (gla))), (a0 22, .inl (cy 1, 41, .inl (gne)))] 12 rfl rfl rfl rfl rfl (by decide +kernel) (by decide +kernel) rfl) (fun r u H locs hw hP hD hS => ?_)
    obtain ⟨rfl, rfl⟩ := hw
    have hP : va_P (dC, dI) vwCl (w_X13_span cy a0 v4.2 gvm gtd gfl grd gnv gac gla gne grc gim) H := hP
    have hD : va_D A (w_X13_span cy a0 v4.2 gvm gtd gfl grd gnv gac gla gne grc gim) := hD
    refine lv_if_ne (tgt := 25) hx hb dX13_span_20 (by decide) (fun c6 => ?_) (fun c6 => ?_)
    · rw [if_neg c6] at h
      refine lv_aload_n hx hb dX13_span_25 rfl (lv_at hl 0 rfl) ?_
      obtain ⟨v7, hv8, h⟩ := ok_bind h
      refine cl_vv (w2 := fun (u : ((Nat → Int32))) => w_X13_span cy a0 v4.2 gvm gtd gfl grd gnv gac u gne grc gim) (As := []) (rest := []) ⟨hx, hb, hml, hown, hts⟩ (c_X13_lay l dC dI cy a0 v4.2 gvm gtd gfl grd gnv gac gla grc gim H.size v7 hv8) (cwV 0 hts gX13_span_X13_lay rfl rfl rfl (by decide +kernel) ⟨Nat.le_of_ble_eq_true rfl, Nat.le_of_ble_eq_true rfl⟩) (va_recv hK hP (ci := 11) (q0 := 0) rfl rfl) cl_blind (cl_pre hK hP hD [0, 1, 2, 3, 4, 5, 6, 7, 8, 9, 10] (by decide) rfl) hP hD hS hA [0, 1, 2, 3, 4, 5, 6, 7, 8, 9, 10] rfl rfl hl.1 rfl (lv_room (Nat.le_of_ble_eq_true rfl)) dX13_span_26 ⟨Nat.le_of_ble_eq_true rfl, Nat.le_of_ble_eq_true rfl⟩ ⟨rfl, rfl⟩ (fun _ => updM [0, 1, 2, 3, 4, 5, 6, 7, 8, 9, 10] [11] [(a0 22, .inl (cy 1, 41, .inl (gne)))] 12 rfl rfl rfl rfl rfl (by decide +kernel) (by decide +kernel) rfl) (fun u H locs hw hP hD hS => ?_)
      have hw := hw.symm
      subst hw
      have hP : va_P (dC, dI) vwCl (w_X13_span cy a0 v4.2 gvm gtd gfl grd gnv gac v7 gne grc gim) H := hP
      have hD : va_D A (w_X13_span cy a0 v4.2 gvm gtd gfl grd gnv gac v7 gne grc gim) := hD
      refine lv_aload_n hx hb dX13_span_29 rfl (lv_at hl 0 rfl) ?_
      refine lv_iload_n hx hb dX13_span_30 rfl (lv_at hl 1 rfl) ?_
      refine lv_iload_n hx hb dX13_span_31 rfl (lv_at hl 2 rfl) ?_
      refine lv_iload_n hx hb dX13_span_32 rfl (lv_at hl 3 rfl) ?_
      obtain ⟨v9, hv10, h⟩ := ok_bind h
      refine cl_vi (w2 := fun (u : ((Nat → Int32))) => w_X13_span cy a0 v4.2 gvm gtd gfl grd gnv gac v7 u grc gim) (As := [.int x1, .int x2, .int x3]) (rest := []) ⟨hx, hb, hml, hown, hts⟩ (c_X13_spanOf l dC dI cy a0 v4.2 gvm gtd gfl grd gnv gac v7 gne grc gim x1 x2 x3 H.size v9 hv10) (cwV 3 hts gX13_span_X13_spanOf rfl rfl rfl (by decide +kernel) ⟨Nat.le_of_ble_eq_true rfl, Nat.le_of_ble_eq_true rfl⟩) (va_recv hK hP (ci := 11) (q0 := 0) rfl rfl) cl_blind (cl_pre hK hP hD [0, 1, 2, 3, 4, 5, 6, 7, 8, 9, 10, 11] (by decide) rfl) hP hD hS hA [0, 1, 2, 3, 4, 5, 6, 7, 8, 9, 10, 11] rfl rfl hl.1 rfl (lv_room (Nat.le_of_ble_eq_true rfl)) dX13_span_33 ⟨Nat.le_of_ble_eq_true rfl, Nat.le_of_ble_eq_true rfl⟩ ⟨rfl, rfl⟩ (fun _ => updM [0, 1, 2, 3, 4, 5, 6, 7, 8, 9, 10, 11] [] [] 12 rfl rfl rfl rfl rfl (by decide +kernel) (by decide +kernel) rfl) (fun r u H locs hw hP hD hS => ?_)
      obtain ⟨rfl, rfl⟩ := hw
      have hP : va_P (dC, dI) vwCl (w_X13_span cy a0 v4.2 gvm gtd gfl grd gnv gac v7 v9.2 grc gim) H := hP
      have hD : va_D A (w_X13_span cy a0 v4.2 gvm gtd gfl grd gnv gac v7 v9.2 grc gim) := hD
      exact W.iret (v := v9.1) hx hb hr (fun t ht hW => by rw [hqq]; have hh := Option.some.inj h; exact ⟨⟨v9.1, ((v4.2, v7, v9.2)), rfl, ⟨fst_of hh, snd_of hh⟩, by rw [ht]; exact hP, va_K.moved hW.alike hK⟩, hS.F ht⟩) hS.2.2 dX13_span_36
    · rw [if_pos c6] at h
      refine lv_iconst (v := (0 : Int32)) hx hb dX13_span_23 (by decide) ?_
      exact W.iret (v := (0 : Int32)) hx hb hr (fun t ht hW => by rw [hqq]; have hh := Option.some.inj h; exact ⟨⟨(0 : Int32), ((v4.2, gla, gne)), rfl, ⟨fst_of hh, snd_of hh⟩, by rw [ht]; exact hP, va_K.moved hW.alike hK⟩, hS.F ht⟩) hS.2.2 dX13_span_24

abbrev w_X13_most (cy : Nat → ClassId) (a0 : Nat → Nat) (gth : Int32) (gvm : Int32 × Int32 × Int32 × (Nat → Int32) × (Nat → Int32) × (Nat → Int32) × (Nat → Int32) × (Nat → Int32) × (Nat → Int32) × (Nat → Int32) × (Nat → Int32) × (Nat → Int32)) (gtd : Int32) (gfl : Int32 × Int32) (grd : Int32 × Int32 × Int32 × Int32 × Int32 × Int32 × Int64 × (Nat → Int32)) (gnv : Int32 × Int32 × Int32 × Int32 × Int32 × (Nat → Int32) × (Nat → Int32) × (Nat → Int32) × (Nat → Int32) × (Nat → Int32) × (Nat → Int32)) (gac : Int32 × (Nat → Int32) × (Nat → Int32)) (grc : Int32 × (Nat → Int32)) (gim : Int32 × Int32 × Int32 × (Nat → Int32) × (Nat → Int32) × (Nat → Int32) × (Nat → Int32) × (Nat → Int32) × (Nat → Int32) × (Nat → Int32) × (Nat → Int32) × (Nat → Int32)) : va_W := [(a0 0, .inr (11, [.int (gth), .int (gvm.1), .int (gvm.2.1), .int (gvm.2.2.1), .ref (a0 1), .ref (a0 2), .ref (a0 3), .ref (a0 4), .ref (a0 5), .ref (a0 6), .ref (a0 7), .ref (a0 8), .ref (a0 9), .ref (a0 10), .int (gtd), .int (gfl.1), .int (gfl.2), .ref (a0 11), .int (grd.1), .int (grd.2.1), .int (grd.2.2.1), .int (grd.2.2.2.1), .int (grd.2.2.2.2.1), .int (grd.2.2.2.2.2.1), .long (grd.2.2.2.2.2.2.1), .ref (a0 12), .int (gnv.1), .int (gnv.2.1), .int (gnv.2.2.1), .int (gnv.2.2.2.1), .int (gnv.2.2.2.2.1), .ref (a0 13), .ref (a0 14), .ref (a0 15), .ref (a0 16), .ref (a0 17), .ref (a0 18), .int (gac.1), .ref (a0 19), .ref (a0 20), .ref (a0 21), .ref (a0 22), .ref (a0 23), .ref (a0 24), .ref (a0 25), .ref (a0 26), .ref (a0 27), .int (grc.1), .ref (a0 28), .ref (a0 29), .ref (a0 30), .ref (a0 31), .int (gim.1), .int (gim.2.1), .int (gim.2.2.1), .ref (a0 32), .ref (a0 33), .ref (a0 34), .ref (a0 35), .ref (a0 36), .ref (a0 37), .ref (a0 38), .ref (a0 39), .ref (a0 40)])), (a0 1, .inl (cy 1, 5, .inl (gvm.2.2.2.1))), (a0 2, .inl (cy 1, 5, .inl (gvm.2.2.2.2.1))), (a0 3, .inl (cy 1, 5, .inl (gvm.2.2.2.2.2.1))), (a0 4, .inl (cy 1, 25, .inl (gvm.2.2.2.2.2.2.1))), (a0 5, .inl (cy 1, 10, .inl (gvm.2.2.2.2.2.2.2.1))), (a0 6, .inl (cy 1, 10, .inl (gvm.2.2.2.2.2.2.2.2.1))), (a0 7, .inl (cy 1, 10, .inl (gvm.2.2.2.2.2.2.2.2.2.1))), (a0 8, .inl (cy 1, 10, .inl (gvm.2.2.2.2.2.2.2.2.2.2.1))), (a0 9, .inl (cy 1, 50, .inl (gvm.2.2.2.2.2.2.2.2.2.2.2)))]
abbrev rm_X13_most : Room := { frames := 0, cells := 0, slots := 0, locals := 0 }
set_option maxHeartbeats 1000000 in
set_option maxRecDepth 100000 in
theorem c_X13_most (l : Launch) (dC : Nat → ClassId) (dI : Nat → Nat → Nat) (cy : Nat → ClassId) (a0 : Nat → Nat) (gth : Int32) (gvm : Int32 × Int32 × Int32 × (Nat → Int32) × (Nat → Int32) × (Nat → Int32) × (Nat → Int32) × (Nat → Int32) × (Nat → Int32) × (Nat → Int32) × (Nat → Int32) × (Nat → Int32)) (gtd : Int32) (gfl : Int32 × Int32) (grd : Int32 × Int32 × Int32 × Int32 × Int32 × Int32 × Int64 × (Nat → Int32)) (gnv : Int32 × Int32 × Int32 × Int32 × Int32 × (Nat → Int32) × (Nat → Int32) × (Nat → Int32) × (Nat → Int32) × (Nat → Int32) × (Nat → Int32)) (gac : Int32 × (Nat → Int32) × (Nat → Int32)) (grc : Int32 × (Nat → Int32)) (gim : Int32 × Int32 × Int32 × (Nat → Int32) × (Nat → Int32) × (Nat → Int32) × (Nat → Int32) × (Nat → Int32) × (Nat → Int32) × (Nat → Int32) × (Nat → Int32) × (Nat → Int32)) (x1 : Int32) (sz : Nat) (R0 : Int32) (h : p_X13_most gvm x1 = some R0) : Met l yX13_most wsX13_most rm_X13_most (va_Pc [.ref (a0 0), .int x1] (prC dC dI cy (w_X13_most cy a0 gth gvm gtd gfl grd gnv gac grc gim) sz)) (va_Qi (fun (r : Int32) (_ : Unit) => r = R0) (fun (_ : Unit) t => poC dC dI cy (w_X13_most cy a0 gth gvm gtd gfl grd gnv gac grc gim) t) (va_A (w_X13_most cy a0 gth gvm gtd gfl grd gnv gac grc gim) sz)) 0 0 (va_A (w_X13_most cy a0 gth gvm gtd gfl grd gnv gac grc gim) sz) := by
  refine Met.ofW (cc := cX13_most) (maxL := 2) (ret := (some .int)) (by decide) rfl ?_
  intro p e s m aa below meth c s₁ B hml hv
  obtain ⟨haa, hsz, hP, hK, hD0⟩ := hv
  have hx := B.exec
  have hb := B.bytes
  have hr := B.returns
  have hts := atoms_spec (ws := wsX13_most) B.pre
  have hown : s.vm.findClass RX13 = some m.cls := findClass_of_methodNamed B.named
  have hlocks := B.notSynchronized
  subst hsz
  have hD := hD0.self (sz := s.heap.size)
  obtain ⟨qq, hqq⟩ : ∃ qq, qq = (va_Qi (fun (r : Int32) (_ : Unit) => r = R0) (fun (_ : Unit) t => poC dC dI cy (w_X13_most cy a0 gth gvm gtd gfl grd gnv gac grc gim) t) (va_A (w_X13_most cy a0 gth gvm gtd gfl grd gnv gac grc gim) s.heap.size)) := ⟨_, rfl⟩
  rw [← hqq]
  generalize hAe : va_A (w_X13_most cy a0 gth gvm gtd gfl grd gnv gac grc gim) s.heap.size = A at hD hqq ⊢
  have hA : ∀ q : Nat, s.heap.size ≤ q → A q := fun q h => by rw [← hAe]; exact Or.inr h
  have hS : va_S A s.heap s.heap [] := va_S.rf
  have hl := lv_entry ([.ref (a0 0), .int x1]) (n := 2) (Nat.le_of_ble_eq_true rfl)
  have hE : entryFrame m aa 2 = F0 m 0 ((lg_sl ([.ref (a0 0), .int x1]) ++ List.replicate (2 - (lg_sl ([.ref (a0 0), .int x1])).length) Slot.unset).toArray) [] := by rw [haa]; exact lg_entry_eq m _ 2
  refine W.eq hE ?_
  generalize (lg_sl ([.ref (a0 0), .int x1]) ++ List.replicate (2 - (lg_sl ([.ref (a0 0), .int x1])).length) Slot.unset).toArray = ls at hl ⊢
  have hl : lv_has ls 2 [(0, .ref (a0 0)), (1, .int x1)] := hl
  change W p l e rm_X13_most s m aa below meth c s.heap [] 0 0 (MQ below qq aa s 0 0 A) (F0 m 0 ls [])
  have hS0 := hS
  have lk0 := hts (.fieldLink RX13 13 "GoatDoorsModel" "can" "[I") (by decide +kernel)
  have lk1 := hts (.fieldLink RX13 7 "GoatDoorsModel" "goats" "[I") (by decide +kernel)
  have in_X13 : ∀ w ∈ wsX130, w ∈ wsX13_most := by decide +kernel
  obtain ⟨H, hH⟩ : ∃ H : Heap, H = s.heap := ⟨_, rfl⟩
  obtain ⟨locs, hlocs⟩ : ∃ locs : List Loc, locs = [] := ⟨_, rfl⟩
  have hS : va_S A s.heap H locs := by rw [hH, hlocs]; exact hS
  rw [← hH] at hP
  suffices hg : W p l e rm_X13_most s m aa below meth c H locs 0 0 (MQ below qq aa s 0 0 A) (F0 m 0 ls []) by subst hH; subst hlocs; exact hg
  unfold p_X13_most at h
  refine lv_aload_n hx hb dX13_most_0 rfl (lv_at hl 0 rfl) ?_
  refine va_get (D := (dC, dI)) (ci := 11) (v := .ref (a0 2)) (C := RX13) (T := TX13) (N := 64) hx hb hts in_X13 hown hK hP 0 rfl rfl 5 (by decide) lk0 (fun _ h9 => h9) rfl dX13_most_1 ?_
  refine lv_iload_n hx hb dX13_most_4 rfl (lv_at hl 1 rfl) ?_
  obtain ⟨hi1, h⟩ := ok_if h
  refine va_iald hx hb hK hP 2 1 rfl rfl (ix_in hi1) dX13_most_5 ?_
  refine lv_aload_n hx hb dX13_most_6 rfl (lv_at hl 0 rfl) ?_
  refine va_get (D := (dC, dI)) (ci := 11) (v := .ref (a0 1)) (C := RX13) (T := TX13) (N := 64) hx hb hts in_X13 hown hK hP 0 rfl rfl 4 (by decide) lk1 (fun _ h9 => h9) rfl dX13_most_7 ?_
  refine lv_iload_n hx hb dX13_most_10 rfl (lv_at hl 1 rfl) ?_
  obtain ⟨hi2, h⟩ := ok_if h
  refine va_iald hx hb hK hP 1 1 rfl rfl (ix_in hi2) dX13_most_11 ?_
  refine lv_icmp_ge (tgt := 24) hx hb dX13_most_12 (by decide) (fun c3 => ?_) (fun c3 => ?_)
  · rw [if_pos c3] at h
    refine lv_aload_n hx hb dX13_most_24 rfl (lv_at hl 0 rfl) ?_
    refine va_get (D := (dC, dI)) (ci := 11) (v := .ref (a0 1)) (C := RX13) (T := TX13) (N := 64) hx hb hts in_X13 hown hK hP 0 rfl rfl 4 (by decide) lk1 (fun _ h9 => h9) rfl dX13_most_25 ?_
    refine lv_iload_n hx hb dX13_most_28 rfl (lv_at hl 1 rfl) ?_
    obtain ⟨hi4, h⟩ := ok_if h
    refine va_iald hx hb hK hP 1 1 rfl rfl (ix_in hi4) dX13_most_29 ?_
    exact W.iret (v := (gvm.2.2.2.1 x1.toNatClampNeg)) hx hb hr (fun t ht hW => by rw [hqq]; have hh := Option.some.inj h; exact ⟨⟨(gvm.2.2.2.1 x1.toNatClampNeg), (()), rfl, Option.some.inj h, by rw [ht]; exact hP, va_K.moved hW.alike hK⟩, hS.F ht⟩) hS.2.2 dX13_most_30
  · rw [if_neg c3] at h
    refine lv_aload_n hx hb dX13_most_15 rfl (lv_at hl 0 rfl) ?_
    refine va_get (D := (dC, dI)) (ci := 11) (v := .ref (a0 2)) (C := RX13) (T := TX13) (N := 64) hx hb hts in_X13 hown hK hP 0 rfl rfl 5 (by decide) lk0 (fun _ h9 => h9) rfl dX13_most_16 ?_
    refine lv_iload_n hx hb dX13_most_19 rfl (lv_at hl 1 rfl) ?_
    obtain ⟨hi5, h⟩ := ok_if h
    refine va_iald hx hb hK hP 2 1 rfl rfl (ix_in hi5) dX13_most_20 ?_
    refine lv_goto (tgt := 30) hx hb dX13_most_21 (by decide) ?_
    exact W.iret (v := (gvm.2.2.2.2.1 x1.toNatClampNeg)) hx hb hr (fun t ht hW => by rw [hqq]; have hh := Option.some.inj h; exact ⟨⟨(gvm.2.2.2.2.1 x1.toNatClampNeg), (()), rfl, Option.some.inj h, by rw [ht]; exact hP, va_K.moved hW.alike hK⟩, hS.F ht⟩) hS.2.2 dX13_most_30

abbrev w_X13_countsUp (cy : Nat → ClassId) (a0 : Nat → Nat) (gth : Int32) (gvm : Int32 × Int32 × Int32 × (Nat → Int32) × (Nat → Int32) × (Nat → Int32) × (Nat → Int32) × (Nat → Int32) × (Nat → Int32) × (Nat → Int32) × (Nat → Int32) × (Nat → Int32)) (gtd : Int32) (gfl : Int32 × Int32) (grd : Int32 × Int32 × Int32 × Int32 × Int32 × Int32 × Int64 × (Nat → Int32)) (gnv : Int32 × Int32 × Int32 × Int32 × Int32 × (Nat → Int32) × (Nat → Int32) × (Nat → Int32) × (Nat → Int32) × (Nat → Int32) × (Nat → Int32)) (gac : Int32 × (Nat → Int32) × (Nat → Int32)) (ggm : (Nat → Int32) × (Nat → Int32) × (Nat → Int32)) (grc : Int32 × (Nat → Int32)) (gim : Int32 × Int32 × Int32 × (Nat → Int32) × (Nat → Int32) × (Nat → Int32) × (Nat → Int32) × (Nat → Int32) × (Nat → Int32) × (Nat → Int32) × (Nat → Int32) × (Nat → Int32)) : va_W := [(a0 0, .inr (11, [.int (gth), .int (gvm.1), .int (gvm.2.1), .int (gvm.2.2.1), .ref (a0 1), .ref (a0 2), .ref (a0 3), .ref (a0 4), .ref (a0 5), .ref (a0 6), .ref (a0 7), .ref (a0 8), .ref (a0 9), .ref (a0 10), .int (gtd), .int (gfl.1), .int (gfl.2), .ref (a0 11), .int (grd.1), .int (grd.2.1), .int (grd.2.2.1), .int (grd.2.2.2.1), .int (grd.2.2.2.2.1), .int (grd.2.2.2.2.2.1), .long (grd.2.2.2.2.2.2.1), .ref (a0 12), .int (gnv.1), .int (gnv.2.1), .int (gnv.2.2.1), .int (gnv.2.2.2.1), .int (gnv.2.2.2.2.1), .ref (a0 13), .ref (a0 14), .ref (a0 15), .ref (a0 16), .ref (a0 17), .ref (a0 18), .int (gac.1), .ref (a0 19), .ref (a0 20), .ref (a0 21), .ref (a0 22), .ref (a0 23), .ref (a0 24), .ref (a0 25), .ref (a0 26), .ref (a0 27), .int (grc.1), .ref (a0 28), .ref (a0 29), .ref (a0 30), .ref (a0 31), .int (gim.1), .int (gim.2.1), .int (gim.2.2.1), .ref (a0 32), .ref (a0 33), .ref (a0 34), .ref (a0 35), .ref (a0 36), .ref (a0 37), .ref (a0 38), .ref (a0 39), .ref (a0 40)])), (a0 1, .inl (cy 1, 5, .inl (gvm.2.2.2.1))), (a0 2, .inl (cy 1, 5, .inl (gvm.2.2.2.2.1))), (a0 3, .inl (cy 1, 5, .inl (gvm.2.2.2.2.2.1))), (a0 4, .inl (cy 1, 25, .inl (gvm.2.2.2.2.2.2.1))), (a0 5, .inl (cy 1, 10, .inl (gvm.2.2.2.2.2.2.2.1))), (a0 6, .inl (cy 1, 10, .inl (gvm.2.2.2.2.2.2.2.2.1))), (a0 7, .inl (cy 1, 10, .inl (gvm.2.2.2.2.2.2.2.2.2.1))), (a0 8, .inl (cy 1, 10, .inl (gvm.2.2.2.2.2.2.2.2.2.2.1))), (a0 9, .inl (cy 1, 50, .inl (gvm.2.2.2.2.2.2.2.2.2.2.2))), (a0 23, .inl (cy 1, 5, .inl (ggm.1))), (a0 24, .inl (cy 1, 5, .inl (ggm.2.1))), (a0 25, .inl (cy 1, 210, .inl (ggm.2.2)))]
abbrev rm_X13_countsUp : Room := { frames := 1, cells := 0, slots := 0, locals := 21 }
set_option maxHeartbeats 1000000 in
set_option maxRecDepth 100000 in
theorem c_X13_countsUp (l : Launch) (dC : Nat → ClassId) (dI : Nat → Nat → Nat) (cy : Nat → ClassId) (a0 : Nat → Nat) (gth : Int32) (gvm : Int32 × Int32 × Int32 × (Nat → Int32) × (Nat → Int32) × (Nat → Int32) × (Nat → Int32) × (Nat → Int32) × (Nat → Int32) × (Nat → Int32) × (Nat → Int32) × (Nat → Int32)) (gtd : Int32) (gfl : Int32 × Int32) (grd : Int32 × Int32 × Int32 × Int32 × Int32 × Int32 × Int64 × (Nat → Int32)) (gnv : Int32 × Int32 × Int32 × Int32 × Int32 × (Nat → Int32) × (Nat → Int32) × (Nat → Int32) × (Nat → Int32) × (Nat → Int32) × (Nat → Int32)) (gac : Int32 × (Nat → Int32) × (Nat → Int32)) (ggm : (Nat → Int32) × (Nat → Int32) × (Nat → Int32)) (grc : Int32 × (Nat → Int32)) (gim : Int32 × Int32 × Int32 × (Nat → Int32) × (Nat → Int32) × (Nat → Int32) × (Nat → Int32) × (Nat → Int32) × (Nat → Int32) × (Nat → Int32) × (Nat → Int32) × (Nat → Int32)) (sz : Nat) (R0 : Int32 × ((Nat → Int32) × (Nat → Int32) × (Nat → Int32))) (h : p_X13_countsUp gvm ggm = some R0) : Met l yX13_countsUp wsX13_countsUp rm_X13_countsUp (va_Pc [.ref (a0 0)] (prC dC dI cy (w_X13_countsUp cy a0 gth gvm gtd gfl grd gnv gac ggm grc gim) sz)) (va_Qi (fun (r : Int32) (u : ((Nat → Int32) × (Nat → Int32) × (Nat → Int32))) => r = R0.1 ∧ u = R0.2) (fun (u : ((Nat → Int32) × (Nat → Int32) × (Nat → Int32))) t => poC dC dI cy (w_X13_countsUp cy a0 gth gvm gtd gfl grd gnv gac u grc gim) t) (va_A (w_X13_countsUp cy a0 gth gvm gtd gfl grd gnv gac ggm grc gim) sz)) 0 0 (va_A (w_X13_countsUp cy a0 gth gvm gtd gfl grd gnv gac ggm grc gim) sz) := by
  refine Met.ofW (cc := cX13_countsUp) (maxL := 2) (ret := (some .boolean)) (by decide) rfl ?_
  intro p e s m aa below meth c s₁ B hml hv
  obtain ⟨haa, hsz, hP, hK, hD0⟩ := hv
  have hx := B.exec
  have hb := B.bytes
  have hr := B.returns
  have hts := atoms_spec (ws := wsX13_countsUp) B.pre
  have hown : s.vm.findClass RX13 = some m.cls := findClass_of_methodNamed B.named
  have hlocks := B.notSynchronized
  subst hsz
  have hD := hD0.self (sz := s.heap.size)
  obtain ⟨qq, hqq⟩ : ∃ qq, qq = (va_Qi (fun (r : Int32) (u : ((Nat → Int32) × (Nat → Int32) × (Nat → Int32))) => r = R0.1 ∧ u = R0.2) (fun (u : ((Nat → Int32) × (Nat → Int32) × (Nat → Int32))) t => poC dC dI cy (w_X13_countsUp cy a0 gth gvm gtd gfl grd gnv gac u grc gim) t) (va_A (w_X13_countsUp cy a0 gth gvm gtd gfl grd gnv gac ggm grc gim) s.heap.size)) := ⟨_, rfl⟩
  rw [← hqq]
  generalize hAe : va_A (w_X13_countsUp cy a0 gth gvm gtd gfl grd gnv gac ggm grc gim) s.heap.size = A at hD hqq ⊢
  have hA : ∀ q : Nat, s.heap.size ≤ q → A q := fun q h => by rw [← hAe]; exact Or.inr h
  have hS : va_S A s.heap s.heap [] := va_S.rf
  have hl := lv_entry ([.ref (a0 0)]) (n := 2) (Nat.le_of_ble_eq_true rfl)
  have hE : entryFrame m aa 2 = F0 m 0 ((lg_sl ([.ref (a0 0)]) ++ List.replicate (2 - (lg_sl ([.ref (a0 0)])).length) Slot.unset).toArray) [] := by rw [haa]; exact lg_entry_eq m _ 2
  refine W.eq hE ?_
  generalize (lg_sl ([.ref (a0 0)]) ++ List.replicate (2 - (lg_sl ([.ref (a0 0)])).length) Slot.unset).toArray = ls at hl ⊢
  have hl : lv_has ls 2 [(0, .ref (a0 0))] := hl
  change W p l e rm_X13_countsUp s m aa below meth c s.heap [] 0 0 (MQ below qq aa s 0 0 A) (F0 m 0 ls [])
  have hS0 := hS
  have lk0 := hts (.fieldLink RX13 80 "GoatDoorsModel" "hidden" "[I") (by decide +kernel)
  have lk1 := hts (.fieldLink RX13 245 "GoatDoorsModel" "owners" "I") (by decide +kernel)
  have in_X13 : ∀ w ∈ wsX130, w ∈ wsX13_countsUp := by decide +kernel
  have c52 : ∀ (_u : Unit), ∀ (ggm : (Nat → Int32) × (Nat → Int32) × (Nat → Int32)) (x1 : Int32) (H : Heap) (locs : List Loc) (ls : Array Slot), p_X13_countsUp_52 gvm ggm x1 = some R0 → va_P (dC, dI) vwCl (w_X13_countsUp cy a0 gth gvm gtd gfl grd gnv gac ggm grc gim) H → va_D A (w_X13_countsUp cy a0 gth gvm gtd gfl grd gnv gac ggm grc gim) → va_S A s.heap H locs → lv_has ls 2 [(1, .int x1)] → W p l e rm_X13_countsUp s m aa below meth c H locs 0 0 (MQ below qq aa s 0 0 A) (F0 m 52 ls []) := by
    intro _ ggm x1 H locs ls h hP hD hS hl
    unfold p_X13_countsUp_52 at h
    refine lv_iload_n hx hb dX13_countsUp_52 rfl (lv_at hl 0 rfl) ?_
    refine lv_if_lt (tgt := 60) hx hb dX13_countsUp_53 (by decide) (fun c1 => ?_) (fun c1 => ?_)
    · rw [if_pos c1] at h
      refine lv_iconst (v := (0 : Int32)) hx hb dX13_countsUp_60 (by decide) ?_
      exact W.zret (v := (0 : Int32)) (ty := .boolean) hx hb hr rfl (fun t ht hW => by rw [hqq]; have hh := Option.some.inj h; exact ⟨⟨(0 : Int32), (ggm), rfl, ⟨fst_of hh, snd_of hh⟩, by rw [ht]; exact hP, va_K.moved hW.alike hK⟩, hS.F ht⟩) hS.2.2 dX13_countsUp_61
    · rw [if_neg c1] at h
      refine lv_iconst (v := (1 : Int32)) hx hb dX13_countsUp_56 (by decide) ?_
      refine lv_goto (tgt := 61) hx hb dX13_countsUp_57 (by decide) ?_
      exact W.zret (v := (1 : Int32)) (ty := .boolean) hx hb hr rfl (fun t ht hW => by rw [hqq]; have hh := Option.some.inj h; exact ⟨⟨(1 : Int32), (ggm), rfl, ⟨fst_of hh, snd_of hh⟩, by rw [ht]; exact hP, va_K.moved hW.alike hK⟩, hS.F ht⟩) hS.2.2 dX13_countsUp_61
  have c38 : ∀ (_u : Unit), ∀ (ggm : (Nat → Int32) × (Nat → Int32) × (Nat → Int32)) (x1 : Int32) (H : Heap) (locs : List Loc) (ls : Array Slot), p_X13_countsUp_38 gvm ggm x1 = some R0 → va_P (dC, dI) vwCl (w_X13_countsUp cy a0 gth gvm gtd gfl grd gnv gac ggm grc gim) H → va_D A (w_X13_countsUp cy a0 gth gvm gtd gfl grd gnv gac ggm grc gim) → va_S A s.heap H locs → lv_has ls 2 [(0, .ref (a0 0)), (1, .int x1)] → W p l e rm_X13_countsUp s m aa below meth c H locs 0 0 (MQ below qq aa s 0 0 A) (F0 m 38 ls []) := by
    intro _ ggm x1 H locs ls h hP hD hS hl
    unfold p_X13_countsUp_38 at h
    refine lv_iload_n hx hb dX13_countsUp_38 rfl (lv_at hl 1 rfl) ?_
    refine lv_if_lt (tgt := 52) hx hb dX13_countsUp_39 (by decide) (fun c1 => ?_) (fun c1 => ?_)
    · rw [if_pos c1] at h
      exact c52 () ggm x1 H locs ls h hP hD hS (lv_sub hl [1] rfl)
    · rw [if_neg c1] at h
      refine lv_aload_n hx hb dX13_countsUp_42 rfl (lv_at hl 0 rfl) ?_
      refine va_get (D := (dC, dI)) (ci := 11) (v := .ref (a0 23)) (C := RX13) (T := TX13) (N := 64) hx hb hts in_X13 hown hK hP 0 rfl rfl 42 (by decide) lk0 (fun _ h9 => h9) rfl dX13_countsUp_43 ?_
      refine lv_iload_n hx hb dX13_countsUp_46 rfl (lv_at hl 1 rfl) ?_
      refine lv_dup2_11 hx hb dX13_countsUp_47 rfl rfl ?_
      obtain ⟨hi2, h⟩ := ok_if h
      refine va_iald hx hb hK hP 10 1 rfl rfl (ix_in hi2) dX13_countsUp_48 ?_
      refine lv_iconst (v := (1 : Int32)) hx hb dX13_countsUp_49 (by decide) ?_
      refine lv_iadd hx hb dX13_countsUp_50 ?_
      obtain ⟨hi3, h⟩ := ok_if h
      refine va_iast hx hb hK hP hD hS 10 1 rfl rfl (ix_in hi3) dX13_countsUp_51 (fun H locs hP hD hS => ?_)
      have hP : va_P (dC, dI) vwCl (w_X13_countsUp cy a0 gth gvm gtd gfl grd gnv gac (((upd ggm.1 x1.toNatClampNeg ((ggm.1 x1.toNatClampNeg) + (1 : Int32))), ggm.2)) grc gim) H := hP
      have hD : va_D A (w_X13_countsUp cy a0 gth gvm gtd gfl grd gnv gac (((upd ggm.1 x1.toNatClampNeg ((ggm.1 x1.toNatClampNeg) + (1 : Int32))), ggm.2)) grc gim) := hD
      exact c52 () ((upd ggm.1 x1.toNatClampNeg ((ggm.1 x1.toNatClampNeg) + (1 : Int32))), ggm.2) x1 H locs ls h hP hD hS (lv_sub hl [1] rfl)
  have c7 : ∀ (n : Nat), ∀ (ggm : (Nat → Int32) × (Nat → Int32) × (Nat → Int32)) (x1 : Int32) (H : Heap) (locs : List Loc) (ls : Array Slot), p_X13_countsUp_7 gvm n ggm x1 = some R0 → va_P (dC, dI) vwCl (w_X13_countsUp cy a0 gth gvm gtd gfl grd gnv gac ggm grc gim) H → va_D A (w_X13_countsUp cy a0 gth gvm gtd gfl grd gnv gac ggm grc gim) → va_S A s.heap H locs → lv_has ls 2 [(0, .ref (a0 0)), (1, .int x1)] → W p l e rm_X13_countsUp s m aa below meth c H locs 0 0 (MQ below qq aa s 0 0 A) (F0 m 7 ls []) := by
    intro  n
    induction n with
    | zero => intro ggm x1 H locs ls h; exact no_some h
    | succ n ih =>
      intro ggm x1 H locs ls h hP hD hS hl
      rw [p_X13_countsUp_7.eq_2] at h
      refine lv_iload_n hx hb dX13_countsUp_7 rfl (lv_at hl 1 rfl) ?_
      refine lv_if_lt (tgt := 38) hx hb dX13_countsUp_8 (by decide) (fun c1 => ?_) (fun c1 => ?_)
      · rw [if_pos c1] at h
        exact c38 () ggm x1 H locs ls h hP hD hS (lv_sub hl [0, 1] rfl)
      · rw [if_neg c1] at h
        refine lv_aload_n hx hb dX13_countsUp_11 rfl (lv_at hl 0 rfl) ?_
        refine va_get (D := (dC, dI)) (ci := 11) (v := .ref (a0 23)) (C := RX13) (T := TX13) (N := 64) hx hb hts in_X13 hown hK hP 0 rfl rfl 42 (by decide) lk0 (fun _ h9 => h9) rfl dX13_countsUp_12 ?_
        refine lv_iload_n hx hb dX13_countsUp_15 rfl (lv_at hl 1 rfl) ?_
        obtain ⟨hi2, h⟩ := ok_if h
        refine va_iald hx hb hK hP 10 1 rfl rfl (ix_in hi2) dX13_countsUp_16 ?_
        refine lv_aload_n hx hb dX13_countsUp_17 rfl (lv_at hl 0 rfl) ?_
        refine lv_iload_n hx hb dX13_countsUp_18 rfl (lv_at hl 1 rfl) ?_
        obtain ⟨v3, hv4, h⟩ := ok_bind h
        refine cl_vi (w2 := fun (_ : Unit) => w_X13_countsUp cy a0 gth gvm gtd gfl grd gnv gac ggm grc gim) (As := [.int x1]) (rest := [.int (ggm.1 x1.toNatClampNeg)]) ⟨hx, hb, hml, hown, hts⟩ (c_X13_most l dC dI cy a0 gth gvm gtd gfl grd gnv gac grc gim x1 H.size v3 hv4) (cwV 1 hts gX13_countsUp_X13_most rfl rfl rfl (by decide +kernel) ⟨Nat.le_of_ble_eq_true rfl, Nat.le_of_ble_eq_true rfl⟩) (va_recv hK hP (ci := 11) (q0 := 0) rfl rfl) cl_blind (cl_pre hK hP hD [0, 1, 2, 3, 4, 5, 6, 7, 8, 9] (by decide) rfl) hP hD hS hA [0, 1, 2, 3, 4, 5, 6, 7, 8, 9] rfl rfl hl.1 rfl (lv_room (Nat.le_of_ble_eq_true rfl)) dX13_countsUp_19 ⟨Nat.le_of_ble_eq_true rfl, Nat.le_of_ble_eq_true rfl⟩ ⟨rfl, rfl⟩ (fun _ => updR [0, 1, 2, 3, 4, 5, 6, 7, 8, 9] rfl) (fun r u H locs hw hP hD hS => ?_)
        have hw := hw.symm
        subst hw
        have hP : va_P (dC, dI) vwCl (w_X13_countsUp cy a0 gth gvm gtd gfl grd gnv gac ggm grc gim) H := hP
        have hD : va_D A (w_X13_countsUp cy a0 gth gvm gtd gfl grd gnv gac ggm grc gim) := hD
        refine lv_icmp_ne (tgt := 38) hx hb dX13_countsUp_22 (by decide) (fun c5 => ?_) (fun c5 => ?_)
        · rw [if_neg c5] at h
          exact c38 () ggm x1 H locs ls h hP hD hS (lv_sub hl [0, 1] rfl)
        · rw [if_pos c5] at h
          refine lv_aload_n hx hb dX13_countsUp_25 rfl (lv_at hl 0 rfl) ?_
          refine va_get (D := (dC, dI)) (ci := 11) (v := .ref (a0 23)) (C := RX13) (T := TX13) (N := 64) hx hb hts in_X13 hown hK hP 0 rfl rfl 42 (by decide) lk0 (fun _ h9 => h9) rfl dX13_countsUp_26 ?_
          refine lv_iload_n hx hb dX13_countsUp_29 rfl (lv_at hl 1 rfl) ?_
          refine lv_iconst (v := (0 : Int32)) hx hb dX13_countsUp_30 (by decide) ?_
          obtain ⟨hi6, h⟩ := ok_if h
          refine va_iast hx hb hK hP hD hS 10 1 rfl rfl (ix_in hi6) dX13_countsUp_31 (fun H locs hP hD hS => ?_)
          have hP : va_P (dC, dI) vwCl (w_X13_countsUp cy a0 gth gvm gtd gfl grd gnv gac (((upd ggm.1 x1.toNatClampNeg (0 : Int32)), ggm.2)) grc gim) H := hP
          have hD : va_D A (w_X13_countsUp cy a0 gth gvm gtd gfl grd gnv gac (((upd ggm.1 x1.toNatClampNeg (0 : Int32)), ggm.2)) grc gim) := hD
          refine lv_iinc (v := (x1 + (-1 : Int32))) (lv' := [(1, .int (x1 + (-1 : Int32))), (0, .ref (a0 0))]) hx hb dX13_countsUp_32 hl (k := 1) rfl rfl (by decide) rfl (fun ls hl => ?_)
          refine lv_goto (tgt := 7) hx hb dX13_countsUp_35 (by decide) ?_
          exact ih ((upd ggm.1 x1.toNatClampNeg (0 : Int32)), ggm.2) (x1 + (-1 : Int32)) H locs ls h hP hD hS (lv_sub hl [1, 0] rfl)
  obtain ⟨H, hH⟩ : ∃ H : Heap, H = s.heap := ⟨_, rfl⟩
  obtain ⟨locs, hlocs⟩ : ∃ locs : List Loc, locs = [] := ⟨_, rfl⟩
  have hS : va_S A s.heap H locs := by rw [hH, hlocs]; exact hS
  rw [← hH] at hP
  suffices hg : W p l e rm_X13_countsUp s m aa below meth c H locs 0 0 (MQ below qq aa s 0 0 A) (F0 m 0 ls []) by subst hH; subst hlocs; exact hg
  unfold p_X13_countsUp at h
  refine lv_aload_n hx hb dX13_countsUp_0 rfl (lv_at hl 0 rfl) ?_
  refine va_get (D := (dC, dI)) (ci := 11) (v := .int gvm.1) (C := RX13) (T := TX13) (N := 64) hx hb hts in_X13 hown hK hP 0 rfl rfl 1 (by decide) lk1 (fun _ h9 => h9) rfl dX13_countsUp_1 ?_
  refine lv_iconst (v := (1 : Int32)) hx hb dX13_countsUp_4 (by decide) ?_
  refine lv_isub hx hb dX13_countsUp_5 ?_
  refine lv_istore_n (lv' := [(1, .int (gvm.1 - (1 : Int32))), (0, .ref (a0 0))]) hx hb dX13_countsUp_6 rfl hl (by decide) rfl (fun ls hl => ?_)
  exact c7 fu ggm (gvm.1 - (1 : Int32)) H locs ls h hP hD hS (lv_sub hl [1, 0] rfl)

abbrev w_X13_isAtRest (cy : Nat → ClassId) (a0 : Nat → Nat) (gth : Int32) (gvm : Int32 × Int32 × Int32 × (Nat → Int32) × (Nat → Int32) × (Nat → Int32) × (Nat → Int32) × (Nat → Int32) × (Nat → Int32) × (Nat → Int32) × (Nat → Int32) × (Nat → Int32)) (gtd : Int32) (gfl : Int32 × Int32) (grd : Int32 × Int32 × Int32 × Int32 × Int32 × Int32 × Int64 × (Nat → Int32)) (gnv : Int32 × Int32 × Int32 × Int32 × Int32 × (Nat → Int32) × (Nat → Int32) × (Nat → Int32) × (Nat → Int32) × (Nat → Int32) × (Nat → Int32)) (gac : Int32 × (Nat → Int32) × (Nat → Int32)) (ggm : (Nat → Int32) × (Nat → Int32) × (Nat → Int32)) (grc : Int32 × (Nat → Int32)) (gim : Int32 × Int32 × Int32 × (Nat → Int32) × (Nat → Int32) × (Nat → Int32) × (Nat → Int32) × (Nat → Int32) × (Nat → Int32) × (Nat → Int32) × (Nat → Int32) × (Nat → Int32)) : va_W := [(a0 0, .inr (11, [.int (gth), .int (gvm.1), .int (gvm.2.1), .int (gvm.2.2.1), .ref (a0 1), .ref (a0 2), .ref (a0 3), .ref (a0 4), .ref (a0 5), .ref (a0 6), .ref (a0 7), .ref (a0 8), .ref (a0 9), .ref (a0 10), .int (gtd), .int (gfl.1), .int (gfl.2), .ref (a0 11), .int (grd.1), .int (grd.2.1), .int (grd.2.2.1), .int (grd.2.2.2.1), .int (grd.2.2.2.2.1), .int (grd.2.2.2.2.2.1), .long (grd.2.2.2.2.2.2.1), .ref (a0 12), .int (gnv.1), .int (gnv.2.1), .int (gnv.2.2.1), .int (gnv.2.2.2.1), .int (gnv.2.2.2.2.1), .ref (a0 13), .ref (a0 14), .ref (a0 15), .ref (a0 16), .ref (a0 17), .ref (a0 18), .int (gac.1), .ref (a0 19), .ref (a0 20), .ref (a0 21), .ref (a0 22), .ref (a0 23), .ref (a0 24), .ref (a0 25), .ref (a0 26), .ref (a0 27), .int (grc.1), .ref (a0 28), .ref (a0 29), .ref (a0 30), .ref (a0 31), .int (gim.1), .int (gim.2.1), .int (gim.2.2.1), .ref (a0 32), .ref (a0 33), .ref (a0 34), .ref (a0 35), .ref (a0 36), .ref (a0 37), .ref (a0 38), .ref (a0 39), .ref (a0 40)])), (a0 1, .inl (cy 1, 5, .inl (gvm.2.2.2.1))), (a0 2, .inl (cy 1, 5, .inl (gvm.2.2.2.2.1))), (a0 3, .inl (cy 1, 5, .inl (gvm.2.2.2.2.2.1))), (a0 4, .inl (cy 1, 25, .inl (gvm.2.2.2.2.2.2.1))), (a0 5, .inl (cy 1, 10, .inl (gvm.2.2.2.2.2.2.2.1))), (a0 6, .inl (cy 1, 10, .inl (gvm.2.2.2.2.2.2.2.2.1))), (a0 7, .inl (cy 1, 10, .inl (gvm.2.2.2.2.2.2.2.2.2.1))), (a0 8, .inl (cy 1, 10, .inl (gvm.2.2.2.2.2.2.2.2.2.2.1))), (a0 9, .inl (cy 1, 50, .inl (gvm.2.2.2.2.2.2.2.2.2.2.2))), (a0 23, .inl (cy 1, 5, .inl (ggm.1))), (a0 24, .inl (cy 1, 5, .inl (ggm.2.1))), (a0 25, .inl (cy 1, 210, .inl (ggm.2.2)))]
abbrev rm_X13_isAtRest : Room := { frames := 1, cells := 0, slots := 0, locals := 22 }
set_option maxHeartbeats 1000000 in
set_option maxRecDepth 100000 in
theorem c_X13_isAtRest (l : Launch) (dC : Nat → ClassId) (dI : Nat → Nat → Nat) (cy : Nat → ClassId) (a0 : Nat → Nat) (gth : Int32) (gvm : Int32 × Int32 × Int32 × (Nat → Int32) × (Nat → Int32) × (Nat → Int32) × (Nat → Int32) × (Nat → Int32) × (Nat → Int32) × (Nat → Int32) × (Nat → Int32) × (Nat → Int32)) (gtd : Int32) (gfl : Int32 × Int32) (grd : Int32 × Int32 × Int32 × Int32 × Int32 × Int32 × Int64 × (Nat → Int32)) (gnv : Int32 × Int32 × Int32 × Int32 × Int32 × (Nat → Int32) × (Nat → Int32) × (Nat → Int32) × (Nat → Int32) × (Nat → Int32) × (Nat → Int32)) (gac : Int32 × (Nat → Int32) × (Nat → Int32)) (ggm : (Nat → Int32) × (Nat → Int32) × (Nat → Int32)) (grc : Int32 × (Nat → Int32)) (gim : Int32 × Int32 × Int32 × (Nat → Int32) × (Nat → Int32) × (Nat → Int32) × (Nat → Int32) × (Nat → Int32) × (Nat → Int32) × (Nat → Int32) × (Nat → Int32) × (Nat → Int32)) (sz : Nat) (R0 : Int32) (h : p_X13_isAtRest gvm ggm = some R0) : Met l yX13_isAtRest wsX13_isAtRest rm_X13_isAtRest (va_Pc [.ref (a0 0)] (prC dC dI cy (w_X13_isAtRest cy a0 gth gvm gtd gfl grd gnv gac ggm grc gim) sz)) (va_Qi (fun (r : Int32) (_ : Unit) => r = R0) (fun (_ : Unit) t => poC dC dI cy (w_X13_isAtRest cy a0 gth gvm gtd gfl grd gnv gac ggm grc gim) t) (va_A (w_X13_isAtRest cy a0 gth gvm gtd gfl grd gnv gac ggm grc gim) sz)) 0 0 (va_A (w_X13_isAtRest cy a0 gth gvm gtd gfl grd gnv gac ggm grc gim) sz) := by
  refine Met.ofW (cc := cX13_isAtRest) (maxL := 4) (ret := (some .boolean)) (by decide) rfl ?_
  intro p e s m aa below meth c s₁ B hml hv
  obtain ⟨haa, hsz, hP, hK, hD0⟩ := hv
  have hx := B.exec
  have hb := B.bytes
  have hr := B.returns
  have hts := atoms_spec (ws := wsX13_isAtRest) B.pre
  have hown : s.vm.findClass RX13 = some m.cls := findClass_of_methodNamed B.named
  have hlocks := B.notSynchronized
  subst hsz
  have hD := hD0.self (sz := s.heap.size)
  obtain ⟨qq, hqq⟩ : ∃ qq, qq = (va_Qi (fun (r : Int32) (_ : Unit) => r = R0) (fun (_ : Unit) t => poC dC dI cy (w_X13_isAtRest cy a0 gth gvm gtd gfl grd gnv gac ggm grc gim) t) (va_A (w_X13_isAtRest cy a0 gth gvm gtd gfl grd gnv gac ggm grc gim) s.heap.size)) := ⟨_, rfl⟩
  rw [← hqq]
  generalize hAe : va_A (w_X13_isAtRest cy a0 gth gvm gtd gfl grd gnv gac ggm grc gim) s.heap.size = A at hD hqq ⊢
  have hA : ∀ q : Nat, s.heap.size ≤ q → A q := fun q h => by rw [← hAe]; exact Or.inr h
  have hS : va_S A s.heap s.heap [] := va_S.rf
  have hl := lv_entry ([.ref (a0 0)]) (n := 4) (Nat.le_of_ble_eq_true rfl)
  have hE : entryFrame m aa 4 = F0 m 0 ((lg_sl ([.ref (a0 0)]) ++ List.replicate (4 - (lg_sl ([.ref (a0 0)])).length) Slot.unset).toArray) [] := by rw [haa]; exact lg_entry_eq m _ 4
  refine W.eq hE ?_
  generalize (lg_sl ([.ref (a0 0)]) ++ List.replicate (4 - (lg_sl ([.ref (a0 0)])).length) Slot.unset).toArray = ls at hl ⊢
  have hl : lv_has ls 4 [(0, .ref (a0 0))] := hl
  change W p l e rm_X13_isAtRest s m aa below meth c s.heap [] 0 0 (MQ below qq aa s 0 0 A) (F0 m 0 ls [])
  have hS0 := hS
  have lk0 := hts (.fieldLink RX13 86 "GoatDoorsModel" "netBy" "[I") (by decide +kernel)
  have lk1 := hts (.fieldLink RX13 80 "GoatDoorsModel" "hidden" "[I") (by decide +kernel)
  have lk2 := hts (.fieldLink RX13 245 "GoatDoorsModel" "owners" "I") (by decide +kernel)
  have in_X13 : ∀ w ∈ wsX130, w ∈ wsX13_isAtRest := by decide +kernel
  have c42 : ∀ (k32 : Int32 → Int32 → Option (Int32)) (hk32 : ∀ (x1 : Int32) (x2 : Int32) (H : Heap) (locs : List Loc) (ls : Array Slot), k32 x1 x2 = some R0 → va_P (dC, dI) vwCl (w_X13_isAtRest cy a0 gth gvm gtd gfl grd gnv gac ggm grc gim) H → va_D A (w_X13_isAtRest cy a0 gth gvm gtd gfl grd gnv gac ggm grc gim) → va_S A s.heap H locs → lv_has ls 4 [(0, .ref (a0 0)), (1, .int x1), (2, .int x2)] → W p l e rm_X13_isAtRest s m aa below meth c H locs 0 0 (MQ below qq aa s 0 0 A) (F0 m 32 ls [])) (n : Nat), ∀ (x1 : Int32) (x2 : Int32) (x3 : Int32) (H : Heap) (locs : List Loc) (ls : Array Slot), p_X13_isAtRest_42 k32 gvm ggm n x1 x2 x3 = some R0 → va_P (dC, dI) vwCl (w_X13_isAtRest cy a0 gth gvm gtd gfl grd gnv gac ggm grc gim) H → va_D A (w_X13_isAtRest cy a0 gth gvm gtd gfl grd gnv gac ggm grc gim) → va_S A s.heap H locs → lv_has ls 4 [(0, .ref (a0 0)), (1, .int x1), (2, .int x2), (3, .int x3)] → W p l e rm_X13_isAtRest s m aa below meth c H locs 0 0 (MQ below qq aa s 0 0 A) (F0 m 42 ls []) := by
    intro k32 hk32 n
    induction n with
    | zero => intro x1 x2 x3 H locs ls h; exact no_some h
    | succ n ih =>
      intro x1 x2 x3 H locs ls h hP hD hS hl
      rw [p_X13_isAtRest_42.eq_2] at h
      refine lv_iload_n hx hb dX13_isAtRest_42 rfl (lv_at hl 3 rfl) ?_
      refine lv_aload_n hx hb dX13_isAtRest_43 rfl (lv_at hl 0 rfl) ?_
      refine lv_iload_n hx hb dX13_isAtRest_44 rfl (lv_at hl 2 rfl) ?_
      obtain ⟨v1, hv2, h⟩ := ok_bind h
      refine cl_vi (w2 := fun (_ : Unit) => w_X13_isAtRest cy a0 gth gvm gtd gfl grd gnv gac ggm grc gim) (As := [.int x2]) (rest := [.int x3]) ⟨hx, hb, hml, hown, hts⟩ (c_X13_most l dC dI cy a0 gth gvm gtd gfl grd gnv gac grc gim x2 H.size v1 hv2) (cwV 1 hts gX13_isAtRest_X13_most rfl rfl rfl (by decide +kernel) ⟨Nat.le_of_ble_eq_true rfl, Nat.le_of_ble_eq_true rfl⟩) (va_recv hK hP (ci := 11) (q0 := 0) rfl rfl) cl_blind (cl_pre hK hP hD [0, 1, 2, 3, 4, 5, 6, 7, 8, 9] (by decide) rfl) hP hD hS hA [0, 1, 2, 3, 4, 5, 6, 7, 8, 9] rfl rfl hl.1 rfl (lv_room (Nat.le_of_ble_eq_true rfl)) dX13_isAtRest_45 ⟨Nat.le_of_ble_eq_true rfl, Nat.le_of_ble_eq_true rfl⟩ ⟨rfl, rfl⟩ (fun _ => updR [0, 1, 2, 3, 4, 5, 6, 7, 8, 9] rfl) (fun r u H locs hw hP hD hS => ?_)
      have hw := hw.symm
      subst hw
      have hP : va_P (dC, dI) vwCl (w_X13_isAtRest cy a0 gth gvm gtd gfl grd gnv gac ggm grc gim) H := hP
      have hD : va_D A (w_X13_isAtRest cy a0 gth gvm gtd gfl grd gnv gac ggm grc gim) := hD
      refine lv_icmp_gt (tgt := 93) hx hb dX13_isAtRest_48 (by decide) (fun c3 => ?_) (fun c3 => ?_)
      · rw [if_pos c3] at h
        refine lv_iinc (v := (x2 + (1 : Int32))) (lv' := [(2, .int (x2 + (1 : Int32))), (0, .ref (a0 0)), (1, .int x1), (3, .int x3)]) hx hb dX13_isAtRest_93 hl (k := 2) rfl rfl (by decide) rfl (fun ls hl => ?_)
        refine lv_goto (tgt := 32) hx hb dX13_isAtRest_96 (by decide) ?_
        exact hk32 x1 (x2 + (1 : Int32)) H locs ls h hP hD hS (lv_sub hl [1, 2, 0] rfl)
      · rw [if_neg c3] at h
        refine lv_aload_n hx hb dX13_isAtRest_51 rfl (lv_at hl 0 rfl) ?_
        refine va_get (D := (dC, dI)) (ci := 11) (v := .ref (a0 25)) (C := RX13) (T := TX13) (N := 64) hx hb hts in_X13 hown hK hP 0 rfl rfl 44 (by decide) lk0 (fun _ h9 => h9) rfl dX13_isAtRest_52 ?_
        refine lv_bipush (v := (42 : Int32)) hx hb dX13_isAtRest_55 (by decide) ?_
        refine lv_iload_n hx hb dX13_isAtRest_57 rfl (lv_at hl 2 rfl) ?_
        refine lv_imul hx hb dX13_isAtRest_58 ?_
        refine lv_iload_n hx hb dX13_isAtRest_59 rfl (lv_at hl 1 rfl) ?_
        refine lv_iadd hx hb dX13_isAtRest_60 ?_
        refine lv_aload_n hx hb dX13_isAtRest_61 rfl (lv_at hl 0 rfl) ?_
        refine va_get (D := (dC, dI)) (ci := 11) (v := .ref (a0 23)) (C := RX13) (T := TX13) (N := 64) hx hb hts in_X13 hown hK hP 0 rfl rfl 42 (by decide) lk1 (fun _ h9 => h9) rfl dX13_isAtRest_62 ?_
        refine lv_iload_n hx hb dX13_isAtRest_65 rfl (lv_at hl 2 rfl) ?_
        obtain ⟨hi4, h⟩ := ok_if h
        refine va_iald hx hb hK hP 10 1 rfl rfl (ix_in hi4) dX13_isAtRest_66 ?_
        refine lv_iadd hx hb dX13_isAtRest_67 ?_
        refine lv_iload_n hx hb dX13_isAtRest_68 rfl (lv_at hl 3 rfl) ?_
        refine lv_isub hx hb dX13_isAtRest_69 ?_
        obtain ⟨hi5, h⟩ := ok_if h
        refine va_iald hx hb hK hP 12 1 rfl rfl (ix_in hi5) dX13_isAtRest_70 ?_
        refine lv_aload_n hx hb dX13_isAtRest_71 rfl (lv_at hl 0 rfl) ?_
        refine va_get (D := (dC, dI)) (ci := 11) (v := .ref (a0 25)) (C := RX13) (T := TX13) (N := 64) hx hb hts in_X13 hown hK hP 0 rfl rfl 44 (by decide) lk0 (fun _ h9 => h9) rfl dX13_isAtRest_72 ?_
        refine lv_bipush (v := (42 : Int32)) hx hb dX13_isAtRest_75 (by decide) ?_
        refine lv_iload_n hx hb dX13_isAtRest_77 rfl (lv_at hl 2 rfl) ?_
        refine lv_imul hx hb dX13_isAtRest_78 ?_
        refine lv_iload_n hx hb dX13_isAtRest_79 rfl (lv_at hl 1 rfl) ?_
        refine lv_iadd hx hb dX13_isAtRest_80 ?_
        obtain ⟨hi6, h⟩ := ok_if h
        refine va_iald hx hb hK hP 12 1 rfl rfl (ix_in hi6) dX13_isAtRest_81 ?_
        refine lv_icmp_le (tgt := 87) hx hb dX13_isAtRest_82 (by decide) (fun c7 => ?_) (fun c7 => ?_)
        · rw [if_pos c7] at h
          refine lv_iinc (v := (x3 + (1 : Int32))) (lv' := [(3, .int (x3 + (1 : Int32))), (0, .ref (a0 0)), (1, .int x1), (2, .int x2)]) hx hb dX13_isAtRest_87 hl (k := 3) rfl rfl (by decide) rfl (fun ls hl => ?_)
          refine lv_goto (tgt := 42) hx hb dX13_isAtRest_90 (by decide) ?_
          exact ih x1 x2 (x3 + (1 : Int32)) H locs ls h hP hD hS (lv_sub hl [1, 2, 3, 0] rfl)
        · rw [if_neg c7] at h
          refine lv_iconst (v := (0 : Int32)) hx hb dX13_isAtRest_85 (by decide) ?_
          exact W.zret (v := (0 : Int32)) (ty := .boolean) hx hb hr rfl (fun t ht hW => by rw [hqq]; have hh := Option.some.inj h; exact ⟨⟨(0 : Int32), (()), rfl, Option.some.inj h, by rw [ht]; exact hP, va_K.moved hW.alike hK⟩, hS.F ht⟩) hS.2.2 dX13_isAtRest_86
  have c32 : ∀ (n : Nat), ∀ (x1 : Int32) (x2 : Int32) (H : Heap) (locs : List Loc) (ls : Array Slot), p_X13_isAtRest_32 gvm ggm n x1 x2 = some R0 → va_P (dC, dI) vwCl (w_X13_isAtRest cy a0 gth gvm gtd gfl grd gnv gac ggm grc gim) H → va_D A (w_X13_isAtRest cy a0 gth gvm gtd gfl grd gnv gac ggm grc gim) → va_S A s.heap H locs → lv_has ls 4 [(0, .ref (a0 0)), (1, .int x1), (2, .int x2)] → W p l e rm_X13_isAtRest s m aa below meth c H locs 0 0 (MQ below qq aa s 0 0 A) (F0 m 32 ls []) := by
    intro  n
    induction n with
    | zero => intro x1 x2 H locs ls h; exact no_some h
    | succ n ih =>
      intro x1 x2 H locs ls h hP hD hS hl
      rw [p_X13_isAtRest_32.eq_2] at h
      refine lv_iload_n hx hb dX13_isAtRest_32 rfl (lv_at hl 2 rfl) ?_
      refine lv_aload_n hx hb dX13_isAtRest_33 rfl (lv_at hl 0 rfl) ?_
      refine va_get (D := (dC, dI)) (ci := 11) (v := .int gvm.1) (C := RX13) (T := TX13) (N := 64) hx hb hts in_X13 hown hK hP 0 rfl rfl 1 (by decide) lk2 (fun _ h9 => h9) rfl dX13_isAtRest_34 ?_
      refine lv_icmp_ge (tgt := 99) hx hb dX13_isAtRest_37 (by decide) (fun c1 => ?_) (fun c1 => ?_)
      · rw [if_pos c1] at h
        refine lv_iconst (v := (1 : Int32)) hx hb dX13_isAtRest_99 (by decide) ?_
        exact W.zret (v := (1 : Int32)) (ty := .boolean) hx hb hr rfl (fun t ht hW => by rw [hqq]; have hh := Option.some.inj h; exact ⟨⟨(1 : Int32), (()), rfl, Option.some.inj h, by rw [ht]; exact hP, va_K.moved hW.alike hK⟩, hS.F ht⟩) hS.2.2 dX13_isAtRest_100
      · rw [if_neg c1] at h
        refine lv_iconst (v := (0 : Int32)) hx hb dX13_isAtRest_40 (by decide) ?_
        refine lv_istore_n (lv' := [(3, .int (0 : Int32)), (0, .ref (a0 0)), (1, .int x1), (2, .int x2)]) hx hb dX13_isAtRest_41 rfl hl (by decide) rfl (fun ls hl => ?_)
        exact c42 (p_X13_isAtRest_32 gvm ggm n) ih fu x1 x2 (0 : Int32) H locs ls h hP hD hS (lv_sub hl [1, 2, 3, 0] rfl)
  have c7 : ∀ (n : Nat), ∀ (x1 : Int32) (x2 : Int32) (H : Heap) (locs : List Loc) (ls : Array Slot), p_X13_isAtRest_7 gvm ggm n x1 x2 = some R0 → va_P (dC, dI) vwCl (w_X13_isAtRest cy a0 gth gvm gtd gfl grd gnv gac ggm grc gim) H → va_D A (w_X13_isAtRest cy a0 gth gvm gtd gfl grd gnv gac ggm grc gim) → va_S A s.heap H locs → lv_has ls 4 [(0, .ref (a0 0)), (1, .int x1), (2, .int x2)] → W p l e rm_X13_isAtRest s m aa below meth c H locs 0 0 (MQ below qq aa s 0 0 A) (F0 m 7 ls []) := by
    intro  n
    induction n with
    | zero => intro x1 x2 H locs ls h; exact no_some h
    | succ n ih =>
      intro x1 x2 H locs ls h hP hD hS hl
      rw [p_X13_isAtRest_7.eq_2] at h
      refine lv_iload_n hx hb dX13_isAtRest_7 rfl (lv_at hl 2 rfl) ?_
      refine lv_aload_n hx hb dX13_isAtRest_8 rfl (lv_at hl 0 rfl) ?_
      refine va_get (D := (dC, dI)) (ci := 11) (v := .int gvm.1) (C := RX13) (T := TX13) (N := 64) hx hb hts in_X13 hown hK hP 0 rfl rfl 1 (by decide) lk2 (fun _ h9 => h9) rfl dX13_isAtRest_9 ?_
      refine lv_icmp_ge (tgt := 30) hx hb dX13_isAtRest_12 (by decide) (fun c1 => ?_) (fun c1 => ?_)
      · rw [if_pos c1] at h
        refine lv_iconst (v := (0 : Int32)) hx hb dX13_isAtRest_30 (by decide) ?_
        refine lv_istore_n (lv' := [(2, .int (0 : Int32)), (0, .ref (a0 0)), (1, .int x1)]) hx hb dX13_isAtRest_31 rfl hl (by decide) rfl (fun ls hl => ?_)
        exact c32 fu x1 (0 : Int32) H locs ls h hP hD hS (lv_sub hl [1, 2, 0] rfl)
      · rw [if_neg c1] at h
        refine lv_iload_n hx hb dX13_isAtRest_15 rfl (lv_at hl 1 rfl) ?_
        refine lv_aload_n hx hb dX13_isAtRest_16 rfl (lv_at hl 0 rfl) ?_
        refine va_get (D := (dC, dI)) (ci := 11) (v := .ref (a0 23)) (C := RX13) (T := TX13) (N := 64) hx hb hts in_X13 hown hK hP 0 rfl rfl 42 (by decide) lk1 (fun _ h9 => h9) rfl dX13_isAtRest_17 ?_
        refine lv_iload_n hx hb dX13_isAtRest_20 rfl (lv_at hl 2 rfl) ?_
        obtain ⟨hi2, h⟩ := ok_if h
        refine va_iald hx hb hK hP 10 1 rfl rfl (ix_in hi2) dX13_isAtRest_21 ?_
        refine lv_isub hx hb dX13_isAtRest_22 ?_
        refine lv_istore_n (lv' := [(1, .int (x1 - (ggm.1 x2.toNatClampNeg))), (0, .ref (a0 0)), (2, .int x2)]) hx hb dX13_isAtRest_23 rfl hl (by decide) rfl (fun ls hl => ?_)
        refine lv_iinc (v := (x2 + (1 : Int32))) (lv' := [(2, .int (x2 + (1 : Int32))), (1, .int (x1 - (ggm.1 x2.toNatClampNeg))), (0, .ref (a0 0))]) hx hb dX13_isAtRest_24 hl (k := 2) rfl rfl (by decide) rfl (fun ls hl => ?_)
        refine lv_goto (tgt := 7) hx hb dX13_isAtRest_27 (by decide) ?_
        exact ih (x1 - (ggm.1 x2.toNatClampNeg)) (x2 + (1 : Int32)) H locs ls h hP hD hS (lv_sub hl [2, 1, 0] rfl)
  obtain ⟨H, hH⟩ : ∃ H : Heap, H = s.heap := ⟨_, rfl⟩
  obtain ⟨locs, hlocs⟩ : ∃ locs : List Loc, locs = [] := ⟨_, rfl⟩
  have hS : va_S A s.heap H locs := by rw [hH, hlocs]; exact hS
  rw [← hH] at hP
  suffices hg : W p l e rm_X13_isAtRest s m aa below meth c H locs 0 0 (MQ below qq aa s 0 0 A) (F0 m 0 ls []) by subst hH; subst hlocs; exact hg
  unfold p_X13_isAtRest at h
  refine lv_aload_n hx hb dX13_isAtRest_0 rfl (lv_at hl 0 rfl) ?_
  obtain ⟨v1, hv2, h⟩ := ok_bind h
  refine cl_vi (w2 := fun (_ : Unit) => w_X13_isAtRest cy a0 gth gvm gtd gfl grd gnv gac ggm grc gim) (As := []) (rest := []) ⟨hx, hb, hml, hown, hts⟩ (c_X13_all l dC dI cy a0 gth gvm gtd gfl grd gnv gac grc gim H.size v1 hv2) (cwV 0 hts gX13_isAtRest_X13_all rfl rfl rfl (by decide +kernel) ⟨Nat.le_of_ble_eq_true rfl, Nat.le_of_ble_eq_true rfl⟩) (va_recv hK hP (ci := 11) (q0 := 0) rfl rfl) cl_blind (cl_pre hK hP hD [0, 1, 2, 3, 4, 5, 6, 7, 8, 9] (by decide) rfl) hP hD hS hA [0, 1, 2, 3, 4, 5, 6, 7, 8, 9] rfl rfl hl.1 rfl (lv_room (Nat.le_of_ble_eq_true rfl)) dX13_isAtRest_1 ⟨Nat.le_of_ble_eq_true rfl, Nat.le_of_ble_eq_true rfl⟩ ⟨rfl, rfl⟩ (fun _ => updR [0, 1, 2, 3, 4, 5, 6, 7, 8, 9] rfl) (fun r u H locs hw hP hD hS => ?_)
  have hw := hw.symm
  subst hw
  have hP : va_P (dC, dI) vwCl (w_X13_isAtRest cy a0 gth gvm gtd gfl grd gnv gac ggm grc gim) H := hP
  have hD : va_D A (w_X13_isAtRest cy a0 gth gvm gtd gfl grd gnv gac ggm grc gim) := hD
  refine lv_istore_n (lv' := [(1, .int v1), (0, .ref (a0 0))]) hx hb dX13_isAtRest_4 rfl hl (by decide) rfl (fun ls hl => ?_)
  refine lv_iconst (v := (0 : Int32)) hx hb dX13_isAtRest_5 (by decide) ?_
  refine lv_istore_n (lv' := [(2, .int (0 : Int32)), (1, .int v1), (0, .ref (a0 0))]) hx hb dX13_isAtRest_6 rfl hl (by decide) rfl (fun ls hl => ?_)
  exact c7 fu v1 (0 : Int32) H locs ls h hP hD hS (lv_sub hl [2, 1, 0] rfl)

abbrev w_X13_rests (cy : Nat → ClassId) (a0 : Nat → Nat) (gth : Int32) (gvm : Int32 × Int32 × Int32 × (Nat → Int32) × (Nat → Int32) × (Nat → Int32) × (Nat → Int32) × (Nat → Int32) × (Nat → Int32) × (Nat → Int32) × (Nat → Int32) × (Nat → Int32)) (gtd : Int32) (gfl : Int32 × Int32) (grd : Int32 × Int32 × Int32 × Int32 × Int32 × Int32 × Int64 × (Nat → Int32)) (gnv : Int32 × Int32 × Int32 × Int32 × Int32 × (Nat → Int32) × (Nat → Int32) × (Nat → Int32) × (Nat → Int32) × (Nat → Int32) × (Nat → Int32)) (gac : Int32 × (Nat → Int32) × (Nat → Int32)) (gla : (Nat → Int32)) (ggm : (Nat → Int32) × (Nat → Int32) × (Nat → Int32)) (grc : Int32 × (Nat → Int32)) (gim : Int32 × Int32 × Int32 × (Nat → Int32) × (Nat → Int32) × (Nat → Int32) × (Nat → Int32) × (Nat → Int32) × (Nat → Int32) × (Nat → Int32) × (Nat → Int32) × (Nat → Int32)) : va_W := [(a0 0, .inr (11, [.int (gth), .int (gvm.1), .int (gvm.2.1), .int (gvm.2.2.1), .ref (a0 1), .ref (a0 2), .ref (a0 3), .ref (a0 4), .ref (a0 5), .ref (a0 6), .ref (a0 7), .ref (a0 8), .ref (a0 9), .ref (a0 10), .int (gtd), .int (gfl.1), .int (gfl.2), .ref (a0 11), .int (grd.1), .int (grd.2.1), .int (grd.2.2.1), .int (grd.2.2.2.1), .int (grd.2.2.2.2.1), .int (grd.2.2.2.2.2.1), .long (grd.2.2.2.2.2.2.1), .ref (a0 12), .int (gnv.1), .int (gnv.2.1), .int (gnv.2.2.1), .int (gnv.2.2.2.1), .int (gnv.2.2.2.2.1), .ref (a0 13), .ref (a0 14), .ref (a0 15), .ref (a0 16), .ref (a0 17), .ref (a0 18), .int (gac.1), .ref (a0 19), .ref (a0 20), .ref (a0 21), .ref (a0 22), .ref (a0 23), .ref (a0 24), .ref (a0 25), .ref (a0 26), .ref (a0 27), .int (grc.1), .ref (a0 28), .ref (a0 29), .ref (a0 30), .ref (a0 31), .int (gim.1), .int (gim.2.1), .int (gim.2.2.1), .ref (a0 32), .ref (a0 33), .ref (a0 34), .ref (a0 35), .ref (a0 36), .ref (a0 37), .ref (a0 38), .ref (a0 39), .ref (a0 40)])), (a0 1, .inl (cy 1, 5, .inl (gvm.2.2.2.1))), (a0 2, .inl (cy 1, 5, .inl (gvm.2.2.2.2.1))), (a0 3, .inl (cy 1, 5, .inl (gvm.2.2.2.2.2.1))), (a0 4, .inl (cy 1, 25, .inl (gvm.2.2.2.2.2.2.1))), (a0 5, .inl (cy 1, 10, .inl (gvm.2.2.2.2.2.2.2.1))), (a0 6, .inl (cy 1, 10, .inl (gvm.2.2.2.2.2.2.2.2.1))), (a0 7, .inl (cy 1, 10, .inl (gvm.2.2.2.2.2.2.2.2.2.1))), (a0 8, .inl (cy 1, 10, .inl (gvm.2.2.2.2.2.2.2.2.2.2.1))), (a0 9, .inl (cy 1, 50, .inl (gvm.2.2.2.2.2.2.2.2.2.2.2))), (a0 21, .inl (cy 1, 620, .inl (gla))), (a0 23, .inl (cy 1, 5, .inl (ggm.1))), (a0 24, .inl (cy 1, 5, .inl (ggm.2.1))), (a0 25, .inl (cy 1, 210, .inl (ggm.2.2)))]
abbrev rm_X13_rests : Room := { frames := 2, cells := 0, slots := 0, locals := 49 }
set_option maxHeartbeats 1000000 in
set_option maxRecDepth 100000 in
theorem c_X13_rests (l : Launch) (dC : Nat → ClassId) (dI : Nat → Nat → Nat) (cy : Nat → ClassId) (a0 : Nat → Nat) (gth : Int32) (gvm : Int32 × Int32 × Int32 × (Nat → Int32) × (Nat → Int32) × (Nat → Int32) × (Nat → Int32) × (Nat → Int32) × (Nat → Int32) × (Nat → Int32) × (Nat → Int32) × (Nat → Int32)) (gtd : Int32) (gfl : Int32 × Int32) (grd : Int32 × Int32 × Int32 × Int32 × Int32 × Int32 × Int64 × (Nat → Int32)) (gnv : Int32 × Int32 × Int32 × Int32 × Int32 × (Nat → Int32) × (Nat → Int32) × (Nat → Int32) × (Nat → Int32) × (Nat → Int32) × (Nat → Int32)) (gac : Int32 × (Nat → Int32) × (Nat → Int32)) (gla : (Nat → Int32)) (ggm : (Nat → Int32) × (Nat → Int32) × (Nat → Int32)) (grc : Int32 × (Nat → Int32)) (gim : Int32 × Int32 × Int32 × (Nat → Int32) × (Nat → Int32) × (Nat → Int32) × (Nat → Int32) × (Nat → Int32) × (Nat → Int32) × (Nat → Int32) × (Nat → Int32) × (Nat → Int32)) (x1 : Int32) (sz : Nat) (R0 : Int32 × (Int32) × ((Nat → Int32)) × ((Nat → Int32) × (Nat → Int32) × (Nat → Int32))) (h : p_X13_rests gth gvm gla ggm x1 = some R0) : Met l yX13_rests wsX13_rests rm_X13_rests (va_Pc [.ref (a0 0), .int x1] (prC dC dI cy (w_X13_rests cy a0 gth gvm gtd gfl grd gnv gac gla ggm grc gim) sz)) (va_Qi (fun (r : Int32) (u : (Int32) × ((Nat → Int32)) × ((Nat → Int32) × (Nat → Int32) × (Nat → Int32))) => r = R0.1 ∧ u = R0.2) (fun (u : (Int32) × ((Nat → Int32)) × ((Nat → Int32) × (Nat → Int32) × (Nat → Int32))) t => poC dC dI cy (w_X13_rests cy a0 u.1 gvm gtd gfl grd gnv gac u.2.1 u.2.2 grc gim) t) (va_A (w_X13_rests cy a0 gth gvm gtd gfl grd gnv gac gla ggm grc gim) sz)) 0 0 (va_A (w_X13_rests cy a0 gth gvm gtd gfl grd gnv gac gla ggm grc gim) sz) := by
  refine Met.ofW (cc := cX13_rests) (maxL := 4) (ret := (some .int)) (by decide) rfl ?_
  intro p e s m aa below meth c s₁ B hml hv
  obtain ⟨haa, hsz, hP, hK, hD0⟩ := hv
  have hx := B.exec
  have hb := B.bytes
  have hr := B.returns
  have hts := atoms_spec (ws := wsX13_rests) B.pre
  have hown : s.vm.findClass RX13 = some m.cls := findClass_of_methodNamed B.named
  have hlocks := B.notSynchronized
  subst hsz
  have hD := hD0.self (sz := s.heap.size)
  obtain ⟨qq, hqq⟩ : ∃ qq, qq = (va_Qi (fun (r : Int32) (u : (Int32) × ((Nat → Int32)) × ((Nat → Int32) × (Nat → Int32) × (Nat → Int32))) => r = R0.1 ∧ u = R0.2) (fun (u : (Int32) × ((Nat → Int32)) × ((Nat → Int32) × (Nat → Int32) × (Nat → Int32))) t => poC dC dI cy (w_X13_rests cy a0 u.1 gvm gtd gfl grd gnv gac u.2.1 u.2.2 grc gim) t) (va_A (w_X13_rests cy a0 gth gvm gtd gfl grd gnv gac gla ggm grc gim) s.heap.size)) := ⟨_, rfl⟩
  rw [← hqq]
  generalize hAe : va_A (w_X13_rests cy a0 gth gvm gtd gfl grd gnv gac gla ggm grc gim) s.heap.size = A at hD hqq ⊢
  have hA : ∀ q : Nat, s.heap.size ≤ q → A q := fun q h => by rw [← hAe]; exact Or.inr h
  have hS : va_S A s.heap s.heap [] := va_S.rf
  have hl := lv_entry ([.ref (a0 0), .int x1]) (n := 4) (Nat.le_of_ble_eq_true rfl)
  have hE : entryFrame m aa 4 = F0 m 0 ((lg_sl ([.ref (a0 0), .int x1]) ++ List.replicate (4 - (lg_sl ([.ref (a0 0), .int x1])).length) Slot.unset).toArray) [] := by rw [haa]; exact lg_entry_eq m _ 4
  refine W.eq hE ?_
  generalize (lg_sl ([.ref (a0 0), .int x1]) ++ List.replicate (4 - (lg_sl ([.ref (a0 0), .int x1])).length) Slot.unset).toArray = ls at hl ⊢
  have hl : lv_has ls 4 [(0, .ref (a0 0)), (1, .int x1)] := hl
  change W p l e rm_X13_rests s m aa below meth c s.heap [] 0 0 (MQ below qq aa s 0 0 A) (F0 m 0 ls [])
  have hS0 := hS
  have lk0 := hts (.fieldLink RX13 83 "GoatDoorsModel" "firstRow" "[I") (by decide +kernel)
  have lk1 := hts (.fieldLink RX13 80 "GoatDoorsModel" "hidden" "[I") (by decide +kernel)
  have lk2 := hts (.fieldLink RX13 245 "GoatDoorsModel" "owners" "I") (by decide +kernel)
  have lk3 := hts (.fieldLink RX13 86 "GoatDoorsModel" "netBy" "[I") (by decide +kernel)
  have lk4 := hts (.fieldLink RX13 135 "GoatDoorsModel" "thrown" "I") (by decide +kernel)
  have in_X13 : ∀ w ∈ wsX130, w ∈ wsX13_rests := by decide +kernel
  have c153 : ∀ (_u : Unit), ∀ (gth : Int32) (gla : (Nat → Int32)) (ggm : (Nat → Int32) × (Nat → Int32) × (Nat → Int32)) (x1 : Int32) (t1 : Int32) (H : Heap) (locs : List Loc) (ls : Array Slot), p_X13_rests_153 gvm gth gla ggm x1 t1 = some R0 → va_P (dC, dI) vwCl (w_X13_rests cy a0 gth gvm gtd gfl grd gnv gac gla ggm grc gim) H → va_D A (w_X13_rests cy a0 gth gvm gtd gfl grd gnv gac gla ggm grc gim) → va_S A s.heap H locs → lv_has ls 4 [(0, .ref (a0 0)), (1, .int x1)] → W p l e rm_X13_rests s m aa below meth c H locs 0 0 (MQ below qq aa s 0 0 A) (F0 m 153 ls [.int t1, .ref (a0 0)]) := by
    intro _ gth gla ggm x1 t1 H locs ls h hP hD hS hl
    unfold p_X13_rests_153 at h
    refine lv_iconst (v := (1 : Int32)) hx hb dX13_rests_153 (by decide) ?_
    obtain ⟨v1, hv2, h⟩ := ok_bind h
    refine cl_vi (w2 := fun (u : (Int32)) => w_X13_rests cy a0 u gvm gtd gfl grd gnv gac gla ggm grc gim) (As := [.int t1, .int (1 : Int32)]) (rest := []) ⟨hx, hb, hml, hown, hts⟩ (c_X13_right l dC dI cy a0 gth gvm gtd gfl grd gnv gac grc gim t1 (1 : Int32) H.size v1 hv2) (cwV 2 hts gX13_rests_X13_right rfl rfl rfl (by decide +kernel) ⟨Nat.le_of_ble_eq_true rfl, Nat.le_of_ble_eq_true rfl⟩) (va_recv hK hP (ci := 11) (q0 := 0) rfl rfl) cl_blind (cl_pre hK hP hD [0] (by decide) rfl) hP hD hS hA [0] rfl rfl hl.1 rfl (lv_room (Nat.le_of_ble_eq_true rfl)) dX13_rests_154 ⟨Nat.le_of_ble_eq_true rfl, Nat.le_of_ble_eq_true rfl⟩ ⟨rfl, rfl⟩ (fun _ => updM [0] [1, 2, 3, 4, 5, 6, 7, 8, 9, 10, 11, 12, 13] [(a0 1, .inl (cy 1, 5, .inl (gvm.2.2.2.1))), (a0 2, .inl (cy 1, 5, .inl (gvm.2.2.2.2.1))), (a0 3, .inl (cy 1, 5, .inl (gvm.2.2.2.2.2.1))), (a0 4, .inl (cy 1, 25, .inl (gvm.2.2.2.2.2.2.1))), (a0 5, .inl (cy 1, 10, .inl (gvm.2.2.2.2.2.2.2.1))), (a0 6, .inl (cy 1, 10, .inl (gvm.2.2.2.2.2.2.2.2.1))), (a0 7, .inl (cy 1, 10, .inl (gvm.2.2.2.2.2.2.2.2.2.1))), (a0 8, .inl (cy 1, 10, .inl (gvm.2.2.2.2.2.2.2.2.2.2.1))), (a0 9, .inl (cy 1, 50, .inl (gvm.2.2.2.2.2.2.2.2.2.2.2))), (a0 21, .inl (cy 1, 620, .inl (gla))), (a0 23, .inl (cy 1, 5, .inl (ggm.1))), (a0 24, .inl (cy 1, 5, .inl (ggm.2.1))), (a0 25, .inl (cy 1, 210, .inl (ggm.2.2)))] 14 rfl rfl rfl rfl rfl (by decide +kernel) (by decide +kernel) rfl) (fun r u H locs hw hP hD hS => ?_)
    obtain ⟨rfl, rfl⟩ := hw
    have hP : va_P (dC, dI) vwCl (w_X13_rests cy a0 v1.2 gvm gtd gfl grd gnv gac gla ggm grc gim) H := hP
    have hD : va_D A (w_X13_rests cy a0 v1.2 gvm gtd gfl grd gnv gac gla ggm grc gim) := hD
    refine lv_if_eq (tgt := 169) hx hb dX13_rests_157 (by decide) (fun c3 => ?_) (fun c3 => ?_)
    · rw [if_pos c3] at h
      refine lv_iconst (v := (0 : Int32)) hx hb dX13_rests_169 (by decide) ?_
      exact W.iret (v := (0 : Int32)) hx hb hr (fun t ht hW => by rw [hqq]; have hh := Option.some.inj h; exact ⟨⟨(0 : Int32), ((v1.2, gla, ggm)), rfl, ⟨fst_of hh, snd_of hh⟩, by rw [ht]; exact hP, va_K.moved hW.alike hK⟩, hS.F ht⟩) hS.2.2 dX13_rests_170
    · rw [if_neg c3] at h
      refine lv_aload_n hx hb dX13_rests_160 rfl (lv_at hl 0 rfl) ?_
      refine va_get (D := (dC, dI)) (ci := 11) (v := .ref (a0 24)) (C := RX13) (T := TX13) (N := 64) hx hb hts in_X13 hown hK hP 0 rfl rfl 43 (by decide) lk0 (fun _ h9 => h9) rfl dX13_rests_161 ?_
      refine lv_iload_n hx hb dX13_rests_164 rfl (lv_at hl 1 rfl) ?_
      obtain ⟨hi4, h⟩ := ok_if h
      refine va_iald hx hb hK hP 12 1 rfl rfl (ix_in hi4) dX13_rests_165 ?_
      refine lv_goto (tgt := 170) hx hb dX13_rests_166 (by decide) ?_
      exact W.iret (v := (ggm.2.1 x1.toNatClampNeg)) hx hb hr (fun t ht hW => by rw [hqq]; have hh := Option.some.inj h; exact ⟨⟨(ggm.2.1 x1.toNatClampNeg), ((v1.2, gla, ggm)), rfl, ⟨fst_of hh, snd_of hh⟩, by rw [ht]; exact hP, va_K.moved hW.alike hK⟩, hS.F ht⟩) hS.2.2 dX13_rests_170
  have c128 : ∀ (k98 : (Int32) → ((Nat → Int32)) → ((Nat → Int32) × (Nat → Int32) × (Nat → Int32)) → Int32 → Int32 → Int32 → Option (Int32 × (Int32) × ((Nat → Int32)) × ((Nat → Int32) × (Nat → Int32) × (Nat → Int32)))) (hk98 : ∀ (gth : Int32) (gla : (Nat → Int32)) (ggm : (Nat → Int32) × (Nat → Int32) × (Nat → Int32)) (x1 : Int32) (x2 : Int32) (x3 : Int32) (H : Heap) (locs : List Loc) (ls : Array Slot), k98 gth gla ggm x1 x2 x3 = some R0 → va_P (dC, dI) vwCl (w_X13_rests cy a0 gth gvm gtd gfl grd gnv gac gla ggm grc gim) H → va_D A (w_X13_rests cy a0 gth gvm gtd gfl grd gnv gac gla ggm grc gim) → va_S A s.heap H locs → lv_has ls 4 [(0, .ref (a0 0)), (1, .int x1), (2, .int x2), (3, .int x3)] → W p l e rm_X13_rests s m aa below meth c H locs 0 0 (MQ below qq aa s 0 0 A) (F0 m 98 ls [])), ∀ (gth : Int32) (gla : (Nat → Int32)) (ggm : (Nat → Int32) × (Nat → Int32) × (Nat → Int32)) (x1 : Int32) (x2 : Int32) (H : Heap) (locs : List Loc) (ls : Array Slot), p_X13_rests_128 k98 gvm gth gla ggm x1 x2 = some R0 → va_P (dC, dI) vwCl (w_X13_rests cy a0 gth gvm gtd gfl grd gnv gac gla ggm grc gim) H → va_D A (w_X13_rests cy a0 gth gvm gtd gfl grd gnv gac gla ggm grc gim) → va_S A s.heap H locs → lv_has ls 4 [(0, .ref (a0 0)), (1, .int x1), (2, .int x2)] → W p l e rm_X13_rests s m aa below meth c H locs 0 0 (MQ below qq aa s 0 0 A) (F0 m 128 ls []) := by
    intro k98 hk98 gth gla ggm x1 x2 H locs ls h hP hD hS hl
    unfold p_X13_rests_128 at h
    refine lv_aload_n hx hb dX13_rests_128 rfl (lv_at hl 0 rfl) ?_
    obtain ⟨v1, hv2, h⟩ := ok_bind h
    refine cl_vi (w2 := fun (u : ((Nat → Int32) × (Nat → Int32) × (Nat → Int32))) => w_X13_rests cy a0 gth gvm gtd gfl grd gnv gac gla u grc gim) (As := []) (rest := []) ⟨hx, hb, hml, hown, hts⟩ (c_X13_countsUp l dC dI cy a0 gth gvm gtd gfl grd gnv gac ggm grc gim H.size v1 hv2) (cwV 0 hts gX13_rests_X13_countsUp rfl rfl rfl (by decide +kernel) ⟨Nat.le_of_ble_eq_true rfl, Nat.le_of_ble_eq_true rfl⟩) (va_recv hK hP (ci := 11) (q0 := 0) rfl rfl) cl_blind (cl_pre hK hP hD [0, 1, 2, 3, 4, 5, 6, 7, 8, 9, 11, 12, 13] (by decide) rfl) hP hD hS hA [0, 1, 2, 3, 4, 5, 6, 7, 8, 9, 11, 12, 13] rfl rfl hl.1 rfl (lv_room (Nat.le_of_ble_eq_true rfl)) dX13_rests_129 ⟨Nat.le_of_ble_eq_true rfl, Nat.le_of_ble_eq_true rfl⟩ ⟨rfl, rfl⟩ (fun _ => updM [0, 1, 2, 3, 4, 5, 6, 7, 8, 9, 11, 12, 13] [10] [(a0 21, .inl (cy 1, 620, .inl (gla)))] 14 rfl rfl rfl rfl rfl (by decide +kernel) (by decide +kernel) rfl) (fun r u H locs hw hP hD hS => ?_)
    obtain ⟨rfl, rfl⟩ := hw
    have hP : va_P (dC, dI) vwCl (w_X13_rests cy a0 gth gvm gtd gfl grd gnv gac gla v1.2 grc gim) H := hP
    have hD : va_D A (w_X13_rests cy a0 gth gvm gtd gfl grd gnv gac gla v1.2 grc gim) := hD
    refine lv_istore_n (lv' := [(3, .int v1.1), (0, .ref (a0 0)), (1, .int x1), (2, .int x2)]) hx hb dX13_rests_132 rfl hl (by decide) rfl (fun ls hl => ?_)
    refine lv_goto (tgt := 98) hx hb dX13_rests_133 (by decide) ?_
    exact hk98 gth gla v1.2 x1 x2 v1.1 H locs ls h hP hD hS (lv_sub hl [1, 2, 3, 0] rfl)
  have c125 : ∀ (k98 : (Int32) → ((Nat → Int32)) → ((Nat → Int32) × (Nat → Int32) × (Nat → Int32)) → Int32 → Int32 → Int32 → Option (Int32 × (Int32) × ((Nat → Int32)) × ((Nat → Int32) × (Nat → Int32) × (Nat → Int32)))) (hk98 : ∀ (gth : Int32) (gla : (Nat → Int32)) (ggm : (Nat → Int32) × (Nat → Int32) × (Nat → Int32)) (x1 : Int32) (x2 : Int32) (x3 : Int32) (H : Heap) (locs : List Loc) (ls : Array Slot), k98 gth gla ggm x1 x2 x3 = some R0 → va_P (dC, dI) vwCl (w_X13_rests cy a0 gth gvm gtd gfl grd gnv gac gla ggm grc gim) H → va_D A (w_X13_rests cy a0 gth gvm gtd gfl grd gnv gac gla ggm grc gim) → va_S A s.heap H locs → lv_has ls 4 [(0, .ref (a0 0)), (1, .int x1), (2, .int x2), (3, .int x3)] → W p l e rm_X13_rests s m aa below meth c H locs 0 0 (MQ below qq aa s 0 0 A) (F0 m 98 ls [])), ∀ (gth : Int32) (gla : (Nat → Int32)) (ggm : (Nat → Int32) × (Nat → Int32) × (Nat → Int32)) (x1 : Int32) (x2 : Int32) (H : Heap) (locs : List Loc) (ls : Array Slot), p_X13_rests_125 k98 gvm gth gla ggm x1 x2 = some R0 → va_P (dC, dI) vwCl (w_X13_rests cy a0 gth gvm gtd gfl grd gnv gac gla ggm grc gim) H → va_D A (w_X13_rests cy a0 gth gvm gtd gfl grd gnv gac gla ggm grc gim) → va_S A s.heap H locs → lv_has ls 4 [(0, .ref (a0 0)), (1, .int x1), (2, .int x2)] → W p l e rm_X13_rests s m aa below meth c H locs 0 0 (MQ below qq aa s 0 0 A) (F0 m 125 ls []) := by
    intro k98 hk98 gth gla ggm x1 x2 H locs ls h hP hD hS hl
    unfold p_X13_rests_125 at h
    refine lv_iinc (v := (x2 + (1 : Int32))) (lv' := [(2, .int (x2 + (1 : Int32))), (0, .ref (a0 0)), (1, .int x1)]) hx hb dX13_rests_125 hl (k := 2) rfl rfl (by decide) rfl (fun ls hl => ?_)
    exact c128 k98 hk98 gth gla ggm x1 (x2 + (1 : Int32)) H locs ls h hP hD hS (lv_sub hl [1, 2, 0] rfl)
  have c98 : ∀ (n : Nat), ∀ (gth : Int32) (gla : (Nat → Int32)) (ggm : (Nat → Int32) × (Nat → Int32) × (Nat → Int32)) (x1 : Int32) (x2 : Int32) (x3 : Int32) (H : Heap) (locs : List Loc) (ls : Array Slot), p_X13_rests_98 gvm n gth gla ggm x1 x2 x3 = some R0 → va_P (dC, dI) vwCl (w_X13_rests cy a0 gth gvm gtd gfl grd gnv gac gla ggm grc gim) H → va_D A (w_X13_rests cy a0 gth gvm gtd gfl grd gnv gac gla ggm grc gim) → va_S A s.heap H locs → lv_has ls 4 [(0, .ref (a0 0)), (1, .int x1), (2, .int x2), (3, .int x3)] → W p l e rm_X13_rests s m aa below meth c H locs 0 0 (MQ below qq aa s 0 0 A) (F0 m 98 ls []) := by
    intro  n
    induction n with
    | zero => intro gth gla ggm x1 x2 x3 H locs ls h; exact no_some h
    | succ n ih =>
      intro gth gla ggm x1 x2 x3 H locs ls h hP hD hS hl
      rw [p_X13_rests_98.eq_2] at h
      refine lv_iload_n hx hb dX13_rests_98 rfl (lv_at hl 3 rfl) ?_
      refine lv_if_eq (tgt := 136) hx hb dX13_rests_99 (by decide) (fun c1 => ?_) (fun c1 => ?_)
      · rw [if_pos c1] at h
        refine lv_iload_n hx hb dX13_rests_136 rfl (lv_at hl 1 rfl) ?_
        refine lv_iconst (v := (-1 : Int32)) hx hb dX13_rests_137 (by decide) ?_
        refine lv_icmp_ne (tgt := 143) hx hb dX13_rests_138 (by decide) (fun c2 => ?_) (fun c2 => ?_)
        · rw [if_neg c2] at h
          refine lv_aload_n hx hb dX13_rests_143 rfl (lv_at hl 0 rfl) ?_
          refine lv_iload_n hx hb dX13_rests_144 rfl (lv_at hl 2 rfl) ?_
          refine lv_if_le (tgt := 152) hx hb dX13_rests_145 (by decide) (fun c3 => ?_) (fun c3 => ?_)
          · rw [if_pos c3] at h
            refine lv_iconst (v := (0 : Int32)) hx hb dX13_rests_152 (by decide) ?_
            exact c153 () gth gla ggm x1 (0 : Int32) H locs ls h hP hD hS (lv_sub hl [0, 1] rfl)
          · rw [if_neg c3] at h
            refine lv_iconst (v := (1 : Int32)) hx hb dX13_rests_148 (by decide) ?_
            refine lv_goto (tgt := 153) hx hb dX13_rests_149 (by decide) ?_
            exact c153 () gth gla ggm x1 (1 : Int32) H locs ls h hP hD hS (lv_sub hl [0, 1] rfl)
        · rw [if_pos c2] at h
          refine lv_iload_n hx hb dX13_rests_141 rfl (lv_at hl 2 rfl) ?_
          exact W.iret (v := x2) hx hb hr (fun t ht hW => by rw [hqq]; have hh := Option.some.inj h; exact ⟨⟨x2, ((gth, gla, ggm)), rfl, ⟨fst_of hh, snd_of hh⟩, by rw [ht]; exact hP, va_K.moved hW.alike hK⟩, hS.F ht⟩) hS.2.2 dX13_rests_142
      · rw [if_neg c1] at h
        refine lv_aload_n hx hb dX13_rests_102 rfl (lv_at hl 0 rfl) ?_
        obtain ⟨v4, hv5, h⟩ := ok_bind h
        refine cl_vi (w2 := fun (_ : Unit) => w_X13_rests cy a0 gth gvm gtd gfl grd gnv gac gla ggm grc gim) (As := []) (rest := []) ⟨hx, hb, hml, hown, hts⟩ (c_X13_isAtRest l dC dI cy a0 gth gvm gtd gfl grd gnv gac ggm grc gim H.size v4 hv5) (cwV 0 hts gX13_rests_X13_isAtRest rfl rfl rfl (by decide +kernel) ⟨Nat.le_of_ble_eq_true rfl, Nat.le_of_ble_eq_true rfl⟩) (va_recv hK hP (ci := 11) (q0 := 0) rfl rfl) cl_blind (cl_pre hK hP hD [0, 1, 2, 3, 4, 5, 6, 7, 8, 9, 11, 12, 13] (by decide) rfl) hP hD hS hA [0, 1, 2, 3, 4, 5, 6, 7, 8, 9, 11, 12, 13] rfl rfl hl.1 rfl (lv_room (Nat.le_of_ble_eq_true rfl)) dX13_rests_103 ⟨Nat.le_of_ble_eq_true rfl, Nat.le_of_ble_eq_true rfl⟩ ⟨rfl, rfl⟩ (fun _ => updR [0, 1, 2, 3, 4, 5, 6, 7, 8, 9, 11, 12, 13] rfl) (fun r u H locs hw hP hD hS => ?_)
        have hw := hw.symm
        subst hw
        have hP : va_P (dC, dI) vwCl (w_X13_rests cy a0 gth gvm gtd gfl grd gnv gac gla ggm grc gim) H := hP
        have hD : va_D A (w_X13_rests cy a0 gth gvm gtd gfl grd gnv gac gla ggm grc gim) := hD
        refine lv_if_eq (tgt := 128) hx hb dX13_rests_106 (by decide) (fun c6 => ?_) (fun c6 => ?_)
        · rw [if_pos c6] at h
          exact c128 (p_X13_rests_98 gvm n) ih gth gla ggm x1 x2 H locs ls h hP hD hS (lv_sub hl [0, 1, 2] rfl)
        · rw [if_neg c6] at h
          refine lv_iload_n hx hb dX13_rests_109 rfl (lv_at hl 2 rfl) ?_
          refine lv_if_ne (tgt := 125) hx hb dX13_rests_110 (by decide) (fun c7 => ?_) (fun c7 => ?_)
          · rw [if_neg c7] at h
            exact c125 (p_X13_rests_98 gvm n) ih gth gla ggm x1 x2 H locs ls h hP hD hS (lv_sub hl [0, 1, 2] rfl)
          · rw [if_pos c7] at h
            refine lv_aload_n hx hb dX13_rests_113 rfl (lv_at hl 0 rfl) ?_
            refine lv_aload_n hx hb dX13_rests_114 rfl (lv_at hl 0 rfl) ?_
            refine va_get (D := (dC, dI)) (ci := 11) (v := .ref (a0 23)) (C := RX13) (T := TX13) (N := 64) hx hb hts in_X13 hown hK hP 0 rfl rfl 42 (by decide) lk1 (fun _ h9 => h9) rfl dX13_rests_115 ?_
            refine lv_aload_n hx hb dX13_rests_118 rfl (lv_at hl 0 rfl) ?_
            refine va_get (D := (dC, dI)) (ci := 11) (v := .ref (a0 24)) (C := RX13) (T := TX13) (N := 64) hx hb hts in_X13 hown hK hP 0 rfl rfl 43 (by decide) lk0 (fun _ h9 => h9) rfl dX13_rests_119 ?_
            obtain ⟨v8, hv9, h⟩ := ok_bind h
            refine cl_vv (w2 := fun (u : ((Nat → Int32))) => w_X13_rests cy a0 gth gvm gtd gfl grd gnv gac gla ((ggm.1, u, ggm.2.2)) grc gim) (As := [.ref (a0 23), .ref (a0 24)]) (rest := []) ⟨hx, hb, hml, hown, hts⟩ (c_X13_copies l dC dI cy a0 (fun k => a0 (k + 23)) (fun k => a0 (k + 24)) 5 5 ggm.1 ggm.2.1 H.size v8 hv9) (cwV 2 hts gX13_rests_X13_copies rfl rfl rfl (by decide +kernel) ⟨Nat.le_of_ble_eq_true rfl, Nat.le_of_ble_eq_true rfl⟩) (va_recv hK hP (ci := 11) (q0 := 0) rfl rfl) cl_blind (cl_pre hK hP hD [11, 12] (by decide) rfl) hP hD hS hA [11, 12] rfl rfl hl.1 rfl (lv_room (Nat.le_of_ble_eq_true rfl)) dX13_rests_122 ⟨Nat.le_of_ble_eq_true rfl, Nat.le_of_ble_eq_true rfl⟩ ⟨rfl, rfl⟩ (fun _ => updM [11, 12] [0, 1, 2, 3, 4, 5, 6, 7, 8, 9, 10, 13] [(a0 0, .inr (11, [.int (gth), .int (gvm.1), .int (gvm.2.1), .int (gvm.2.2.1), .ref (a0 1), .ref (a0 2), .ref (a0 3), .ref (a0 4), .ref (a0 5), .ref (a0 6), .ref (a0 7), .ref (a0 8), .ref (a0 9), .ref (a0 10), .int (gtd), .int (gfl.1), .int (gfl.2), .ref (a0 11), .int (grd.1), .int (grd.2.1), .int (grd.2.2.1), .int (grd.2.2.2.1), .int (grd.2.2.2.2.1), .int (grd.2.2.2.2.2.1), .long (grd.2.2.2.2.2.2.1), .ref (a0 12), .int (gnv.1), .int (gnv.2.1), .int (gnv.2.2.1), .int (gnv.2.2.2.1), .int (gnv.2.2.2.2.1), .ref (a0 13), .ref (a0 14), .ref (a0 15), .ref (a0 16), .ref (a0 17), .ref (a0 18), .int (gac.1), .ref (a0 19), .ref (a0 20), .ref (a0 21), .ref (a0 22), .ref (a0 23), .ref (a0 24), .ref (a0 25), .ref (a0 26), .ref (a0 27), .int (grc.1), .ref (a0 28), .ref (a0 29), .ref (a0 30), .ref (a0 31), .int (gim.1), .int (gim.2.1), .int (gim.2.2.1), .ref (a0 32), .ref (a0 33), .ref (a0 34), .ref (a0 35), .ref (a0 36), .ref (a0 37), .ref (a0 38), .ref (a0 39), .ref (a0 40)])), (a0 1, .inl (cy 1, 5, .inl (gvm.2.2.2.1))), (a0 2, .inl (cy 1, 5, .inl (gvm.2.2.2.2.1))), (a0 3, .inl (cy 1, 5, .inl (gvm.2.2.2.2.2.1))), (a0 4, .inl (cy 1, 25, .inl (gvm.2.2.2.2.2.2.1))), (a0 5, .inl (cy 1, 10, .inl (gvm.2.2.2.2.2.2.2.1))), (a0 6, .inl (cy 1, 10, .inl (gvm.2.2.2.2.2.2.2.2.1))), (a0 7, .inl (cy 1, 10, .inl (gvm.2.2.2.2.2.2.2.2.2.1))), (a0 8, .inl (cy 1, 10, .inl (gvm.2.2.2.2.2.2.2.2.2.2.1))), (a0 9, .inl (cy 1, 50, .inl (gvm.2.2.2.2.2.2.2.2.2.2.2))), (a0 21, .inl (cy 1, 620, .inl (gla))), (a0 25, .inl (cy 1, 210, .inl (ggm.2.2)))] 14 rfl rfl rfl rfl rfl (by decide +kernel) (by decide +kernel) rfl) (fun u H locs hw hP hD hS => ?_)
            have hw := hw.symm
            subst hw
            have hP : va_P (dC, dI) vwCl (w_X13_rests cy a0 gth gvm gtd gfl grd gnv gac gla ((ggm.1, v8, ggm.2.2)) grc gim) H := hP
            have hD : va_D A (w_X13_rests cy a0 gth gvm gtd gfl grd gnv gac gla ((ggm.1, v8, ggm.2.2)) grc gim) := hD
            exact c125 (p_X13_rests_98 gvm n) ih gth gla (ggm.1, v8, ggm.2.2) x1 x2 H locs ls h hP hD hS (lv_sub hl [0, 1, 2] rfl)
  have c73 : ∀ (n : Nat), ∀ (gth : Int32) (gla : (Nat → Int32)) (ggm : (Nat → Int32) × (Nat → Int32) × (Nat → Int32)) (x1 : Int32) (x2 : Int32) (H : Heap) (locs : List Loc) (ls : Array Slot), p_X13_rests_73 gvm n gth gla ggm x1 x2 = some R0 → va_P (dC, dI) vwCl (w_X13_rests cy a0 gth gvm gtd gfl grd gnv gac gla ggm grc gim) H → va_D A (w_X13_rests cy a0 gth gvm gtd gfl grd gnv gac gla ggm grc gim) → va_S A s.heap H locs → lv_has ls 4 [(0, .ref (a0 0)), (1, .int x1), (2, .int x2)] → W p l e rm_X13_rests s m aa below meth c H locs 0 0 (MQ below qq aa s 0 0 A) (F0 m 73 ls []) := by
    intro  n
    induction n with
    | zero => intro gth gla ggm x1 x2 H locs ls h; exact no_some h
    | succ n ih =>
      intro gth gla ggm x1 x2 H locs ls h hP hD hS hl
      rw [p_X13_rests_73.eq_2] at h
      refine lv_iload_n hx hb dX13_rests_73 rfl (lv_at hl 2 rfl) ?_
      refine lv_aload_n hx hb dX13_rests_74 rfl (lv_at hl 0 rfl) ?_
      refine va_get (D := (dC, dI)) (ci := 11) (v := .int gvm.1) (C := RX13) (T := TX13) (N := 64) hx hb hts in_X13 hown hK hP 0 rfl rfl 1 (by decide) lk2 (fun _ h9 => h9) rfl dX13_rests_75 ?_
      refine lv_icmp_ge (tgt := 94) hx hb dX13_rests_78 (by decide) (fun c1 => ?_) (fun c1 => ?_)
      · rw [if_pos c1] at h
        refine lv_iconst (v := (0 : Int32)) hx hb dX13_rests_94 (by decide) ?_
        refine lv_istore_n (lv' := [(2, .int (0 : Int32)), (0, .ref (a0 0)), (1, .int x1)]) hx hb dX13_rests_95 rfl hl (by decide) rfl (fun ls hl => ?_)
        refine lv_iconst (v := (1 : Int32)) hx hb dX13_rests_96 (by decide) ?_
        refine lv_istore_n (lv' := [(3, .int (1 : Int32)), (2, .int (0 : Int32)), (0, .ref (a0 0)), (1, .int x1)]) hx hb dX13_rests_97 rfl hl (by decide) rfl (fun ls hl => ?_)
        exact c98 fu gth gla ggm x1 (0 : Int32) (1 : Int32) H locs ls h hP hD hS (lv_sub hl [2, 3, 1, 0] rfl)
      · rw [if_neg c1] at h
        refine lv_aload_n hx hb dX13_rests_81 rfl (lv_at hl 0 rfl) ?_
        refine va_get (D := (dC, dI)) (ci := 11) (v := .ref (a0 23)) (C := RX13) (T := TX13) (N := 64) hx hb hts in_X13 hown hK hP 0 rfl rfl 42 (by decide) lk1 (fun _ h9 => h9) rfl dX13_rests_82 ?_
        refine lv_iload_n hx hb dX13_rests_85 rfl (lv_at hl 2 rfl) ?_
        refine lv_iconst (v := (0 : Int32)) hx hb dX13_rests_86 (by decide) ?_
        obtain ⟨hi2, h⟩ := ok_if h
        refine va_iast hx hb hK hP hD hS 11 1 rfl rfl (ix_in hi2) dX13_rests_87 (fun H locs hP hD hS => ?_)
        have hP : va_P (dC, dI) vwCl (w_X13_rests cy a0 gth gvm gtd gfl grd gnv gac gla (((upd ggm.1 x2.toNatClampNeg (0 : Int32)), ggm.2)) grc gim) H := hP
        have hD : va_D A (w_X13_rests cy a0 gth gvm gtd gfl grd gnv gac gla (((upd ggm.1 x2.toNatClampNeg (0 : Int32)), ggm.2)) grc gim) := hD
        refine lv_iinc (v := (x2 + (1 : Int32))) (lv' := [(2, .int (x2 + (1 : Int32))), (0, .ref (a0 0)), (1, .int x1)]) hx hb dX13_rests_88 hl (k := 2) rfl rfl (by decide) rfl (fun ls hl => ?_)
        refine lv_goto (tgt := 73) hx hb dX13_rests_91 (by decide) ?_
        exact ih gth gla ((upd ggm.1 x2.toNatClampNeg (0 : Int32)), ggm.2) x1 (x2 + (1 : Int32)) H locs ls h hP hD hS (lv_sub hl [1, 2, 0] rfl)
  have c36 : ∀ (k26 : (Int32) → ((Nat → Int32)) → ((Nat → Int32) × (Nat → Int32) × (Nat → Int32)) → Int32 → Int32 → Option (Int32 × (Int32) × ((Nat → Int32)) × ((Nat → Int32) × (Nat → Int32) × (Nat → Int32)))) (hk26 : ∀ (gth : Int32) (gla : (Nat → Int32)) (ggm : (Nat → Int32) × (Nat → Int32) × (Nat → Int32)) (x1 : Int32) (x2 : Int32) (H : Heap) (locs : List Loc) (ls : Array Slot), k26 gth gla ggm x1 x2 = some R0 → va_P (dC, dI) vwCl (w_X13_rests cy a0 gth gvm gtd gfl grd gnv gac gla ggm grc gim) H → va_D A (w_X13_rests cy a0 gth gvm gtd gfl grd gnv gac gla ggm grc gim) → va_S A s.heap H locs → lv_has ls 4 [(0, .ref (a0 0)), (1, .int x1), (2, .int x2)] → W p l e rm_X13_rests s m aa below meth c H locs 0 0 (MQ below qq aa s 0 0 A) (F0 m 26 ls [])) (n : Nat), ∀ (gth : Int32) (gla : (Nat → Int32)) (ggm : (Nat → Int32) × (Nat → Int32) × (Nat → Int32)) (x1 : Int32) (x2 : Int32) (x3 : Int32) (H : Heap) (locs : List Loc) (ls : Array Slot), p_X13_rests_36 k26 gvm n gth gla ggm x1 x2 x3 = some R0 → va_P (dC, dI) vwCl (w_X13_rests cy a0 gth gvm gtd gfl grd gnv gac gla ggm grc gim) H → va_D A (w_X13_rests cy a0 gth gvm gtd gfl grd gnv gac gla ggm grc gim) → va_S A s.heap H locs → lv_has ls 4 [(0, .ref (a0 0)), (1, .int x1), (2, .int x2), (3, .int x3)] → W p l e rm_X13_rests s m aa below meth c H locs 0 0 (MQ below qq aa s 0 0 A) (F0 m 36 ls []) := by
    intro k26 hk26 n
    induction n with
    | zero => intro gth gla ggm x1 x2 x3 H locs ls h; exact no_some h
    | succ n ih =>
      intro gth gla ggm x1 x2 x3 H locs ls h hP hD hS hl
      rw [p_X13_rests_36.eq_2] at h
      refine lv_iload_n hx hb dX13_rests_36 rfl (lv_at hl 3 rfl) ?_
      refine lv_bipush (v := (40 : Int32)) hx hb dX13_rests_37 (by decide) ?_
      refine lv_icmp_gt (tgt := 65) hx hb dX13_rests_39 (by decide) (fun c1 => ?_) (fun c1 => ?_)
      · rw [if_pos c1] at h
        refine lv_iinc (v := (x2 + (1 : Int32))) (lv' := [(2, .int (x2 + (1 : Int32))), (0, .ref (a0 0)), (1, .int x1), (3, .int x3)]) hx hb dX13_rests_65 hl (k := 2) rfl rfl (by decide) rfl (fun ls hl => ?_)
        refine lv_goto (tgt := 26) hx hb dX13_rests_68 (by decide) ?_
        exact hk26 gth gla ggm x1 (x2 + (1 : Int32)) H locs ls h hP hD hS (lv_sub hl [1, 2, 0] rfl)
      · rw [if_neg c1] at h
        refine lv_aload_n hx hb dX13_rests_42 rfl (lv_at hl 0 rfl) ?_
        refine va_get (D := (dC, dI)) (ci := 11) (v := .ref (a0 25)) (C := RX13) (T := TX13) (N := 64) hx hb hts in_X13 hown hK hP 0 rfl rfl 44 (by decide) lk3 (fun _ h9 => h9) rfl dX13_rests_43 ?_
        refine lv_bipush (v := (42 : Int32)) hx hb dX13_rests_46 (by decide) ?_
        refine lv_iload_n hx hb dX13_rests_48 rfl (lv_at hl 2 rfl) ?_
        refine lv_imul hx hb dX13_rests_49 ?_
        refine lv_iload_n hx hb dX13_rests_50 rfl (lv_at hl 3 rfl) ?_
        refine lv_iadd hx hb dX13_rests_51 ?_
        refine lv_aload_n hx hb dX13_rests_52 rfl (lv_at hl 0 rfl) ?_
        refine lv_iload_n hx hb dX13_rests_53 rfl (lv_at hl 2 rfl) ?_
        refine lv_iload_n hx hb dX13_rests_54 rfl (lv_at hl 3 rfl) ?_
        obtain ⟨v2, hv3, h⟩ := ok_bind h
        refine cl_vi (w2 := fun (_ : Unit) => w_X13_rests cy a0 gth gvm gtd gfl grd gnv gac gla ggm grc gim) (As := [.int x2, .int x3]) (rest := [.int (((42 : Int32) * x2) + x3), .ref (a0 25)]) ⟨hx, hb, hml, hown, hts⟩ (c_X13_net l dC dI cy a0 gth gvm gtd gfl grd gnv gac gla grc gim x2 x3 H.size v2 hv3) (cwV 2 hts gX13_rests_X13_net rfl rfl rfl (by decide +kernel) ⟨Nat.le_of_ble_eq_true rfl, Nat.le_of_ble_eq_true rfl⟩) (va_recv hK hP (ci := 11) (q0 := 0) rfl rfl) cl_blind (cl_pre hK hP hD [0, 1, 2, 3, 4, 5, 6, 7, 8, 9, 10] (by decide) rfl) hP hD hS hA [0, 1, 2, 3, 4, 5, 6, 7, 8, 9, 10] rfl rfl hl.1 rfl (lv_room (Nat.le_of_ble_eq_true rfl)) dX13_rests_55 ⟨Nat.le_of_ble_eq_true rfl, Nat.le_of_ble_eq_true rfl⟩ ⟨rfl, rfl⟩ (fun _ => updR [0, 1, 2, 3, 4, 5, 6, 7, 8, 9, 10] rfl) (fun r u H locs hw hP hD hS => ?_)
        have hw := hw.symm
        subst hw
        have hP : va_P (dC, dI) vwCl (w_X13_rests cy a0 gth gvm gtd gfl grd gnv gac gla ggm grc gim) H := hP
        have hD : va_D A (w_X13_rests cy a0 gth gvm gtd gfl grd gnv gac gla ggm grc gim) := hD
        obtain ⟨hi4, h⟩ := ok_if h
        refine va_iast hx hb hK hP hD hS 13 1 rfl rfl (ix_in hi4) dX13_rests_58 (fun H locs hP hD hS => ?_)
        have hP : va_P (dC, dI) vwCl (w_X13_rests cy a0 gth gvm gtd gfl grd gnv gac gla ((ggm.1, ggm.2.1, (upd ggm.2.2 (((42 : Int32) * x2) + x3).toNatClampNeg v2))) grc gim) H := hP
        have hD : va_D A (w_X13_rests cy a0 gth gvm gtd gfl grd gnv gac gla ((ggm.1, ggm.2.1, (upd ggm.2.2 (((42 : Int32) * x2) + x3).toNatClampNeg v2))) grc gim) := hD
        refine lv_iinc (v := (x3 + (1 : Int32))) (lv' := [(3, .int (x3 + (1 : Int32))), (0, .ref (a0 0)), (1, .int x1), (2, .int x2)]) hx hb dX13_rests_59 hl (k := 3) rfl rfl (by decide) rfl (fun ls hl => ?_)
        refine lv_goto (tgt := 36) hx hb dX13_rests_62 (by decide) ?_
        exact ih gth gla (ggm.1, ggm.2.1, (upd ggm.2.2 (((42 : Int32) * x2) + x3).toNatClampNeg v2)) x1 x2 (x3 + (1 : Int32)) H locs ls h hP hD hS (lv_sub hl [1, 2, 3, 0] rfl)
  have c26 : ∀ (n : Nat), ∀ (gth : Int32) (gla : (Nat → Int32)) (ggm : (Nat → Int32) × (Nat → Int32) × (Nat → Int32)) (x1 : Int32) (x2 : Int32) (H : Heap) (locs : List Loc) (ls : Array Slot), p_X13_rests_26 gvm n gth gla ggm x1 x2 = some R0 → va_P (dC, dI) vwCl (w_X13_rests cy a0 gth gvm gtd gfl grd gnv gac gla ggm grc gim) H → va_D A (w_X13_rests cy a0 gth gvm gtd gfl grd gnv gac gla ggm grc gim) → va_S A s.heap H locs → lv_has ls 4 [(0, .ref (a0 0)), (1, .int x1), (2, .int x2)] → W p l e rm_X13_rests s m aa below meth c H locs 0 0 (MQ below qq aa s 0 0 A) (F0 m 26 ls []) := by
    intro  n
    induction n with
    | zero => intro gth gla ggm x1 x2 H locs ls h; exact no_some h
    | succ n ih =>
      intro gth gla ggm x1 x2 H locs ls h hP hD hS hl
      rw [p_X13_rests_26.eq_2] at h
      refine lv_iload_n hx hb dX13_rests_26 rfl (lv_at hl 2 rfl) ?_
      refine lv_aload_n hx hb dX13_rests_27 rfl (lv_at hl 0 rfl) ?_
      refine va_get (D := (dC, dI)) (ci := 11) (v := .int gvm.1) (C := RX13) (T := TX13) (N := 64) hx hb hts in_X13 hown hK hP 0 rfl rfl 1 (by decide) lk2 (fun _ h9 => h9) rfl dX13_rests_28 ?_
      refine lv_icmp_ge (tgt := 71) hx hb dX13_rests_31 (by decide) (fun c1 => ?_) (fun c1 => ?_)
      · rw [if_pos c1] at h
        refine lv_iconst (v := (0 : Int32)) hx hb dX13_rests_71 (by decide) ?_
        refine lv_istore_n (lv' := [(2, .int (0 : Int32)), (0, .ref (a0 0)), (1, .int x1)]) hx hb dX13_rests_72 rfl hl (by decide) rfl (fun ls hl => ?_)
        exact c73 fu gth gla ggm x1 (0 : Int32) H locs ls h hP hD hS (lv_sub hl [1, 2, 0] rfl)
      · rw [if_neg c1] at h
        refine lv_iconst (v := (0 : Int32)) hx hb dX13_rests_34 (by decide) ?_
        refine lv_istore_n (lv' := [(3, .int (0 : Int32)), (0, .ref (a0 0)), (1, .int x1), (2, .int x2)]) hx hb dX13_rests_35 rfl hl (by decide) rfl (fun ls hl => ?_)
        exact c36 (p_X13_rests_26 gvm n) ih fu gth gla ggm x1 x2 (0 : Int32) H locs ls h hP hD hS (lv_sub hl [1, 2, 3, 0] rfl)
  have c20 : ∀ (_u : Unit), ∀ (gth : Int32) (gla : (Nat → Int32)) (ggm : (Nat → Int32) × (Nat → Int32) × (Nat → Int32)) (x1 : Int32) (H : Heap) (locs : List Loc) (ls : Array Slot), p_X13_rests_20 gvm gth gla ggm x1 = some R0 → va_P (dC, dI) vwCl (w_X13_rests cy a0 gth gvm gtd gfl grd gnv gac gla ggm grc gim) H → va_D A (w_X13_rests cy a0 gth gvm gtd gfl grd gnv gac gla ggm grc gim) → va_S A s.heap H locs → lv_has ls 4 [(0, .ref (a0 0)), (1, .int x1)] → W p l e rm_X13_rests s m aa below meth c H locs 0 0 (MQ below qq aa s 0 0 A) (F0 m 20 ls []) := by
    intro _ gth gla ggm x1 H locs ls h hP hD hS hl
    unfold p_X13_rests_20 at h
    refine lv_aload_n hx hb dX13_rests_20 rfl (lv_at hl 0 rfl) ?_
    obtain ⟨v1, hv2, h⟩ := ok_bind h
    refine cl_vv (w2 := fun (u : ((Nat → Int32))) => w_X13_rests cy a0 gth gvm gtd gfl grd gnv gac u ggm grc gim) (As := []) (rest := []) ⟨hx, hb, hml, hown, hts⟩ (c_X13_lay l dC dI cy a0 gth gvm gtd gfl grd gnv gac gla grc gim H.size v1 hv2) (cwV 0 hts gX13_rests_X13_lay rfl rfl rfl (by decide +kernel) ⟨Nat.le_of_ble_eq_true rfl, Nat.le_of_ble_eq_true rfl⟩) (va_recv hK hP (ci := 11) (q0 := 0) rfl rfl) cl_blind (cl_pre hK hP hD [0, 1, 2, 3, 4, 5, 6, 7, 8, 9, 10] (by decide) rfl) hP hD hS hA [0, 1, 2, 3, 4, 5, 6, 7, 8, 9, 10] rfl rfl hl.1 rfl (lv_room (Nat.le_of_ble_eq_true rfl)) dX13_rests_21 ⟨Nat.le_of_ble_eq_true rfl, Nat.le_of_ble_eq_true rfl⟩ ⟨rfl, rfl⟩ (fun _ => updM [0, 1, 2, 3, 4, 5, 6, 7, 8, 9, 10] [11, 12, 13] [(a0 23, .inl (cy 1, 5, .inl (ggm.1))), (a0 24, .inl (cy 1, 5, .inl (ggm.2.1))), (a0 25, .inl (cy 1, 210, .inl (ggm.2.2)))] 14 rfl rfl rfl rfl rfl (by decide +kernel) (by decide +kernel) rfl) (fun u H locs hw hP hD hS => ?_)
    have hw := hw.symm
    subst hw
    have hP : va_P (dC, dI) vwCl (w_X13_rests cy a0 gth gvm gtd gfl grd gnv gac v1 ggm grc gim) H := hP
    have hD : va_D A (w_X13_rests cy a0 gth gvm gtd gfl grd gnv gac v1 ggm grc gim) := hD
    refine lv_iconst (v := (0 : Int32)) hx hb dX13_rests_24 (by decide) ?_
    refine lv_istore_n (lv' := [(2, .int (0 : Int32)), (0, .ref (a0 0)), (1, .int x1)]) hx hb dX13_rests_25 rfl hl (by decide) rfl (fun ls hl => ?_)
    exact c26 fu gth v1 ggm x1 (0 : Int32) H locs ls h hP hD hS (lv_sub hl [1, 2, 0] rfl)
  obtain ⟨H, hH⟩ : ∃ H : Heap, H = s.heap := ⟨_, rfl⟩
  obtain ⟨locs, hlocs⟩ : ∃ locs : List Loc, locs = [] := ⟨_, rfl⟩
  have hS : va_S A s.heap H locs := by rw [hH, hlocs]; exact hS
  rw [← hH] at hP
  suffices hg : W p l e rm_X13_rests s m aa below meth c H locs 0 0 (MQ below qq aa s 0 0 A) (F0 m 0 ls []) by subst hH; subst hlocs; exact hg
  unfold p_X13_rests at h
  refine lv_aload_n hx hb dX13_rests_0 rfl (lv_at hl 0 rfl) ?_
  refine lv_iconst (v := (0 : Int32)) hx hb dX13_rests_1 (by decide) ?_
  refine va_put (D := (dC, dI)) (ci := 11) (v := .int (0 : Int32)) (ty := .int) (C := RX13) (T := TX13) (N := 64) hx hb hts in_X13 tyX13 tyX13_ok nmX13 hown hK hP hD hS 0 rfl rfl 0 (by decide) lk4 (fun _ h9 => h9) rfl (by decide +kernel) rfl rfl (Nat.le_of_ble_eq_true rfl) dX13_rests_2 (fun H locs hP hD hS => ?_)
  have hP : va_P (dC, dI) vwCl (w_X13_rests cy a0 ((0 : Int32)) gvm gtd gfl grd gnv gac gla ggm grc gim) H := hP
  have hD : va_D A (w_X13_rests cy a0 ((0 : Int32)) gvm gtd gfl grd gnv gac gla ggm grc gim) := hD
  refine lv_iload_n hx hb dX13_rests_5 rfl (lv_at hl 1 rfl) ?_
  refine lv_iconst (v := (-1 : Int32)) hx hb dX13_rests_6 (by decide) ?_
  refine lv_icmp_eq (tgt := 20) hx hb dX13_rests_7 (by decide) (fun c1 => ?_) (fun c1 => ?_)
  · rw [if_pos c1] at h
    exact c20 () (0 : Int32) gla ggm x1 H locs ls h hP hD hS (lv_sub hl [0, 1] rfl)
  · rw [if_neg c1] at h
    refine lv_aload_n hx hb dX13_rests_10 rfl (lv_at hl 0 rfl) ?_
    refine lv_iload_n hx hb dX13_rests_11 rfl (lv_at hl 1 rfl) ?_
    obtain ⟨v2, hv3, h⟩ := ok_bind h
    refine cl_vi (w2 := fun (u : (Int32)) => w_X13_rests cy a0 u gvm gtd gfl grd gnv gac gla ggm grc gim) (As := [.int x1]) (rest := []) ⟨hx, hb, hml, hown, hts⟩ (c_X13_isOwner l dC dI cy a0 (0 : Int32) gvm gtd gfl grd gnv gac grc gim x1 H.size v2 hv3) (cwV 1 hts gX13_rests_X13_isOwner rfl rfl rfl (by decide +kernel) ⟨Nat.le_of_ble_eq_true rfl, Nat.le_of_ble_eq_true rfl⟩) (va_recv hK hP (ci := 11) (q0 := 0) rfl rfl) cl_blind (cl_pre hK hP hD [0, 1, 2, 3, 4, 5, 6, 7, 8, 9] (by decide) rfl) hP hD hS hA [0, 1, 2, 3, 4, 5, 6, 7, 8, 9] rfl rfl hl.1 rfl (lv_room (Nat.le_of_ble_eq_true rfl)) dX13_rests_12 ⟨Nat.le_of_ble_eq_true rfl, Nat.le_of_ble_eq_true rfl⟩ ⟨rfl, rfl⟩ (fun _ => updM [0, 1, 2, 3, 4, 5, 6, 7, 8, 9] [10, 11, 12, 13] [(a0 21, .inl (cy 1, 620, .inl (gla))), (a0 23, .inl (cy 1, 5, .inl (ggm.1))), (a0 24, .inl (cy 1, 5, .inl (ggm.2.1))), (a0 25, .inl (cy 1, 210, .inl (ggm.2.2)))] 14 rfl rfl rfl rfl rfl (by decide +kernel) (by decide +kernel) rfl) (fun r u H locs hw hP hD hS => ?_)
    obtain ⟨rfl, rfl⟩ := hw
    have hP : va_P (dC, dI) vwCl (w_X13_rests cy a0 v2.2 gvm gtd gfl grd gnv gac gla ggm grc gim) H := hP
    have hD : va_D A (w_X13_rests cy a0 v2.2 gvm gtd gfl grd gnv gac gla ggm grc gim) := hD
    refine lv_if_ne (tgt := 20) hx hb dX13_rests_15 (by decide) (fun c4 => ?_) (fun c4 => ?_)
    · rw [if_neg c4] at h
      exact c20 () v2.2 gla ggm x1 H locs ls h hP hD hS (lv_sub hl [0, 1] rfl)
    · rw [if_pos c4] at h
      refine lv_iconst (v := (0 : Int32)) hx hb dX13_rests_18 (by decide) ?_
      exact W.iret (v := (0 : Int32)) hx hb hr (fun t ht hW => by rw [hqq]; have hh := Option.some.inj h; exact ⟨⟨(0 : Int32), ((v2.2, gla, ggm)), rfl, ⟨fst_of hh, snd_of hh⟩, by rw [ht]; exact hP, va_K.moved hW.alike hK⟩, hS.F ht⟩) hS.2.2 dX13_rests_19
