abbrev w_X12_putBytes (cy : Nat → ClassId) (a0 : Nat → Nat) (gg : Int32 × Int32 × Int32 × Int32 × Int32 × Int32) (gtx : (Nat → Int32)) : va_W := [(a0 0, .inr (10, [.ref (a0 1), .int (gg.1), .int (gg.2.1), .int (gg.2.2.1), .int (gg.2.2.2.1), .int (gg.2.2.2.2.1), .ref (a0 2), .ref (a0 17), .ref (a0 32), .int (gg.2.2.2.2.2), .ref (a0 47), .ref (a0 48), .ref (a0 49), .ref (a0 50), .ref (a0 68), .ref (a0 78), .ref (a0 80)])), (a0 1, .inl (cy 0, 600, .inl (gtx)))]
abbrev rm_X12_putBytes : Room := { frames := 0, cells := 0, slots := 0, locals := 0 }
def p_X12_putBytes_49 (k3 : (Int32 × Int32 × Int32 × Int32 × Int32 × Int32) → ((Nat → Int32)) → Int32 → Int32 → Option ((Int32 × Int32 × Int32 × Int32 × Int32 × Int32) × ((Nat → Int32))))  (gg : Int32 × Int32 × Int32 × Int32 × Int32 × Int32) (gtx : (Nat → Int32)) (x1 : Int32) (x2 : Int32) : Option ((Int32 × Int32 × Int32 × Int32 × Int32 × Int32) × ((Nat → Int32))) := k3 gg gtx x1 (x2 + (-8 : Int32))
def p_X12_putBytes_3 : Nat → (Int32 × Int32 × Int32 × Int32 × Int32 × Int32) → ((Nat → Int32)) → Int32 → Int32 → Option ((Int32 × Int32 × Int32 × Int32 × Int32 × Int32) × ((Nat → Int32)))
  | 0, _, _, _, _ => none
  | n + 1, gg, gtx, x1, x2 => (if x2 < (0 : Int32) then some ((gg, gtx)) else (if gg.1 < (0 : Int32) then p_X12_putBytes_49 (p_X12_putBytes_3 n) gg gtx x1 x2 else (if (600 : Int32) ≤ gg.1 then p_X12_putBytes_49 (p_X12_putBytes_3 n) gg gtx x1 x2 else (if ix gg.1 600 then p_X12_putBytes_49 (p_X12_putBytes_3 n) ((gg.1 + (1 : Int32)), gg.2) (upd gtx gg.1.toNatClampNeg (vp_nar .byte ((x1 >>> (x2 &&& 31)).toInt8.toInt32))) x1 x2 else none))))
def p_X12_putBytes (gg : Int32 × Int32 × Int32 × Int32 × Int32 × Int32) (gtx : (Nat → Int32)) (x1 : Int32) : Option ((Int32 × Int32 × Int32 × Int32 × Int32 × Int32) × ((Nat → Int32))) := p_X12_putBytes_3 fu gg gtx x1 (24 : Int32)
set_option maxHeartbeats 1000000 in
set_option maxRecDepth 100000 in
theorem c_X12_putBytes (l : Launch) (dC : Nat → ClassId) (dI : Nat → Nat → Nat) (cy : Nat → ClassId) (a0 : Nat → Nat) (gg : Int32 × Int32 × Int32 × Int32 × Int32 × Int32) (gtx : (Nat → Int32)) (x1 : Int32) (sz : Nat) (R0 : (Int32 × Int32 × Int32 × Int32 × Int32 × Int32) × ((Nat → Int32))) (h : p_X12_putBytes gg gtx x1 = some R0) : Met l yX12_putBytes wsX12_putBytes rm_X12_putBytes (va_Pc [.ref (a0 0), .int x1] (prC dC dI cy (w_X12_putBytes cy a0 gg gtx) sz)) (va_Qv (fun (u : (Int32 × Int32 × Int32 × Int32 × Int32 × Int32) × ((Nat → Int32))) => u = R0) (fun (u : (Int32 × Int32 × Int32 × Int32 × Int32 × Int32) × ((Nat → Int32))) t => poC dC dI cy (w_X12_putBytes cy a0 u.1 u.2) t) (va_A (w_X12_putBytes cy a0 gg gtx) sz)) 0 0 (va_A (w_X12_putBytes cy a0 gg gtx) sz) := by
  refine Met.ofW (cc := cX12_putBytes) (maxL := 3) (ret := none) (by decide) rfl ?_
  intro p e s m aa below meth c s₁ B hml hv
  obtain ⟨haa, hsz, hP, hK, hD0⟩ := hv
  have hx := B.exec
  have hb := B.bytes
  have hr := B.returns
  have hts := atoms_spec (ws := wsX12_putBytes) B.pre
  have hown : s.vm.findClass RX12 = some m.cls := findClass_of_methodNamed B.named
  have hlocks := B.notSynchronized
  subst hsz
  have hD := hD0.self (sz := s.heap.size)
  obtain ⟨qq, hqq⟩ : ∃ qq, qq = (va_Qv (fun (u : (Int32 × Int32 × Int32 × Int32 × Int32 × Int32) × ((Nat → Int32))) => u = R0) (fun (u : (Int32 × Int32 × Int32 × Int32 × Int32 × Int32) × ((Nat → Int32))) t => poC dC dI cy (w_X12_putBytes cy a0 u.1 u.2) t) (va_A (w_X12_putBytes cy a0 gg gtx) s.heap.size)) := ⟨_, rfl⟩
  rw [← hqq]
  generalize hAe : va_A (w_X12_putBytes cy a0 gg gtx) s.heap.size = A at hD hqq ⊢
  have hA : ∀ q : Nat, s.heap.size ≤ q → A q := fun q h => by rw [← hAe]; exact Or.inr h
  have hS : va_S A s.heap s.heap [] := va_S.rf
  have hl := lv_entry ([.ref (a0 0), .int x1]) (n := 3) (Nat.le_of_ble_eq_true rfl)
  have hE : entryFrame m aa 3 = F0 m 0 ((lg_sl ([.ref (a0 0), .int x1]) ++ List.replicate (3 - (lg_sl ([.ref (a0 0), .int x1])).length) Slot.unset).toArray) [] := by rw [haa]; exact lg_entry_eq m _ 3
  refine W.eq hE ?_
  generalize (lg_sl ([.ref (a0 0), .int x1]) ++ List.replicate (3 - (lg_sl ([.ref (a0 0), .int x1])).length) Slot.unset).toArray = ls at hl ⊢
  have hl : lv_has ls 3 [(0, .ref (a0 0)), (1, .int x1)] := hl
  change W p l e rm_X12_putBytes s m aa below meth c s.heap [] 0 0 (MQ below qq aa s 0 0 A) (F0 m 0 ls [])
  have hS0 := hS
  have lk0 := hts (.fieldLink RX12 83 "GoatDoors" "tapeLength" "I") (by decide +kernel)
  have lk1 := hts (.fieldLink RX12 9 "GoatDoors" "tape" "[B") (by decide +kernel)
  have in_X12 : ∀ w ∈ wsX120, w ∈ wsX12_putBytes := by decide +kernel
  have c49 : ∀ (k3 : (Int32 × Int32 × Int32 × Int32 × Int32 × Int32) → ((Nat → Int32)) → Int32 → Int32 → Option ((Int32 × Int32 × Int32 × Int32 × Int32 × Int32) × ((Nat → Int32)))) (hk3 : ∀ (gg : Int32 × Int32 × Int32 × Int32 × Int32 × Int32) (gtx : (Nat → Int32)) (x1 : Int32) (x2 : Int32) (H : Heap) (locs : List Loc) (ls : Array Slot), k3 gg gtx x1 x2 = some R0 → va_P (dC, dI) vwCl (w_X12_putBytes cy a0 gg gtx) H → va_D A (w_X12_putBytes cy a0 gg gtx) → va_S A s.heap H locs → lv_has ls 3 [(0, .ref (a0 0)), (1, .int x1), (2, .int x2)] → W p l e rm_X12_putBytes s m aa below meth c H locs 0 0 (MQ below qq aa s 0 0 A) (F0 m 3 ls [])), ∀ (gg : Int32 × Int32 × Int32 × Int32 × Int32 × Int32) (gtx : (Nat → Int32)) (x1 : Int32) (x2 : Int32) (H : Heap) (locs : List Loc) (ls : Array Slot), p_X12_putBytes_49 k3 gg gtx x1 x2 = some R0 → va_P (dC, dI) vwCl (w_X12_putBytes cy a0 gg gtx) H → va_D A (w_X12_putBytes cy a0 gg gtx) → va_S A s.heap H locs → lv_has ls 3 [(0, .ref (a0 0)), (1, .int x1), (2, .int x2)] → W p l e rm_X12_putBytes s m aa below meth c H locs 0 0 (MQ below qq aa s 0 0 A) (F0 m 49 ls []) := by
    intro k3 hk3 gg gtx x1 x2 H locs ls h hP hD hS hl
    unfold p_X12_putBytes_49 at h
    refine lv_iinc (v := (x2 + (-8 : Int32))) (lv' := [(2, .int (x2 + (-8 : Int32))), (0, .ref (a0 0)), (1, .int x1)]) hx hb dX12_putBytes_49 hl (k := 2) rfl rfl (by decide) rfl (fun ls hl => ?_)
    refine lv_goto (tgt := 3) hx hb dX12_putBytes_52 (by decide) ?_
    exact hk3 gg gtx x1 (x2 + (-8 : Int32)) H locs ls h hP hD hS (lv_sub hl [1, 2, 0] rfl)
  have c3 : ∀ (n : Nat), ∀ (gg : Int32 × Int32 × Int32 × Int32 × Int32 × Int32) (gtx : (Nat → Int32)) (x1 : Int32) (x2 : Int32) (H : Heap) (locs : List Loc) (ls : Array Slot), p_X12_putBytes_3 n gg gtx x1 x2 = some R0 → va_P (dC, dI) vwCl (w_X12_putBytes cy a0 gg gtx) H → va_D A (w_X12_putBytes cy a0 gg gtx) → va_S A s.heap H locs → lv_has ls 3 [(0, .ref (a0 0)), (1, .int x1), (2, .int x2)] → W p l e rm_X12_putBytes s m aa below meth c H locs 0 0 (MQ below qq aa s 0 0 A) (F0 m 3 ls []) := by
    intro  n
    induction n with
    | zero => intro gg gtx x1 x2 H locs ls h; exact no_some h
    | succ n ih =>
      intro gg gtx x1 x2 H locs ls h hP hD hS hl
      rw [p_X12_putBytes_3.eq_2] at h
      refine lv_iload_n hx hb dX12_putBytes_3 rfl (lv_at hl 2 rfl) ?_
      refine lv_if_lt (tgt := 55) hx hb dX12_putBytes_4 (by decide) (fun c1 => ?_) (fun c1 => ?_)
      · rw [if_pos c1] at h
        exact W.vret hx hb hr (fun t ht hW => by rw [hqq]; have hh := Option.some.inj h; exact ⟨⟨((gg, gtx)), rfl, Option.some.inj h, by rw [ht]; exact hP, va_K.moved hW.alike hK⟩, hS.F ht⟩) hS.2.2 dX12_putBytes_55
      · rw [if_neg c1] at h
        refine lv_aload_n hx hb dX12_putBytes_7 rfl (lv_at hl 0 rfl) ?_
        refine va_get (D := (dC, dI)) (ci := 10) (v := .int gg.1) (C := RX12) (T := TX12) (N := 17) hx hb hts in_X12 hown hK hP 0 rfl rfl 1 (by decide) lk0 (fun _ h9 => h9) rfl dX12_putBytes_8 ?_
        refine lv_if_lt (tgt := 49) hx hb dX12_putBytes_11 (by decide) (fun c2 => ?_) (fun c2 => ?_)
        · rw [if_pos c2] at h
          exact c49 (p_X12_putBytes_3 n) ih gg gtx x1 x2 H locs ls h hP hD hS (lv_sub hl [0, 1, 2] rfl)
        · rw [if_neg c2] at h
          refine lv_aload_n hx hb dX12_putBytes_14 rfl (lv_at hl 0 rfl) ?_
          refine va_get (D := (dC, dI)) (ci := 10) (v := .int gg.1) (C := RX12) (T := TX12) (N := 17) hx hb hts in_X12 hown hK hP 0 rfl rfl 1 (by decide) lk0 (fun _ h9 => h9) rfl dX12_putBytes_15 ?_
          refine lv_aload_n hx hb dX12_putBytes_18 rfl (lv_at hl 0 rfl) ?_
          refine va_get (D := (dC, dI)) (ci := 10) (v := .ref (a0 1)) (C := RX12) (T := TX12) (N := 17) hx hb hts in_X12 hown hK hP 0 rfl rfl 0 (by decide) lk1 (fun _ h9 => h9) rfl dX12_putBytes_19 ?_
          refine va_alen (v := (600 : Int32)) hx hb hK hP 1 0 rfl rfl rfl dX12_putBytes_22 ?_
          refine lv_icmp_ge (tgt := 49) hx hb dX12_putBytes_23 (by decide) (fun c3 => ?_) (fun c3 => ?_)
          · rw [if_pos c3] at h
            exact c49 (p_X12_putBytes_3 n) ih gg gtx x1 x2 H locs ls h hP hD hS (lv_sub hl [0, 1, 2] rfl)
          · rw [if_neg c3] at h
            refine lv_aload_n hx hb dX12_putBytes_26 rfl (lv_at hl 0 rfl) ?_
            refine va_get (D := (dC, dI)) (ci := 10) (v := .ref (a0 1)) (C := RX12) (T := TX12) (N := 17) hx hb hts in_X12 hown hK hP 0 rfl rfl 0 (by decide) lk1 (fun _ h9 => h9) rfl dX12_putBytes_27 ?_
            refine lv_aload_n hx hb dX12_putBytes_30 rfl (lv_at hl 0 rfl) ?_
            refine va_get (D := (dC, dI)) (ci := 10) (v := .int gg.1) (C := RX12) (T := TX12) (N := 17) hx hb hts in_X12 hown hK hP 0 rfl rfl 1 (by decide) lk0 (fun _ h9 => h9) rfl dX12_putBytes_31 ?_
            refine lv_iload_n hx hb dX12_putBytes_34 rfl (lv_at hl 1 rfl) ?_
            refine lv_iload_n hx hb dX12_putBytes_35 rfl (lv_at hl 2 rfl) ?_
            refine lv_ishr hx hb dX12_putBytes_36 ?_
            refine lv_i2b hx hb dX12_putBytes_37 rfl ?_
            obtain ⟨hi4, h⟩ := ok_if h
            refine va_bast hx hb hK hP hD hS 1 0 rfl rfl (ix_in hi4) dX12_putBytes_38 (fun H locs hP hD hS => ?_)
            have hP : va_P (dC, dI) vwCl (w_X12_putBytes cy a0 gg ((upd gtx gg.1.toNatClampNeg (vp_nar .byte ((x1 >>> (x2 &&& 31)).toInt8.toInt32))))) H := hP
            have hD : va_D A (w_X12_putBytes cy a0 gg ((upd gtx gg.1.toNatClampNeg (vp_nar .byte ((x1 >>> (x2 &&& 31)).toInt8.toInt32))))) := hD
            refine lv_aload_n hx hb dX12_putBytes_39 rfl (lv_at hl 0 rfl) ?_
            refine lv_dup hx hb dX12_putBytes_40 rfl ?_
            refine va_get (D := (dC, dI)) (ci := 10) (v := .int gg.1) (C := RX12) (T := TX12) (N := 17) hx hb hts in_X12 hown hK hP 0 rfl rfl 1 (by decide) lk0 (fun _ h9 => h9) rfl dX12_putBytes_41 ?_
            refine lv_iconst (v := (1 : Int32)) hx hb dX12_putBytes_44 (by decide) ?_
            refine lv_iadd hx hb dX12_putBytes_45 ?_
            refine va_put (D := (dC, dI)) (ci := 10) (v := .int (gg.1 + (1 : Int32))) (ty := .int) (C := RX12) (T := TX12) (N := 17) hx hb hts in_X12 tyX12 tyX12_ok nmX12 hown hK hP hD hS 0 rfl rfl 1 (by decide) lk0 (fun _ h9 => h9) rfl (by decide +kernel) rfl rfl (Nat.le_of_ble_eq_true rfl) dX12_putBytes_46 (fun H locs hP hD hS => ?_)
            have hP : va_P (dC, dI) vwCl (w_X12_putBytes cy a0 (((gg.1 + (1 : Int32)), gg.2)) ((upd gtx gg.1.toNatClampNeg (vp_nar .byte ((x1 >>> (x2 &&& 31)).toInt8.toInt32))))) H := hP
            have hD : va_D A (w_X12_putBytes cy a0 (((gg.1 + (1 : Int32)), gg.2)) ((upd gtx gg.1.toNatClampNeg (vp_nar .byte ((x1 >>> (x2 &&& 31)).toInt8.toInt32))))) := hD
            exact c49 (p_X12_putBytes_3 n) ih ((gg.1 + (1 : Int32)), gg.2) (upd gtx gg.1.toNatClampNeg (vp_nar .byte ((x1 >>> (x2 &&& 31)).toInt8.toInt32))) x1 x2 H locs ls h hP hD hS (lv_sub hl [0, 1, 2] rfl)
  obtain ⟨H, hH⟩ : ∃ H : Heap, H = s.heap := ⟨_, rfl⟩
  obtain ⟨locs, hlocs⟩ : ∃ locs : List Loc, locs = [] := ⟨_, rfl⟩
  have hS : va_S A s.heap H locs := by rw [hH, hlocs]; exact hS
  rw [← hH] at hP
  suffices hg : W p l e rm_X12_putBytes s m aa below meth c H locs 0 0 (MQ below qq aa s 0 0 A) (F0 m 0 ls []) by subst hH; subst hlocs; exact hg
  unfold p_X12_putBytes at h
  refine lv_bipush (v := (24 : Int32)) hx hb dX12_putBytes_0 (by decide) ?_
  refine lv_istore_n (lv' := [(2, .int (24 : Int32)), (0, .ref (a0 0)), (1, .int x1)]) hx hb dX12_putBytes_2 rfl hl (by decide) rfl (fun ls hl => ?_)
  exact c3 fu gg gtx x1 (24 : Int32) H locs ls h hP hD hS (lv_sub hl [1, 2, 0] rfl)

abbrev w_X12_feed (cy : Nat → ClassId) (a0 : Nat → Nat) (gg : Int32 × Int32 × Int32 × Int32 × Int32 × Int32) (gtx : (Nat → Int32)) : va_W := [(a0 0, .inr (10, [.ref (a0 1), .int (gg.1), .int (gg.2.1), .int (gg.2.2.1), .int (gg.2.2.2.1), .int (gg.2.2.2.2.1), .ref (a0 2), .ref (a0 17), .ref (a0 32), .int (gg.2.2.2.2.2), .ref (a0 47), .ref (a0 48), .ref (a0 49), .ref (a0 50), .ref (a0 68), .ref (a0 78), .ref (a0 80)])), (a0 1, .inl (cy 0, 600, .inl (gtx)))]
abbrev rm_X12_feed : Room := { frames := 1, cells := 0, slots := 0, locals := 22 }
def p_X12_feed (gg : Int32 × Int32 × Int32 × Int32 × Int32 × Int32) (gtx : (Nat → Int32)) (x1 : Int32) (x2 : Int32) (x3 : Int32) (x4 : Int32) (x5 : Int32) : Option (Int32 × (Int32 × Int32 × Int32 × Int32 × Int32 × Int32) × ((Nat → Int32))) := (if (gg.1 + (20 : Int32)) ≤ (600 : Int32) then ((p_X12_putBytes gg gtx x1).bind fun v2 => ((p_X12_putBytes v2.1 v2.2 x2).bind fun v4 => ((p_X12_putBytes v4.1 v4.2 x3).bind fun v6 => ((p_X12_putBytes v6.1 v6.2 x4).bind fun v8 => ((p_X12_putBytes v8.1 v8.2 x5).bind fun v10 => some (v10.1.1, v10)))))) else some ((-1 : Int32), (gg, gtx)))
set_option maxHeartbeats 1000000 in
set_option maxRecDepth 100000 in
theorem c_X12_feed (l : Launch) (dC : Nat → ClassId) (dI : Nat → Nat → Nat) (cy : Nat → ClassId) (a0 : Nat → Nat) (gg : Int32 × Int32 × Int32 × Int32 × Int32 × Int32) (gtx : (Nat → Int32)) (x1 : Int32) (x2 : Int32) (x3 : Int32) (x4 : Int32) (x5 : Int32) (sz : Nat) (R0 : Int32 × (Int32 × Int32 × Int32 × Int32 × Int32 × Int32) × ((Nat → Int32))) (h : p_X12_feed gg gtx x1 x2 x3 x4 x5 = some R0) : Met l yX12_feed wsX12_feed rm_X12_feed (va_Pc [.ref (a0 0), .int x1, .int x2, .int x3, .int x4, .int x5] (prC dC dI cy (w_X12_feed cy a0 gg gtx) sz)) (va_Qi (fun (r : Int32) (u : (Int32 × Int32 × Int32 × Int32 × Int32 × Int32) × ((Nat → Int32))) => r = R0.1 ∧ u = R0.2) (fun (u : (Int32 × Int32 × Int32 × Int32 × Int32 × Int32) × ((Nat → Int32))) t => poC dC dI cy (w_X12_feed cy a0 u.1 u.2) t) (va_A (w_X12_feed cy a0 gg gtx) sz)) 0 0 (va_A (w_X12_feed cy a0 gg gtx) sz) := by
  refine Met.ofW (cc := cX12_feed) (maxL := 6) (ret := (some .int)) (by decide) rfl ?_
  intro p e s m aa below meth c s₁ B hml hv
  obtain ⟨haa, hsz, hP, hK, hD0⟩ := hv
  have hx := B.exec
  have hb := B.bytes
  have hr := B.returns
  have hts := atoms_spec (ws := wsX12_feed) B.pre
  have hown : s.vm.findClass RX12 = some m.cls := findClass_of_methodNamed B.named
  have hlocks := B.notSynchronized
  subst hsz
  have hD := hD0.self (sz := s.heap.size)
  obtain ⟨qq, hqq⟩ : ∃ qq, qq = (va_Qi (fun (r : Int32) (u : (Int32 × Int32 × Int32 × Int32 × Int32 × Int32) × ((Nat → Int32))) => r = R0.1 ∧ u = R0.2) (fun (u : (Int32 × Int32 × Int32 × Int32 × Int32 × Int32) × ((Nat → Int32))) t => poC dC dI cy (w_X12_feed cy a0 u.1 u.2) t) (va_A (w_X12_feed cy a0 gg gtx) s.heap.size)) := ⟨_, rfl⟩
  rw [← hqq]
  generalize hAe : va_A (w_X12_feed cy a0 gg gtx) s.heap.size = A at hD hqq ⊢
  have hA : ∀ q : Nat, s.heap.size ≤ q → A q := fun q h => by rw [← hAe]; exact Or.inr h
  have hS : va_S A s.heap s.heap [] := va_S.rf
  have hl := lv_entry ([.ref (a0 0), .int x1, .int x2, .int x3, .int x4, .int x5]) (n := 6) (Nat.le_of_ble_eq_true rfl)
  have hE : entryFrame m aa 6 = F0 m 0 ((lg_sl ([.ref (a0 0), .int x1, .int x2, .int x3, .int x4, .int x5]) ++ List.replicate (6 - (lg_sl ([.ref (a0 0), .int x1, .int x2, .int x3, .int x4, .int x5])).length) Slot.unset).toArray) [] := by rw [haa]; exact lg_entry_eq m _ 6
  refine W.eq hE ?_
  generalize (lg_sl ([.ref (a0 0), .int x1, .int x2, .int x3, .int x4, .int x5]) ++ List.replicate (6 - (lg_sl ([.ref (a0 0), .int x1, .int x2, .int x3, .int x4, .int x5])).length) Slot.unset).toArray = ls at hl ⊢
  have hl : lv_has ls 6 [(0, .ref (a0 0)), (1, .int x1), (2, .int x2), (3, .int x3), (4, .int x4), (5, .int x5)] := hl
  change W p l e rm_X12_feed s m aa below meth c s.heap [] 0 0 (MQ below qq aa s 0 0 A) (F0 m 0 ls [])
  have hS0 := hS
  have lk0 := hts (.fieldLink RX12 83 "GoatDoors" "tapeLength" "I") (by decide +kernel)
  have in_X12 : ∀ w ∈ wsX120, w ∈ wsX12_feed := by decide +kernel
  obtain ⟨H, hH⟩ : ∃ H : Heap, H = s.heap := ⟨_, rfl⟩
  obtain ⟨locs, hlocs⟩ : ∃ locs : List Loc, locs = [] := ⟨_, rfl⟩
  have hS : va_S A s.heap H locs := by rw [hH, hlocs]; exact hS
  rw [← hH] at hP
  suffices hg : W p l e rm_X12_feed s m aa below meth c H locs 0 0 (MQ below qq aa s 0 0 A) (F0 m 0 ls []) by subst hH; subst hlocs; exact hg
  unfold p_X12_feed at h
  refine lv_aload_n hx hb dX12_feed_0 rfl (lv_at hl 0 rfl) ?_
  refine va_get (D := (dC, dI)) (ci := 10) (v := .int gg.1) (C := RX12) (T := TX12) (N := 17) hx hb hts in_X12 hown hK hP 0 rfl rfl 1 (by decide) lk0 (fun _ h9 => h9) rfl dX12_feed_1 ?_
  refine lv_bipush (v := (20 : Int32)) hx hb dX12_feed_4 (by decide) ?_
  refine lv_iadd hx hb dX12_feed_6 ?_
  refine lv_sipush (v := (600 : Int32)) hx hb dX12_feed_7 (by decide) ?_
  refine lv_icmp_le (tgt := 15) hx hb dX12_feed_10 (by decide) (fun c1 => ?_) (fun c1 => ?_)
  · rw [if_pos c1] at h
    refine lv_aload_n hx hb dX12_feed_15 rfl (lv_at hl 0 rfl) ?_
    refine lv_iload_n hx hb dX12_feed_16 rfl (lv_at hl 1 rfl) ?_
    obtain ⟨v2, hv3, h⟩ := ok_bind h
    refine cl_vv (w2 := fun (u : (Int32 × Int32 × Int32 × Int32 × Int32 × Int32) × ((Nat → Int32))) => w_X12_feed cy a0 u.1 u.2) (As := [.int x1]) (rest := []) ⟨hx, hb, hml, hown, hts⟩ (c_X12_putBytes l dC dI cy a0 gg gtx x1 H.size v2 hv3) (cwV 1 hts gX12_feed_X12_putBytes rfl rfl rfl (by decide +kernel) ⟨Nat.le_of_ble_eq_true rfl, Nat.le_of_ble_eq_true rfl⟩) (va_recv hK hP (ci := 10) (q0 := 0) rfl rfl) cl_blind (cl_pre hK hP hD [0, 1] (by decide) rfl) hP hD hS hA [0, 1] rfl rfl hl.1 rfl (lv_room (Nat.le_of_ble_eq_true rfl)) dX12_feed_17 ⟨Nat.le_of_ble_eq_true rfl, Nat.le_of_ble_eq_true rfl⟩ ⟨rfl, rfl⟩ (fun _ => updM [0, 1] [] 2 rfl rfl rfl rfl (by decide +kernel) (by decide +kernel) rfl) (fun u H locs hw hP hD hS => ?_)
    have hw := hw.symm
    subst hw
    have hP : va_P (dC, dI) vwCl (w_X12_feed cy a0 v2.1 v2.2) H := hP
    have hD : va_D A (w_X12_feed cy a0 v2.1 v2.2) := hD
    refine lv_aload_n hx hb dX12_feed_20 rfl (lv_at hl 0 rfl) ?_
    refine lv_iload_n hx hb dX12_feed_21 rfl (lv_at hl 2 rfl) ?_
    obtain ⟨v4, hv5, h⟩ := ok_bind h
    refine cl_vv (w2 := fun (u : (Int32 × Int32 × Int32 × Int32 × Int32 × Int32) × ((Nat → Int32))) => w_X12_feed cy a0 u.1 u.2) (As := [.int x2]) (rest := []) ⟨hx, hb, hml, hown, hts⟩ (c_X12_putBytes l dC dI cy a0 v2.1 v2.2 x2 H.size v4 hv5) (cwV 1 hts gX12_feed_X12_putBytes rfl rfl rfl (by decide +kernel) ⟨Nat.le_of_ble_eq_true rfl, Nat.le_of_ble_eq_true rfl⟩) (va_recv hK hP (ci := 10) (q0 := 0) rfl rfl) cl_blind (cl_pre hK hP hD [0, 1] (by decide) rfl) hP hD hS hA [0, 1] rfl rfl hl.1 rfl (lv_room (Nat.le_of_ble_eq_true rfl)) dX12_feed_22 ⟨Nat.le_of_ble_eq_true rfl, Nat.le_of_ble_eq_true rfl⟩ ⟨rfl, rfl⟩ (fun _ => updM [0, 1] [] 2 rfl rfl rfl rfl (by decide +kernel) (by decide +kernel) rfl) (fun u H locs hw hP hD hS => ?_)
    have hw := hw.symm
    subst hw
    have hP : va_P (dC, dI) vwCl (w_X12_feed cy a0 v4.1 v4.2) H := hP
    have hD : va_D A (w_X12_feed cy a0 v4.1 v4.2) := hD
    refine lv_aload_n hx hb dX12_feed_25 rfl (lv_at hl 0 rfl) ?_
    refine lv_iload_n hx hb dX12_feed_26 rfl (lv_at hl 3 rfl) ?_
    obtain ⟨v6, hv7, h⟩ := ok_bind h
    refine cl_vv (w2 := fun (u : (Int32 × Int32 × Int32 × Int32 × Int32 × Int32) × ((Nat → Int32))) => w_X12_feed cy a0 u.1 u.2) (As := [.int x3]) (rest := []) ⟨hx, hb, hml, hown, hts⟩ (c_X12_putBytes l dC dI cy a0 v4.1 v4.2 x3 H.size v6 hv7) (cwV 1 hts gX12_feed_X12_putBytes rfl rfl rfl (by decide +kernel) ⟨Nat.le_of_ble_eq_true rfl, Nat.le_of_ble_eq_true rfl⟩) (va_recv hK hP (ci := 10) (q0 := 0) rfl rfl) cl_blind (cl_pre hK hP hD [0, 1] (by decide) rfl) hP hD hS hA [0, 1] rfl rfl hl.1 rfl (lv_room (Nat.le_of_ble_eq_true rfl)) dX12_feed_27 ⟨Nat.le_of_ble_eq_true rfl, Nat.le_of_ble_eq_true rfl⟩ ⟨rfl, rfl⟩ (fun _ => updM [0, 1] [] 2 rfl rfl rfl rfl (by decide +kernel) (by decide +kernel) rfl) (fun u H locs hw hP hD hS => ?_)
    have hw := hw.symm
    subst hw
    have hP : va_P (dC, dI) vwCl (w_X12_feed cy a0 v6.1 v6.2) H := hP
    have hD : va_D A (w_X12_feed cy a0 v6.1 v6.2) := hD
    refine lv_aload_n hx hb dX12_feed_30 rfl (lv_at hl 0 rfl) ?_
    refine lv_iload hx hb dX12_feed_31 (lv_at hl 4 rfl) ?_
    obtain ⟨v8, hv9, h⟩ := ok_bind h
    refine cl_vv (w2 := fun (u : (Int32 × Int32 × Int32 × Int32 × Int32 × Int32) × ((Nat → Int32))) => w_X12_feed cy a0 u.1 u.2) (As := [.int x4]) (rest := []) ⟨hx, hb, hml, hown, hts⟩ (c_X12_putBytes l dC dI cy a0 v6.1 v6.2 x4 H.size v8 hv9) (cwV 1 hts gX12_feed_X12_putBytes rfl rfl rfl (by decide +kernel) ⟨Nat.le_of_ble_eq_true rfl, Nat.le_of_ble_eq_true rfl⟩) (va_recv hK hP (ci := 10) (q0 := 0) rfl rfl) cl_blind (cl_pre hK hP hD [0, 1] (by decide) rfl) hP hD hS hA [0, 1] rfl rfl hl.1 rfl (lv_room (Nat.le_of_ble_eq_true rfl)) dX12_feed_33 ⟨Nat.le_of_ble_eq_true rfl, Nat.le_of_ble_eq_true rfl⟩ ⟨rfl, rfl⟩ (fun _ => updM [0, 1] [] 2 rfl rfl rfl rfl (by decide +kernel) (by decide +kernel) rfl) (fun u H locs hw hP hD hS => ?_)
    have hw := hw.symm
    subst hw
    have hP : va_P (dC, dI) vwCl (w_X12_feed cy a0 v8.1 v8.2) H := hP
    have hD : va_D A (w_X12_feed cy a0 v8.1 v8.2) := hD
    refine lv_aload_n hx hb dX12_feed_36 rfl (lv_at hl 0 rfl) ?_
    refine lv_iload hx hb dX12_feed_37 (lv_at hl 5 rfl) ?_
    obtain ⟨v10, hv11, h⟩ := ok_bind h
    refine cl_vv (w2 := fun (u : (Int32 × Int32 × Int32 × Int32 × Int32 × Int32) × ((Nat → Int32))) => w_X12_feed cy a0 u.1 u.2) (As := [.int x5]) (rest := []) ⟨hx, hb, hml, hown, hts⟩ (c_X12_putBytes l dC dI cy a0 v8.1 v8.2 x5 H.size v10 hv11) (cwV 1 hts gX12_feed_X12_putBytes rfl rfl rfl (by decide +kernel) ⟨Nat.le_of_ble_eq_true rfl, Nat.le_of_ble_eq_true rfl⟩) (va_recv hK hP (ci := 10) (q0 := 0) rfl rfl) cl_blind (cl_pre hK hP hD [0, 1] (by decide) rfl) hP hD hS hA [0, 1] rfl rfl hl.1 rfl (lv_room (Nat.le_of_ble_eq_true rfl)) dX12_feed_39 ⟨Nat.le_of_ble_eq_true rfl, Nat.le_of_ble_eq_true rfl⟩ ⟨rfl, rfl⟩ (fun _ => updM [0, 1] [] 2 rfl rfl rfl rfl (by decide +kernel) (by decide +kernel) rfl) (fun u H locs hw hP hD hS => ?_)
    have hw := hw.symm
    subst hw
    have hP : va_P (dC, dI) vwCl (w_X12_feed cy a0 v10.1 v10.2) H := hP
    have hD : va_D A (w_X12_feed cy a0 v10.1 v10.2) := hD
    refine lv_aload_n hx hb dX12_feed_42 rfl (lv_at hl 0 rfl) ?_
    refine va_get (D := (dC, dI)) (ci := 10) (v := .int v10.1.1) (C := RX12) (T := TX12) (N := 17) hx hb hts in_X12 hown hK hP 0 rfl rfl 1 (by decide) lk0 (fun _ h9 => h9) rfl dX12_feed_43 ?_
    exact W.iret (v := v10.1.1) hx hb hr (fun t ht hW => by rw [hqq]; have hh := Option.some.inj h; exact ⟨⟨v10.1.1, (v10), rfl, ⟨fst_of hh, snd_of hh⟩, by rw [ht]; exact hP, va_K.moved hW.alike hK⟩, hS.F ht⟩) hS.2.2 dX12_feed_46
  · rw [if_neg c1] at h
    refine lv_iconst (v := (-1 : Int32)) hx hb dX12_feed_13 (by decide) ?_
    exact W.iret (v := (-1 : Int32)) hx hb hr (fun t ht hW => by rw [hqq]; have hh := Option.some.inj h; exact ⟨⟨(-1 : Int32), ((gg, gtx)), rfl, ⟨fst_of hh, snd_of hh⟩, by rw [ht]; exact hP, va_K.moved hW.alike hK⟩, hS.F ht⟩) hS.2.2 dX12_feed_14

abbrev w_X12_fault (cy : Nat → ClassId) (a0 : Nat → Nat) (gg : Int32 × Int32 × Int32 × Int32 × Int32 × Int32) : va_W := [(a0 0, .inr (10, [.ref (a0 1), .int (gg.1), .int (gg.2.1), .int (gg.2.2.1), .int (gg.2.2.2.1), .int (gg.2.2.2.2.1), .ref (a0 2), .ref (a0 17), .ref (a0 32), .int (gg.2.2.2.2.2), .ref (a0 47), .ref (a0 48), .ref (a0 49), .ref (a0 50), .ref (a0 68), .ref (a0 78), .ref (a0 80)]))]
abbrev rm_X12_fault : Room := { frames := 0, cells := 0, slots := 0, locals := 0 }
def p_X12_fault (gg : Int32 × Int32 × Int32 × Int32 × Int32 × Int32) : Option (Int32) := some gg.2.1
set_option maxHeartbeats 1000000 in
set_option maxRecDepth 100000 in
theorem c_X12_fault (l : Launch) (dC : Nat → ClassId) (dI : Nat → Nat → Nat) (cy : Nat → ClassId) (a0 : Nat → Nat) (gg : Int32 × Int32 × Int32 × Int32 × Int32 × Int32) (sz : Nat) (R0 : Int32) (h : p_X12_fault gg = some R0) : Met l yX12_fault wsX12_fault rm_X12_fault (va_Pc [.ref (a0 0)] (prC dC dI cy (w_X12_fault cy a0 gg) sz)) (va_Qi (fun (r : Int32) (_ : Unit) => r = R0) (fun (_ : Unit) t => poC dC dI cy (w_X12_fault cy a0 gg) t) (va_A (w_X12_fault cy a0 gg) sz)) 0 0 (va_A (w_X12_fault cy a0 gg) sz) := by
  refine Met.ofW (cc := cX12_fault) (maxL := 1) (ret := (some .int)) (by decide) rfl ?_
  intro p e s m aa below meth c s₁ B hml hv
  obtain ⟨haa, hsz, hP, hK, hD0⟩ := hv
  have hx := B.exec
  have hb := B.bytes
  have hr := B.returns
  have hts := atoms_spec (ws := wsX12_fault) B.pre
  have hown : s.vm.findClass RX12 = some m.cls := findClass_of_methodNamed B.named
  have hlocks := B.notSynchronized
  subst hsz
  have hD := hD0.self (sz := s.heap.size)
  obtain ⟨qq, hqq⟩ : ∃ qq, qq = (va_Qi (fun (r : Int32) (_ : Unit) => r = R0) (fun (_ : Unit) t => poC dC dI cy (w_X12_fault cy a0 gg) t) (va_A (w_X12_fault cy a0 gg) s.heap.size)) := ⟨_, rfl⟩
  rw [← hqq]
  generalize hAe : va_A (w_X12_fault cy a0 gg) s.heap.size = A at hD hqq ⊢
  have hA : ∀ q : Nat, s.heap.size ≤ q → A q := fun q h => by rw [← hAe]; exact Or.inr h
  have hS : va_S A s.heap s.heap [] := va_S.rf
  have hl := lv_entry ([.ref (a0 0)]) (n := 1) (Nat.le_of_ble_eq_true rfl)
  have hE : entryFrame m aa 1 = F0 m 0 ((lg_sl ([.ref (a0 0)]) ++ List.replicate (1 - (lg_sl ([.ref (a0 0)])).length) Slot.unset).toArray) [] := by rw [haa]; exact lg_entry_eq m _ 1
  refine W.eq hE ?_
  generalize (lg_sl ([.ref (a0 0)]) ++ List.replicate (1 - (lg_sl ([.ref (a0 0)])).length) Slot.unset).toArray = ls at hl ⊢
  have hl : lv_has ls 1 [(0, .ref (a0 0))] := hl
  change W p l e rm_X12_fault s m aa below meth c s.heap [] 0 0 (MQ below qq aa s 0 0 A) (F0 m 0 ls [])
  have hS0 := hS
  have lk0 := hts (.fieldLink RX12 13 "GoatDoors" "faultPlace" "I") (by decide +kernel)
  have in_X12 : ∀ w ∈ wsX120, w ∈ wsX12_fault := by decide +kernel
  obtain ⟨H, hH⟩ : ∃ H : Heap, H = s.heap := ⟨_, rfl⟩
  obtain ⟨locs, hlocs⟩ : ∃ locs : List Loc, locs = [] := ⟨_, rfl⟩
  have hS : va_S A s.heap H locs := by rw [hH, hlocs]; exact hS
  rw [← hH] at hP
  suffices hg : W p l e rm_X12_fault s m aa below meth c H locs 0 0 (MQ below qq aa s 0 0 A) (F0 m 0 ls []) by subst hH; subst hlocs; exact hg
  unfold p_X12_fault at h
  refine lv_aload_n hx hb dX12_fault_0 rfl (lv_at hl 0 rfl) ?_
  refine va_get (D := (dC, dI)) (ci := 10) (v := .int gg.2.1) (C := RX12) (T := TX12) (N := 17) hx hb hts in_X12 hown hK hP 0 rfl rfl 2 (by decide) lk0 (fun _ h9 => h9) rfl dX12_fault_1 ?_
  exact W.iret (v := gg.2.1) hx hb hr (fun t ht hW => by rw [hqq]; have hh := Option.some.inj h; exact ⟨⟨gg.2.1, (()), rfl, Option.some.inj h, by rw [ht]; exact hP, va_K.moved hW.alike hK⟩, hS.F ht⟩) hS.2.2 dX12_fault_4

abbrev w_X12_count (cy : Nat → ClassId) (a0 : Nat → Nat) (gg : Int32 × Int32 × Int32 × Int32 × Int32 × Int32) (gvn : Int32 × Int32 × (Nat → Int32) × (Nat → Int32) × (Nat → Int32) × (Nat → Int32) × (Nat → Int32)) (gdn : Int32 × Int32 × (Nat → Int32) × (Nat → Int32) × (Nat → Int32) × (Nat → Int32)) (gcn : Int32 × (Nat → Int32) × (Nat → Int32) × (Nat → Int32)) : va_W := [(a0 0, .inr (10, [.ref (a0 1), .int (gg.1), .int (gg.2.1), .int (gg.2.2.1), .int (gg.2.2.2.1), .int (gg.2.2.2.2.1), .ref (a0 2), .ref (a0 17), .ref (a0 32), .int (gg.2.2.2.2.2), .ref (a0 47), .ref (a0 48), .ref (a0 49), .ref (a0 50), .ref (a0 68), .ref (a0 78), .ref (a0 80)])), (a0 2, .inr (7, [.int (gvn.1), .int (gvn.2.1), .ref (a0 3), .ref (a0 8), .ref (a0 12), .ref (a0 13), .ref (a0 14), .ref (a0 15), .ref (a0 16)])), (a0 3, .inr (2, [.int (gdn.1), .int (gdn.2.1), .ref (a0 4), .ref (a0 5), .ref (a0 6), .ref (a0 7)])), (a0 4, .inl (cy 1, 10, .inl (gdn.2.2.1))), (a0 5, .inl (cy 1, 10, .inl (gdn.2.2.2.1))), (a0 6, .inl (cy 1, 10, .inl (gdn.2.2.2.2.1))), (a0 7, .inl (cy 1, 50, .inl (gdn.2.2.2.2.2))), (a0 8, .inr (6, [.int (gcn.1), .ref (a0 9), .ref (a0 10), .ref (a0 11)])), (a0 9, .inl (cy 1, 12, .inl (gcn.2.1))), (a0 10, .inl (cy 1, 12, .inl (gcn.2.2.1))), (a0 11, .inl (cy 1, 12, .inl (gcn.2.2.2))), (a0 12, .inl (cy 1, 5, .inl (gvn.2.2.1))), (a0 13, .inl (cy 1, 5, .inl (gvn.2.2.2.1))), (a0 14, .inl (cy 1, 5, .inl (gvn.2.2.2.2.1))), (a0 15, .inl (cy 1, 5, .inl (gvn.2.2.2.2.2.1))), (a0 16, .inl (cy 1, 5, .inl (gvn.2.2.2.2.2.2)))]
abbrev rm_X12_count : Room := { frames := 6, cells := 1, slots := 6, locals := 90 }
def p_X12_count (gg : Int32 × Int32 × Int32 × Int32 × Int32 × Int32) (gvn : Int32 × Int32 × (Nat → Int32) × (Nat → Int32) × (Nat → Int32) × (Nat → Int32) × (Nat → Int32)) (gdn : Int32 × Int32 × (Nat → Int32) × (Nat → Int32) × (Nat → Int32) × (Nat → Int32)) (gcn : Int32 × (Nat → Int32) × (Nat → Int32) × (Nat → Int32)) (x1 : Int32) : Option ((Int32 ⊕ Nat) × (Unit)) := (if x1 = (0 : Int32) then some (Sum.inl gvn.1, ()) else (if x1 = (1 : Int32) then some (Sum.inl gdn.2.1, ()) else (if x1 = (2 : Int32) then some (Sum.inl gdn.1, ()) else (if x1 = (3 : Int32) then some (Sum.inl gvn.2.1, ()) else (if x1 = (4 : Int32) then ((p_X9_allGoats gvn).bind fun v6 => some (Sum.inl v6, ())) else (if x1 = (5 : Int32) then some (Sum.inl gcn.1, ()) else (if x1 = (6 : Int32) then some (Sum.inl gg.1, ()) else (if x1 = (7 : Int32) then some (Sum.inl gg.2.2.1, ()) else (if x1 = (8 : Int32) then some (Sum.inl gg.2.2.2.1, ()) else (if x1 = (9 : Int32) then some (Sum.inl gg.2.2.2.2.1, ()) else some (Sum.inr 1, ())))))))))))
set_option maxHeartbeats 1000000 in
set_option maxRecDepth 100000 in
theorem c_X12_count (l : Launch) (dC : Nat → ClassId) (dI : Nat → Nat → Nat) (cy : Nat → ClassId) (z : Nat → Nat) (hl9 : l.stackTraces = false) (a0 : Nat → Nat) (gg : Int32 × Int32 × Int32 × Int32 × Int32 × Int32) (gvn : Int32 × Int32 × (Nat → Int32) × (Nat → Int32) × (Nat → Int32) × (Nat → Int32) × (Nat → Int32)) (gdn : Int32 × Int32 × (Nat → Int32) × (Nat → Int32) × (Nat → Int32) × (Nat → Int32)) (gcn : Int32 × (Nat → Int32) × (Nat → Int32) × (Nat → Int32)) (x1 : Int32) (sz : Nat) (R0 : (Int32 ⊕ Nat) × (Unit)) (h : p_X12_count gg gvn gdn gcn x1 = some R0) : vx_Met l yX12_count wsX12_count rm_X12_count (va_Pc [.ref (a0 0), .int x1] (prS dC dI cy z (w_X12_count cy a0 gg gvn gdn gcn) sz)) (va_Qi (fun (r : Int32) (u : Unit) => Sum.inl r = R0.1 ∧ u = R0.2) (fun (_ : Unit) t => poC dC dI cy (w_X12_count cy a0 gg gvn gdn gcn) t) (va_A (w_X12_count cy a0 gg gvn gdn gcn) sz)) (vx_X (fun (u : Unit) => u = R0.2) (fun E (_ : Unit) t => exE E R0.1 ∧ poC dC dI cy (w_X12_count cy a0 gg gvn gdn gcn) t) (va_A (w_X12_count cy a0 gg gvn gdn gcn) sz)) 1 6 (va_A (w_X12_count cy a0 gg gvn gdn gcn) sz) := by
  refine vx_ofW (cc := cX12_count) (maxL := 2) (ret := (some .int)) (by decide) rfl ?_
  intro p e s m aa below meth c s₁ B hml htab hv
  obtain ⟨haa, ⟨hsz, hP, hK, hD0⟩, hX⟩ := hv
  have hx := B.exec
  have hb := B.bytes
  have hr := B.returns
  have hts := atoms_spec (ws := wsX12_count) B.pre
  have hown : s.vm.findClass RX12 = some m.cls := findClass_of_methodNamed B.named
  have hlocks := B.notSynchronized
  subst hsz
  have hD := hD0.self (sz := s.heap.size)
  obtain ⟨qq, hqq⟩ : ∃ qq, qq = (va_Qi (fun (r : Int32) (u : Unit) => Sum.inl r = R0.1 ∧ u = R0.2) (fun (_ : Unit) t => poC dC dI cy (w_X12_count cy a0 gg gvn gdn gcn) t) (va_A (w_X12_count cy a0 gg gvn gdn gcn) s.heap.size)) := ⟨_, rfl⟩
  obtain ⟨xx, hxx⟩ : ∃ xx, xx = (vx_X (fun (u : Unit) => u = R0.2) (fun E (_ : Unit) t => exE E R0.1 ∧ poC dC dI cy (w_X12_count cy a0 gg gvn gdn gcn) t) (va_A (w_X12_count cy a0 gg gvn gdn gcn) s.heap.size)) := ⟨_, rfl⟩
  rw [← hqq, ← hxx]
  generalize hAe : va_A (w_X12_count cy a0 gg gvn gdn gcn) s.heap.size = A at hD hqq hxx hX ⊢
  have hA : ∀ q : Nat, s.heap.size ≤ q → A q := fun q h => by rw [← hAe]; exact Or.inr h
  have hS : va_S A s.heap s.heap [] := va_S.rf
  have hl := lv_entry ([.ref (a0 0), .int x1]) (n := 2) (Nat.le_of_ble_eq_true rfl)
  have hE : entryFrame m aa 2 = F0 m 0 ((lg_sl ([.ref (a0 0), .int x1]) ++ List.replicate (2 - (lg_sl ([.ref (a0 0), .int x1])).length) Slot.unset).toArray) [] := by rw [haa]; exact lg_entry_eq m _ 2
  refine W.eq hE ?_
  generalize (lg_sl ([.ref (a0 0), .int x1]) ++ List.replicate (2 - (lg_sl ([.ref (a0 0), .int x1])).length) Slot.unset).toArray = ls at hl ⊢
  have hl : lv_has ls 2 [(0, .ref (a0 0)), (1, .int x1)] := hl
  change W p l e rm_X12_count s m aa below meth c s.heap [] 0 0 (vx_MQ below qq xx aa s 1 6 A) (F0 m 0 ls [])
  have hS0 := hS
  have lk0 := hts (.fieldLink RX12 20 "GoatDoors" "now" "LGoatDoors$Village;") (by decide +kernel)
  have lk1 := hts (.fieldLink RX12 114 "GoatDoors$Village" "owners" "I") (by decide +kernel)
  have lk2 := hts (.fieldLink RX12 130 "GoatDoors$Village" "doors" "LGoatDoors$Doors;") (by decide +kernel)
  have lk3 := hts (.fieldLink RX12 134 "GoatDoors$Doors" "bits" "I") (by decide +kernel)
  have lk4 := hts (.fieldLink RX12 139 "GoatDoors$Doors" "law" "I") (by decide +kernel)
  have lk5 := hts (.fieldLink RX12 142 "GoatDoors$Village" "base" "I") (by decide +kernel)
  have lk6 := hts (.fieldLink RX12 149 "GoatDoors$Village" "receipts" "LGoatDoors$Receipts;") (by decide +kernel)
  have lk7 := hts (.fieldLink RX12 153 "GoatDoors$Receipts" "size" "I") (by decide +kernel)
  have lk8 := hts (.fieldLink RX12 83 "GoatDoors" "tapeLength" "I") (by decide +kernel)
  have lk9 := hts (.fieldLink RX12 100 "GoatDoors" "refusedTexts" "I") (by decide +kernel)
  have lk10 := hts (.fieldLink RX12 127 "GoatDoors" "refusedDays" "I") (by decide +kernel)
  have lk11 := hts (.fieldLink RX12 158 "GoatDoors" "refusedReceipts" "I") (by decide +kernel)
  have lk12 := hts (.classLink RX12 161 "java/util/NoSuchElementException") (by decide +kernel)
  have lk13 := hts (.initialized "java/util/NoSuchElementException") (by decide +kernel)
  have in_X12 : ∀ w ∈ wsX120, w ∈ wsX12_count := by decide +kernel
  have in_X9 : ∀ w ∈ wsX90, w ∈ wsX12_count := by decide +kernel
  have in_X4 : ∀ w ∈ wsX40, w ∈ wsX12_count := by decide +kernel
  have in_X8 : ∀ w ∈ wsX80, w ∈ wsX12_count := by decide +kernel
  have gd165 : ∀ w ∈ (vx_atS RX12 165 "java/util/NoSuchElementException" ["java/lang/RuntimeException", "java/lang/Exception"]).filter goodWord, w.before aa s = true := fun w hw => hts w ((show ∀ w ∈ (vx_atS RX12 165 "java/util/NoSuchElementException" ["java/lang/RuntimeException", "java/lang/Exception"]).filter goodWord, w ∈ wsX12_count by decide +kernel) w hw)
  obtain ⟨H, hH⟩ : ∃ H : Heap, H = s.heap := ⟨_, rfl⟩
  obtain ⟨locs, hlocs⟩ : ∃ locs : List Loc, locs = [] := ⟨_, rfl⟩
  have hS : va_S A s.heap H locs := by rw [hH, hlocs]; exact hS
  rw [← hH] at hP
  suffices hg : W p l e rm_X12_count s m aa below meth c H locs 0 0 (vx_MQ below qq xx aa s 1 6 A) (F0 m 0 ls []) by subst hH; subst hlocs; exact hg
  unfold p_X12_count at h
  refine lv_iload_n hx hb dX12_count_0 rfl (lv_at hl 1 rfl) ?_
  by_cases c1 : x1 = (0 : Int32)
  · rw [if_pos c1] at h
    refine lv_tableIn (off := 55) (tgt := 56) hx hb dX12_count_1 (by rw [c1]; decide) (by rw [c1]; decide) (by rw [c1]; decide) (by decide) ?_
    refine lv_aload_n hx hb dX12_count_56 rfl (lv_at hl 0 rfl) ?_
    refine va_get (D := (dC, dI)) (ci := 10) (v := .ref (a0 2)) (C := RX12) (T := TX12) (N := 17) hx hb hts in_X12 hown hK hP 0 rfl rfl 6 (by decide) lk0 (fun _ h9 => h9) rfl dX12_count_57 ?_
    refine va_get (D := (dC, dI)) (ci := 7) (v := .int gvn.1) (C := RX9) (T := TX9) (N := 9) hx hb hts in_X9 hown hK hP 1 rfl rfl 0 (by decide) lk1 (fun _ h9 => h9) rfl dX12_count_60 ?_
    refine vx_ret ?_
    refine W.widen (k := 1) (n := 6) (by decide) (by decide) ?_
    exact W.iret (v := gvn.1) hx hb hr (fun t ht hW => by rw [hqq]; have hh := Option.some.inj h; exact ⟨⟨gvn.1, (()), rfl, ⟨fst_of hh, snd_of hh⟩, by rw [ht]; exact hP, va_K.moved hW.alike hK⟩, hS.F ht⟩) hS.2.2 dX12_count_63
  rw [if_neg c1] at h
  by_cases c2 : x1 = (1 : Int32)
  · rw [if_pos c2] at h
    refine lv_tableIn (off := 63) (tgt := 64) hx hb dX12_count_1 (by rw [c2]; decide) (by rw [c2]; decide) (by rw [c2]; decide) (by decide) ?_
    refine lv_aload_n hx hb dX12_count_64 rfl (lv_at hl 0 rfl) ?_
    refine va_get (D := (dC, dI)) (ci := 10) (v := .ref (a0 2)) (C := RX12) (T := TX12) (N := 17) hx hb hts in_X12 hown hK hP 0 rfl rfl 6 (by decide) lk0 (fun _ h9 => h9) rfl dX12_count_65 ?_
    refine va_get (D := (dC, dI)) (ci := 7) (v := .ref (a0 3)) (C := RX9) (T := TX9) (N := 9) hx hb hts in_X9 hown hK hP 1 rfl rfl 2 (by decide) lk2 (fun _ h9 => h9) rfl dX12_count_68 ?_
    refine va_get (D := (dC, dI)) (ci := 2) (v := .int gdn.2.1) (C := RX4) (T := TX4) (N := 6) hx hb hts in_X4 hown hK hP 2 rfl rfl 1 (by decide) lk3 (fun _ h9 => h9) rfl dX12_count_71 ?_
    refine vx_ret ?_
    refine W.widen (k := 1) (n := 6) (by decide) (by decide) ?_
    exact W.iret (v := gdn.2.1) hx hb hr (fun t ht hW => by rw [hqq]; have hh := Option.some.inj h; exact ⟨⟨gdn.2.1, (()), rfl, ⟨fst_of hh, snd_of hh⟩, by rw [ht]; exact hP, va_K.moved hW.alike hK⟩, hS.F ht⟩) hS.2.2 dX12_count_74
  rw [if_neg c2] at h
  by_cases c3 : x1 = (2 : Int32)
  · rw [if_pos c3] at h
    refine lv_tableIn (off := 74) (tgt := 75) hx hb dX12_count_1 (by rw [c3]; decide) (by rw [c3]; decide) (by rw [c3]; decide) (by decide) ?_
    refine lv_aload_n hx hb dX12_count_75 rfl (lv_at hl 0 rfl) ?_
    refine va_get (D := (dC, dI)) (ci := 10) (v := .ref (a0 2)) (C := RX12) (T := TX12) (N := 17) hx hb hts in_X12 hown hK hP 0 rfl rfl 6 (by decide) lk0 (fun _ h9 => h9) rfl dX12_count_76 ?_
    refine va_get (D := (dC, dI)) (ci := 7) (v := .ref (a0 3)) (C := RX9) (T := TX9) (N := 9) hx hb hts in_X9 hown hK hP 1 rfl rfl 2 (by decide) lk2 (fun _ h9 => h9) rfl dX12_count_79 ?_
    refine va_get (D := (dC, dI)) (ci := 2) (v := .int gdn.1) (C := RX4) (T := TX4) (N := 6) hx hb hts in_X4 hown hK hP 2 rfl rfl 0 (by decide) lk4 (fun _ h9 => h9) rfl dX12_count_82 ?_
    refine vx_ret ?_
    refine W.widen (k := 1) (n := 6) (by decide) (by decide) ?_
    exact W.iret (v := gdn.1) hx hb hr (fun t ht hW => by rw [hqq]; have hh := Option.some.inj h; exact ⟨⟨gdn.1, (()), rfl, ⟨fst_of hh, snd_of hh⟩, by rw [ht]; exact hP, va_K.moved hW.alike hK⟩, hS.F ht⟩) hS.2.2 dX12_count_85
  rw [if_neg c3] at h
  by_cases c4 : x1 = (3 : Int32)
  · rw [if_pos c4] at h
    refine lv_tableIn (off := 85) (tgt := 86) hx hb dX12_count_1 (by rw [c4]; decide) (by rw [c4]; decide) (by rw [c4]; decide) (by decide) ?_
    refine lv_aload_n hx hb dX12_count_86 rfl (lv_at hl 0 rfl) ?_
    refine va_get (D := (dC, dI)) (ci := 10) (v := .ref (a0 2)) (C := RX12) (T := TX12) (N := 17) hx hb hts in_X12 hown hK hP 0 rfl rfl 6 (by decide) lk0 (fun _ h9 => h9) rfl dX12_count_87 ?_
    refine va_get (D := (dC, dI)) (ci := 7) (v := .int gvn.2.1) (C := RX9) (T := TX9) (N := 9) hx hb hts in_X9 hown hK hP 1 rfl rfl 1 (by decide) lk5 (fun _ h9 => h9) rfl dX12_count_90 ?_
    refine vx_ret ?_
    refine W.widen (k := 1) (n := 6) (by decide) (by decide) ?_
    exact W.iret (v := gvn.2.1) hx hb hr (fun t ht hW => by rw [hqq]; have hh := Option.some.inj h; exact ⟨⟨gvn.2.1, (()), rfl, ⟨fst_of hh, snd_of hh⟩, by rw [ht]; exact hP, va_K.moved hW.alike hK⟩, hS.F ht⟩) hS.2.2 dX12_count_93
  rw [if_neg c4] at h
  by_cases c5 : x1 = (4 : Int32)
  · rw [if_pos c5] at h
    refine lv_tableIn (off := 93) (tgt := 94) hx hb dX12_count_1 (by rw [c5]; decide) (by rw [c5]; decide) (by rw [c5]; decide) (by decide) ?_
    refine lv_aload_n hx hb dX12_count_94 rfl (lv_at hl 0 rfl) ?_
    refine va_get (D := (dC, dI)) (ci := 10) (v := .ref (a0 2)) (C := RX12) (T := TX12) (N := 17) hx hb hts in_X12 hown hK hP 0 rfl rfl 6 (by decide) lk0 (fun _ h9 => h9) rfl dX12_count_95 ?_
    obtain ⟨v6, hv7, h⟩ := ok_bind h
    refine cl_vi (w2 := fun (_ : Unit) => w_X12_count cy a0 gg gvn gdn gcn) (As := []) (rest := []) ⟨hx, hb, hml, hown, hts⟩ (c_X9_allGoats l dC dI cy (fun k => a0 (k + 2)) gvn H.size v6 hv7) (cwV 0 hts gX12_count_X9_allGoats rfl rfl rfl (by decide +kernel) ⟨Nat.le_of_ble_eq_true rfl, Nat.le_of_ble_eq_true rfl⟩) (va_recv hK hP (ci := 7) (q0 := 1) rfl rfl) cl_blind (cl_pre hK hP hD [1, 11, 12, 13, 14, 15] (by decide) rfl) hP hD hS hA [1, 11, 12, 13, 14, 15] rfl rfl hl.1 rfl (lv_room (Nat.le_of_ble_eq_true rfl)) dX12_count_98 ⟨Nat.le_of_ble_eq_true rfl, Nat.le_of_ble_eq_true rfl⟩ ⟨rfl, rfl⟩ (fun _ => updR [1, 11, 12, 13, 14, 15] rfl) (fun r u H locs hw hP hD hS => ?_)
    have hw := hw.symm
    subst hw
    have hP : va_P (dC, dI) vwCl (w_X12_count cy a0 gg gvn gdn gcn) H := hP
    have hD : va_D A (w_X12_count cy a0 gg gvn gdn gcn) := hD
    refine vx_ret ?_
    refine W.widen (k := 1) (n := 6) (by decide) (by decide) ?_
    exact W.iret (v := v6) hx hb hr (fun t ht hW => by rw [hqq]; have hh := Option.some.inj h; exact ⟨⟨v6, (()), rfl, ⟨fst_of hh, snd_of hh⟩, by rw [ht]; exact hP, va_K.moved hW.alike hK⟩, hS.F ht⟩) hS.2.2 dX12_count_101
  rw [if_neg c5] at h
  by_cases c8 : x1 = (5 : Int32)
  · rw [if_pos c8] at h
    refine lv_tableIn (off := 101) (tgt := 102) hx hb dX12_count_1 (by rw [c8]; decide) (by rw [c8]; decide) (by rw [c8]; decide) (by decide) ?_
    refine lv_aload_n hx hb dX12_count_102 rfl (lv_at hl 0 rfl) ?_
    refine va_get (D := (dC, dI)) (ci := 10) (v := .ref (a0 2)) (C := RX12) (T := TX12) (N := 17) hx hb hts in_X12 hown hK hP 0 rfl rfl 6 (by decide) lk0 (fun _ h9 => h9) rfl dX12_count_103 ?_
    refine va_get (D := (dC, dI)) (ci := 7) (v := .ref (a0 8)) (C := RX9) (T := TX9) (N := 9) hx hb hts in_X9 hown hK hP 1 rfl rfl 3 (by decide) lk6 (fun _ h9 => h9) rfl dX12_count_106 ?_
    refine va_get (D := (dC, dI)) (ci := 6) (v := .int gcn.1) (C := RX8) (T := TX8) (N := 4) hx hb hts in_X8 hown hK hP 7 rfl rfl 0 (by decide) lk7 (fun _ h9 => h9) rfl dX12_count_109 ?_
    refine vx_ret ?_
    refine W.widen (k := 1) (n := 6) (by decide) (by decide) ?_
    exact W.iret (v := gcn.1) hx hb hr (fun t ht hW => by rw [hqq]; have hh := Option.some.inj h; exact ⟨⟨gcn.1, (()), rfl, ⟨fst_of hh, snd_of hh⟩, by rw [ht]; exact hP, va_K.moved hW.alike hK⟩, hS.F ht⟩) hS.2.2 dX12_count_112
  rw [if_neg c8] at h
  by_cases c9 : x1 = (6 : Int32)
  · rw [if_pos c9] at h
    refine lv_tableIn (off := 112) (tgt := 113) hx hb dX12_count_1 (by rw [c9]; decide) (by rw [c9]; decide) (by rw [c9]; decide) (by decide) ?_
    refine lv_aload_n hx hb dX12_count_113 rfl (lv_at hl 0 rfl) ?_
    refine va_get (D := (dC, dI)) (ci := 10) (v := .int gg.1) (C := RX12) (T := TX12) (N := 17) hx hb hts in_X12 hown hK hP 0 rfl rfl 1 (by decide) lk8 (fun _ h9 => h9) rfl dX12_count_114 ?_
    refine vx_ret ?_
    refine W.widen (k := 1) (n := 6) (by decide) (by decide) ?_
    exact W.iret (v := gg.1) hx hb hr (fun t ht hW => by rw [hqq]; have hh := Option.some.inj h; exact ⟨⟨gg.1, (()), rfl, ⟨fst_of hh, snd_of hh⟩, by rw [ht]; exact hP, va_K.moved hW.alike hK⟩, hS.F ht⟩) hS.2.2 dX12_count_117
  rw [if_neg c9] at h
  by_cases c10 : x1 = (7 : Int32)
  · rw [if_pos c10] at h
    refine lv_tableIn (off := 117) (tgt := 118) hx hb dX12_count_1 (by rw [c10]; decide) (by rw [c10]; decide) (by rw [c10]; decide) (by decide) ?_
    refine lv_aload_n hx hb dX12_count_118 rfl (lv_at hl 0 rfl) ?_
    refine va_get (D := (dC, dI)) (ci := 10) (v := .int gg.2.2.1) (C := RX12) (T := TX12) (N := 17) hx hb hts in_X12 hown hK hP 0 rfl rfl 3 (by decide) lk9 (fun _ h9 => h9) rfl dX12_count_119 ?_
    refine vx_ret ?_
    refine W.widen (k := 1) (n := 6) (by decide) (by decide) ?_
    exact W.iret (v := gg.2.2.1) hx hb hr (fun t ht hW => by rw [hqq]; have hh := Option.some.inj h; exact ⟨⟨gg.2.2.1, (()), rfl, ⟨fst_of hh, snd_of hh⟩, by rw [ht]; exact hP, va_K.moved hW.alike hK⟩, hS.F ht⟩) hS.2.2 dX12_count_122
  rw [if_neg c10] at h
  by_cases c11 : x1 = (8 : Int32)
  · rw [if_pos c11] at h
    refine lv_tableIn (off := 122) (tgt := 123) hx hb dX12_count_1 (by rw [c11]; decide) (by rw [c11]; decide) (by rw [c11]; decide) (by decide) ?_
    refine lv_aload_n hx hb dX12_count_123 rfl (lv_at hl 0 rfl) ?_
    refine va_get (D := (dC, dI)) (ci := 10) (v := .int gg.2.2.2.1) (C := RX12) (T := TX12) (N := 17) hx hb hts in_X12 hown hK hP 0 rfl rfl 4 (by decide) lk10 (fun _ h9 => h9) rfl dX12_count_124 ?_
    refine vx_ret ?_
    refine W.widen (k := 1) (n := 6) (by decide) (by decide) ?_
    exact W.iret (v := gg.2.2.2.1) hx hb hr (fun t ht hW => by rw [hqq]; have hh := Option.some.inj h; exact ⟨⟨gg.2.2.2.1, (()), rfl, ⟨fst_of hh, snd_of hh⟩, by rw [ht]; exact hP, va_K.moved hW.alike hK⟩, hS.F ht⟩) hS.2.2 dX12_count_127
  rw [if_neg c11] at h
  by_cases c12 : x1 = (9 : Int32)
  · rw [if_pos c12] at h
    refine lv_tableIn (off := 127) (tgt := 128) hx hb dX12_count_1 (by rw [c12]; decide) (by rw [c12]; decide) (by rw [c12]; decide) (by decide) ?_
    refine lv_aload_n hx hb dX12_count_128 rfl (lv_at hl 0 rfl) ?_
    refine va_get (D := (dC, dI)) (ci := 10) (v := .int gg.2.2.2.2.1) (C := RX12) (T := TX12) (N := 17) hx hb hts in_X12 hown hK hP 0 rfl rfl 5 (by decide) lk11 (fun _ h9 => h9) rfl dX12_count_129 ?_
    refine vx_ret ?_
    refine W.widen (k := 1) (n := 6) (by decide) (by decide) ?_
    exact W.iret (v := gg.2.2.2.2.1) hx hb hr (fun t ht hW => by rw [hqq]; have hh := Option.some.inj h; exact ⟨⟨gg.2.2.2.2.1, (()), rfl, ⟨fst_of hh, snd_of hh⟩, by rw [ht]; exact hP, va_K.moved hW.alike hK⟩, hS.F ht⟩) hS.2.2 dX12_count_132
  rw [if_neg c12] at h
  refine lv_tableOut (tgt := 133) hx hb dX12_count_1 (tab_out (fun k h1 h2 e => by rcases (show k = 0 ∨ k = 1 ∨ k = 2 ∨ k = 3 ∨ k = 4 ∨ k = 5 ∨ k = 6 ∨ k = 7 ∨ k = 8 ∨ k = 9 by omega) with rfl | rfl | rfl | rfl | rfl | rfl | rfl | rfl | rfl | rfl; exacts [c1 (Int32.toInt_inj.mp (e.trans (by decide))), c2 (Int32.toInt_inj.mp (e.trans (by decide))), c3 (Int32.toInt_inj.mp (e.trans (by decide))), c4 (Int32.toInt_inj.mp (e.trans (by decide))), c5 (Int32.toInt_inj.mp (e.trans (by decide))), c8 (Int32.toInt_inj.mp (e.trans (by decide))), c9 (Int32.toInt_inj.mp (e.trans (by decide))), c10 (Int32.toInt_inj.mp (e.trans (by decide))), c11 (Int32.toInt_inj.mp (e.trans (by decide))), c12 (Int32.toInt_inj.mp (e.trans (by decide)))])) (by decide) ?_
  refine vx_throwS (XC := xx) (text := "no such count") (names := ["java/lang/RuntimeException", "java/lang/Exception"]) hx hb hl9 hown (by decide) (by decide) lk12 lk13 (hX.tx 163 "no such count" (by decide)) (ex_at165 gd165 hX) (by decide +kernel) hX.us hX.ss hS (by rw [hml]; exact hl.1) dX12_count_133 dX12_count_136 dX12_count_137 dX12_count_139 dX12_count_142 (fun x9 hx9 => (htab x9 hx9).elim) (Nat.le_of_ble_eq_true rfl) (Nat.le_of_ble_eq_true rfl) (Nat.le_of_ble_eq_true rfl) (Nat.le_of_ble_eq_true rfl) hlocks (fun t h1 h2 h3 => by rw [hxx]; have hh := Option.some.inj h; exact ⟨(()), snd_of hh, ⟨exE_1 (fst_of hh).symm, ex_po hP hK h1 h3⟩, ex_F hS h2 h3⟩) hS.2.2 (by decide) (by decide)

abbrev w_X12_needOwner (cy : Nat → ClassId) (a0 : Nat → Nat) (gg : Int32 × Int32 × Int32 × Int32 × Int32 × Int32) (gvn : Int32 × Int32 × (Nat → Int32) × (Nat → Int32) × (Nat → Int32) × (Nat → Int32) × (Nat → Int32)) : va_W := [(a0 0, .inr (10, [.ref (a0 1), .int (gg.1), .int (gg.2.1), .int (gg.2.2.1), .int (gg.2.2.2.1), .int (gg.2.2.2.2.1), .ref (a0 2), .ref (a0 17), .ref (a0 32), .int (gg.2.2.2.2.2), .ref (a0 47), .ref (a0 48), .ref (a0 49), .ref (a0 50), .ref (a0 68), .ref (a0 78), .ref (a0 80)])), (a0 2, .inr (7, [.int (gvn.1), .int (gvn.2.1), .ref (a0 3), .ref (a0 8), .ref (a0 12), .ref (a0 13), .ref (a0 14), .ref (a0 15), .ref (a0 16)])), (a0 12, .inl (cy 1, 5, .inl (gvn.2.2.1))), (a0 13, .inl (cy 1, 5, .inl (gvn.2.2.2.1))), (a0 14, .inl (cy 1, 5, .inl (gvn.2.2.2.2.1))), (a0 15, .inl (cy 1, 5, .inl (gvn.2.2.2.2.2.1))), (a0 16, .inl (cy 1, 5, .inl (gvn.2.2.2.2.2.2)))]
abbrev rm_X12_needOwner : Room := { frames := 6, cells := 1, slots := 6, locals := 90 }
def p_X12_needOwner (gg : Int32 × Int32 × Int32 × Int32 × Int32 × Int32) (gvn : Int32 × Int32 × (Nat → Int32) × (Nat → Int32) × (Nat → Int32) × (Nat → Int32) × (Nat → Int32)) (x1 : Int32) : Option ((Unit ⊕ Nat) × (Unit)) := ((p_X9_hasOwner gvn x1).bind fun v1 => (if v1 = (0 : Int32) then some (Sum.inr 1, ()) else some (Sum.inl (), ())))
set_option maxHeartbeats 1000000 in
set_option maxRecDepth 100000 in
theorem c_X12_needOwner (l : Launch) (dC : Nat → ClassId) (dI : Nat → Nat → Nat) (cy : Nat → ClassId) (z : Nat → Nat) (hl9 : l.stackTraces = false) (a0 : Nat → Nat) (gg : Int32 × Int32 × Int32 × Int32 × Int32 × Int32) (gvn : Int32 × Int32 × (Nat → Int32) × (Nat → Int32) × (Nat → Int32) × (Nat → Int32) × (Nat → Int32)) (x1 : Int32) (sz : Nat) (R0 : (Unit ⊕ Nat) × (Unit)) (h : p_X12_needOwner gg gvn x1 = some R0) : vx_Met l yX12_needOwner wsX12_needOwner rm_X12_needOwner (va_Pc [.ref (a0 0), .int x1] (prS dC dI cy z (w_X12_needOwner cy a0 gg gvn) sz)) (va_Qv (fun (u : Unit) => Sum.inl () = R0.1 ∧ u = R0.2) (fun (_ : Unit) t => poC dC dI cy (w_X12_needOwner cy a0 gg gvn) t) (va_A (w_X12_needOwner cy a0 gg gvn) sz)) (vx_X (fun (u : Unit) => u = R0.2) (fun E (_ : Unit) t => exE E R0.1 ∧ poC dC dI cy (w_X12_needOwner cy a0 gg gvn) t) (va_A (w_X12_needOwner cy a0 gg gvn) sz)) 1 6 (va_A (w_X12_needOwner cy a0 gg gvn) sz) := by
  refine vx_ofW (cc := cX12_needOwner) (maxL := 2) (ret := none) (by decide) rfl ?_
  intro p e s m aa below meth c s₁ B hml htab hv
  obtain ⟨haa, ⟨hsz, hP, hK, hD0⟩, hX⟩ := hv
  have hx := B.exec
  have hb := B.bytes
  have hr := B.returns
  have hts := atoms_spec (ws := wsX12_needOwner) B.pre
  have hown : s.vm.findClass RX12 = some m.cls := findClass_of_methodNamed B.named
  have hlocks := B.notSynchronized
  subst hsz
  have hD := hD0.self (sz := s.heap.size)
  obtain ⟨qq, hqq⟩ : ∃ qq, qq = (va_Qv (fun (u : Unit) => Sum.inl () = R0.1 ∧ u = R0.2) (fun (_ : Unit) t => poC dC dI cy (w_X12_needOwner cy a0 gg gvn) t) (va_A (w_X12_needOwner cy a0 gg gvn) s.heap.size)) := ⟨_, rfl⟩
  obtain ⟨xx, hxx⟩ : ∃ xx, xx = (vx_X (fun (u : Unit) => u = R0.2) (fun E (_ : Unit) t => exE E R0.1 ∧ poC dC dI cy (w_X12_needOwner cy a0 gg gvn) t) (va_A (w_X12_needOwner cy a0 gg gvn) s.heap.size)) := ⟨_, rfl⟩
  rw [← hqq, ← hxx]
  generalize hAe : va_A (w_X12_needOwner cy a0 gg gvn) s.heap.size = A at hD hqq hxx hX ⊢
  have hA : ∀ q : Nat, s.heap.size ≤ q → A q := fun q h => by rw [← hAe]; exact Or.inr h
  have hS : va_S A s.heap s.heap [] := va_S.rf
  have hl := lv_entry ([.ref (a0 0), .int x1]) (n := 2) (Nat.le_of_ble_eq_true rfl)
  have hE : entryFrame m aa 2 = F0 m 0 ((lg_sl ([.ref (a0 0), .int x1]) ++ List.replicate (2 - (lg_sl ([.ref (a0 0), .int x1])).length) Slot.unset).toArray) [] := by rw [haa]; exact lg_entry_eq m _ 2
  refine W.eq hE ?_
  generalize (lg_sl ([.ref (a0 0), .int x1]) ++ List.replicate (2 - (lg_sl ([.ref (a0 0), .int x1])).length) Slot.unset).toArray = ls at hl ⊢
  have hl : lv_has ls 2 [(0, .ref (a0 0)), (1, .int x1)] := hl
  change W p l e rm_X12_needOwner s m aa below meth c s.heap [] 0 0 (vx_MQ below qq xx aa s 1 6 A) (F0 m 0 ls [])
  have hS0 := hS
  have lk0 := hts (.fieldLink RX12 20 "GoatDoors" "now" "LGoatDoors$Village;") (by decide +kernel)
  have lk1 := hts (.classLink RX12 161 "java/util/NoSuchElementException") (by decide +kernel)
  have lk2 := hts (.initialized "java/util/NoSuchElementException") (by decide +kernel)
  have in_X12 : ∀ w ∈ wsX120, w ∈ wsX12_needOwner := by decide +kernel
  have gd165 : ∀ w ∈ (vx_atS RX12 165 "java/util/NoSuchElementException" ["java/lang/RuntimeException", "java/lang/Exception"]).filter goodWord, w.before aa s = true := fun w hw => hts w ((show ∀ w ∈ (vx_atS RX12 165 "java/util/NoSuchElementException" ["java/lang/RuntimeException", "java/lang/Exception"]).filter goodWord, w ∈ wsX12_needOwner by decide +kernel) w hw)
  obtain ⟨H, hH⟩ : ∃ H : Heap, H = s.heap := ⟨_, rfl⟩
  obtain ⟨locs, hlocs⟩ : ∃ locs : List Loc, locs = [] := ⟨_, rfl⟩
  have hS : va_S A s.heap H locs := by rw [hH, hlocs]; exact hS
  rw [← hH] at hP
  suffices hg : W p l e rm_X12_needOwner s m aa below meth c H locs 0 0 (vx_MQ below qq xx aa s 1 6 A) (F0 m 0 ls []) by subst hH; subst hlocs; exact hg
  unfold p_X12_needOwner at h
  refine lv_aload_n hx hb dX12_needOwner_0 rfl (lv_at hl 0 rfl) ?_
  refine va_get (D := (dC, dI)) (ci := 10) (v := .ref (a0 2)) (C := RX12) (T := TX12) (N := 17) hx hb hts in_X12 hown hK hP 0 rfl rfl 6 (by decide) lk0 (fun _ h9 => h9) rfl dX12_needOwner_1 ?_
  refine lv_iload_n hx hb dX12_needOwner_4 rfl (lv_at hl 1 rfl) ?_
  obtain ⟨v1, hv2, h⟩ := ok_bind h
  refine cl_vi (w2 := fun (_ : Unit) => w_X12_needOwner cy a0 gg gvn) (As := [.int x1]) (rest := []) ⟨hx, hb, hml, hown, hts⟩ (c_X9_hasOwner l dC dI cy (fun k => a0 (k + 2)) gvn x1 H.size v1 hv2) (cwV 1 hts gX12_needOwner_X9_hasOwner rfl rfl rfl (by decide +kernel) ⟨Nat.le_of_ble_eq_true rfl, Nat.le_of_ble_eq_true rfl⟩) (va_recv hK hP (ci := 7) (q0 := 1) rfl rfl) cl_blind (cl_pre hK hP hD [1, 2, 3, 4, 5, 6] (by decide) rfl) hP hD hS hA [1, 2, 3, 4, 5, 6] rfl rfl hl.1 rfl (lv_room (Nat.le_of_ble_eq_true rfl)) dX12_needOwner_5 ⟨Nat.le_of_ble_eq_true rfl, Nat.le_of_ble_eq_true rfl⟩ ⟨rfl, rfl⟩ (fun _ => updR [1, 2, 3, 4, 5, 6] rfl) (fun r u H locs hw hP hD hS => ?_)
  have hw := hw.symm
  subst hw
  have hP : va_P (dC, dI) vwCl (w_X12_needOwner cy a0 gg gvn) H := hP
  have hD : va_D A (w_X12_needOwner cy a0 gg gvn) := hD
  refine lv_if_ne (tgt := 22) hx hb dX12_needOwner_8 (by decide) (fun c3 => ?_) (fun c3 => ?_)
  · rw [if_neg c3] at h
    refine vx_ret ?_
    refine W.widen (k := 1) (n := 6) (by decide) (by decide) ?_
    exact W.vret hx hb hr (fun t ht hW => by rw [hqq]; have hh := Option.some.inj h; exact ⟨⟨(()), rfl, ⟨fst_of hh, snd_of hh⟩, by rw [ht]; exact hP, va_K.moved hW.alike hK⟩, hS.F ht⟩) hS.2.2 dX12_needOwner_22
  · rw [if_pos c3] at h
    refine vx_throwSW (XC := xx) (text := "no such owner") (names := ["java/lang/RuntimeException", "java/lang/Exception"]) hx hb hl9 hown (by decide) (by decide) lk1 lk2 (hX.tx 363 "no such owner" (by decide)) (ex_at165 gd165 hX) (by decide +kernel) hX.us hX.ss hS (by rw [hml]; exact hl.1) dX12_needOwner_11 dX12_needOwner_14 dX12_needOwner_15 dX12_needOwner_18 dX12_needOwner_21 (fun x9 hx9 => (htab x9 hx9).elim) (Nat.le_of_ble_eq_true rfl) (Nat.le_of_ble_eq_true rfl) (Nat.le_of_ble_eq_true rfl) (Nat.le_of_ble_eq_true rfl) hlocks (fun t h1 h2 h3 => by rw [hxx]; have hh := Option.some.inj h; exact ⟨(()), snd_of hh, ⟨exE_1 (fst_of hh).symm, ex_po hP hK h1 h3⟩, ex_F hS h2 h3⟩) hS.2.2 (by decide) (by decide)

abbrev w_X12_owner (cy : Nat → ClassId) (a0 : Nat → Nat) (gg : Int32 × Int32 × Int32 × Int32 × Int32 × Int32) (gvn : Int32 × Int32 × (Nat → Int32) × (Nat → Int32) × (Nat → Int32) × (Nat → Int32) × (Nat → Int32)) (gdn : Int32 × Int32 × (Nat → Int32) × (Nat → Int32) × (Nat → Int32) × (Nat → Int32)) : va_W := [(a0 0, .inr (10, [.ref (a0 1), .int (gg.1), .int (gg.2.1), .int (gg.2.2.1), .int (gg.2.2.2.1), .int (gg.2.2.2.2.1), .ref (a0 2), .ref (a0 17), .ref (a0 32), .int (gg.2.2.2.2.2), .ref (a0 47), .ref (a0 48), .ref (a0 49), .ref (a0 50), .ref (a0 68), .ref (a0 78), .ref (a0 80)])), (a0 2, .inr (7, [.int (gvn.1), .int (gvn.2.1), .ref (a0 3), .ref (a0 8), .ref (a0 12), .ref (a0 13), .ref (a0 14), .ref (a0 15), .ref (a0 16)])), (a0 3, .inr (2, [.int (gdn.1), .int (gdn.2.1), .ref (a0 4), .ref (a0 5), .ref (a0 6), .ref (a0 7)])), (a0 4, .inl (cy 1, 10, .inl (gdn.2.2.1))), (a0 5, .inl (cy 1, 10, .inl (gdn.2.2.2.1))), (a0 6, .inl (cy 1, 10, .inl (gdn.2.2.2.2.1))), (a0 7, .inl (cy 1, 50, .inl (gdn.2.2.2.2.2))), (a0 12, .inl (cy 1, 5, .inl (gvn.2.2.1))), (a0 13, .inl (cy 1, 5, .inl (gvn.2.2.2.1))), (a0 14, .inl (cy 1, 5, .inl (gvn.2.2.2.2.1))), (a0 15, .inl (cy 1, 5, .inl (gvn.2.2.2.2.2.1))), (a0 16, .inl (cy 1, 5, .inl (gvn.2.2.2.2.2.2)))]
abbrev rm_X12_owner : Room := { frames := 7, cells := 2, slots := 12, locals := 140 }
def p_X12_owner (gg : Int32 × Int32 × Int32 × Int32 × Int32 × Int32) (gvn : Int32 × Int32 × (Nat → Int32) × (Nat → Int32) × (Nat → Int32) × (Nat → Int32) × (Nat → Int32)) (gdn : Int32 × Int32 × (Nat → Int32) × (Nat → Int32) × (Nat → Int32) × (Nat → Int32)) (x1 : Int32) (x2 : Int32) : Option ((Int32 ⊕ Nat) × (Unit)) := ((p_X12_needOwner gg gvn x1).bind fun v1 => xb v1.1 (fun _r => (if x2 = (0 : Int32) then ((p_X9_goatsOf gvn x1).bind fun v4 => some (Sum.inl v4, ())) else (if x2 = (1 : Int32) then ((p_X9_hidesOf gvn x1).bind fun v7 => some (Sum.inl v7, ())) else (if x2 = (2 : Int32) then ((p_X9_hiddenBy gvn x1).bind fun v10 => some (Sum.inl v10, ())) else (if x2 = (3 : Int32) then ((p_X9_lentBy gvn x1).bind fun v13 => some (Sum.inl v13, ())) else (if x2 = (4 : Int32) then ((p_X9_borrowedBy gvn x1).bind fun v16 => some (Sum.inl v16, ())) else (if x2 = (5 : Int32) then ((p_X4_owedBy gdn x1 gvn.2.1).bind fun v19 => some (Sum.inl v19.toInt32, ())) else (if x2 = (6 : Int32) then ((p_X4_owedTo gdn x1 gvn.2.1).bind fun v22 => some (Sum.inl v22.toInt32, ())) else (if x2 = (7 : Int32) then ((p_X4_netOf gdn x1 gvn.2.1).bind fun v25 => some (Sum.inl v25.toInt32, ())) else (if x2 = (8 : Int32) then ((p_X4_netOf gdn x1 (gvn.2.1 + (1 : Int32))).bind fun v28 => ((p_X4_netOf gdn x1 gvn.2.1).bind fun v30 => some (Sum.inl ((v28 - v30).toInt32), ()))) else some (Sum.inr 1, ()))))))))))) (fun k => some (Sum.inr k, ())))
set_option maxHeartbeats 1000000 in
set_option maxRecDepth 100000 in
theorem c_X12_owner (l : Launch) (dC : Nat → ClassId) (dI : Nat → Nat → Nat) (cy : Nat → ClassId) (z : Nat → Nat) (hl9 : l.stackTraces = false) (a0 : Nat → Nat) (gg : Int32 × Int32 × Int32 × Int32 × Int32 × Int32) (gvn : Int32 × Int32 × (Nat → Int32) × (Nat → Int32) × (Nat → Int32) × (Nat → Int32) × (Nat → Int32)) (gdn : Int32 × Int32 × (Nat → Int32) × (Nat → Int32) × (Nat → Int32) × (Nat → Int32)) (x1 : Int32) (x2 : Int32) (sz : Nat) (R0 : (Int32 ⊕ Nat) × (Unit)) (h : p_X12_owner gg gvn gdn x1 x2 = some R0) : vx_Met l yX12_owner wsX12_owner rm_X12_owner (va_Pc [.ref (a0 0), .int x1, .int x2] (prS dC dI cy z (w_X12_owner cy a0 gg gvn gdn) sz)) (va_Qi (fun (r : Int32) (u : Unit) => Sum.inl r = R0.1 ∧ u = R0.2) (fun (_ : Unit) t => poC dC dI cy (w_X12_owner cy a0 gg gvn gdn) t) (va_A (w_X12_owner cy a0 gg gvn gdn) sz)) (vx_X (fun (u : Unit) => u = R0.2) (fun E (_ : Unit) t => exE E R0.1 ∧ poC dC dI cy (w_X12_owner cy a0 gg gvn gdn) t) (va_A (w_X12_owner cy a0 gg gvn gdn) sz)) 2 12 (va_A (w_X12_owner cy a0 gg gvn gdn) sz) := by
  refine vx_ofW (cc := cX12_owner) (maxL := 3) (ret := (some .int)) (by decide) rfl ?_
  intro p e s m aa below meth c s₁ B hml htab hv
  obtain ⟨haa, ⟨hsz, hP, hK, hD0⟩, hX⟩ := hv
  have hx := B.exec
  have hb := B.bytes
  have hr := B.returns
  have hts := atoms_spec (ws := wsX12_owner) B.pre
  have hown : s.vm.findClass RX12 = some m.cls := findClass_of_methodNamed B.named
  have hlocks := B.notSynchronized
  subst hsz
  have hD := hD0.self (sz := s.heap.size)
  obtain ⟨qq, hqq⟩ : ∃ qq, qq = (va_Qi (fun (r : Int32) (u : Unit) => Sum.inl r = R0.1 ∧ u = R0.2) (fun (_ : Unit) t => poC dC dI cy (w_X12_owner cy a0 gg gvn gdn) t) (va_A (w_X12_owner cy a0 gg gvn gdn) s.heap.size)) := ⟨_, rfl⟩
  obtain ⟨xx, hxx⟩ : ∃ xx, xx = (vx_X (fun (u : Unit) => u = R0.2) (fun E (_ : Unit) t => exE E R0.1 ∧ poC dC dI cy (w_X12_owner cy a0 gg gvn gdn) t) (va_A (w_X12_owner cy a0 gg gvn gdn) s.heap.size)) := ⟨_, rfl⟩
  rw [← hqq, ← hxx]
  generalize hAe : va_A (w_X12_owner cy a0 gg gvn gdn) s.heap.size = A at hD hqq hxx hX ⊢
  have hA : ∀ q : Nat, s.heap.size ≤ q → A q := fun q h => by rw [← hAe]; exact Or.inr h
  have hS : va_S A s.heap s.heap [] := va_S.rf
  have hl := lv_entry ([.ref (a0 0), .int x1, .int x2]) (n := 3) (Nat.le_of_ble_eq_true rfl)
  have hE : entryFrame m aa 3 = F0 m 0 ((lg_sl ([.ref (a0 0), .int x1, .int x2]) ++ List.replicate (3 - (lg_sl ([.ref (a0 0), .int x1, .int x2])).length) Slot.unset).toArray) [] := by rw [haa]; exact lg_entry_eq m _ 3
  refine W.eq hE ?_
  generalize (lg_sl ([.ref (a0 0), .int x1, .int x2]) ++ List.replicate (3 - (lg_sl ([.ref (a0 0), .int x1, .int x2])).length) Slot.unset).toArray = ls at hl ⊢
  have hl : lv_has ls 3 [(0, .ref (a0 0)), (1, .int x1), (2, .int x2)] := hl
  change W p l e rm_X12_owner s m aa below meth c s.heap [] 0 0 (vx_MQ below qq xx aa s 2 12 A) (F0 m 0 ls [])
  have hS0 := hS
  have lk0 := hts (.fieldLink RX12 20 "GoatDoors" "now" "LGoatDoors$Village;") (by decide +kernel)
  have lk1 := hts (.fieldLink RX12 130 "GoatDoors$Village" "doors" "LGoatDoors$Doors;") (by decide +kernel)
  have lk2 := hts (.fieldLink RX12 142 "GoatDoors$Village" "base" "I") (by decide +kernel)
  have lk3 := hts (.classLink RX12 161 "java/util/NoSuchElementException") (by decide +kernel)
  have lk4 := hts (.initialized "java/util/NoSuchElementException") (by decide +kernel)
  have in_X12 : ∀ w ∈ wsX120, w ∈ wsX12_owner := by decide +kernel
  have in_X9 : ∀ w ∈ wsX90, w ∈ wsX12_owner := by decide +kernel
  have gd165 : ∀ w ∈ (vx_atS RX12 165 "java/util/NoSuchElementException" ["java/lang/RuntimeException", "java/lang/Exception"]).filter goodWord, w.before aa s = true := fun w hw => hts w ((show ∀ w ∈ (vx_atS RX12 165 "java/util/NoSuchElementException" ["java/lang/RuntimeException", "java/lang/Exception"]).filter goodWord, w ∈ wsX12_owner by decide +kernel) w hw)
  obtain ⟨H, hH⟩ : ∃ H : Heap, H = s.heap := ⟨_, rfl⟩
  obtain ⟨locs, hlocs⟩ : ∃ locs : List Loc, locs = [] := ⟨_, rfl⟩
  have hS : va_S A s.heap H locs := by rw [hH, hlocs]; exact hS
  rw [← hH] at hP
  suffices hg : W p l e rm_X12_owner s m aa below meth c H locs 0 0 (vx_MQ below qq xx aa s 2 12 A) (F0 m 0 ls []) by subst hH; subst hlocs; exact hg
  unfold p_X12_owner at h
  refine lv_aload_n hx hb dX12_owner_0 rfl (lv_at hl 0 rfl) ?_
  refine lv_iload_n hx hb dX12_owner_1 rfl (lv_at hl 1 rfl) ?_
  obtain ⟨v1, hv2, h⟩ := ok_bind h
  refine cx_vv (w2 := fun (_ : Unit) => w_X12_owner cy a0 gg gvn gdn) (w2x := fun (_ : Unit) => w_X12_owner cy a0 gg gvn gdn) (As := [.int x1]) (rest := []) ⟨hx, hb, hml, hown, hts⟩ (c_X12_needOwner l dC dI cy z hl9 a0 gg gvn x1 H.size v1 hv2) (cwV 1 hts gX12_owner_X12_needOwner rfl rfl rfl (by decide +kernel) ⟨Nat.le_of_ble_eq_true rfl, Nat.le_of_ble_eq_true rfl⟩) (va_recv hK hP (ci := 10) (q0 := 0) rfl rfl) cl_blindS (cl_preS hK hP hD hS hA hX [0, 1, 7, 8, 9, 10, 11] (by decide) rfl) hP hD hS hA [0, 1, 7, 8, 9, 10, 11] rfl rfl hl.1 rfl (lv_room (Nat.le_of_ble_eq_true rfl)) dX12_owner_2 ⟨Nat.le_of_ble_eq_true rfl, Nat.le_of_ble_eq_true rfl⟩ (cells' := 1) (slots' := 6) ⟨rfl, rfl⟩ (fun _ => updR [0, 1, 7, 8, 9, 10, 11] rfl) (fun _ => updR [0, 1, 7, 8, 9, 10, 11] rfl) (fun E ce q9 u H locs hw hE hP hD hS hc1 hc2 hc3 => ?_) (fun u H locs hw hP hD hS => ?_)
  · subst hw
    have hP : va_P (dC, dI) vwCl (w_X12_owner cy a0 gg gvn gdn) H := hP
    obtain ⟨hE1, hE2⟩ := exE_pass hE h
    exact vx_out (fun x9 hx9 => (htab x9 hx9).elim) hlocks hc1 hc2 hc3 (fun t h1 h2 => by rw [hxx]; exact ⟨_, hE2.symm, ⟨hE1, by rw [h1]; exact hP, va_K.moved h2 hK⟩, hS.F h1⟩) hS.2.2 (by decide) (by decide)
  obtain ⟨hw1, hw2⟩ := hw
  subst hw2
  rw [← hw1] at h
  dsimp only [xb] at h
  have hP : va_P (dC, dI) vwCl (w_X12_owner cy a0 gg gvn gdn) H := hP
  have hD : va_D A (w_X12_owner cy a0 gg gvn gdn) := hD
  refine lv_iload_n hx hb dX12_owner_5 rfl (lv_at hl 2 rfl) ?_
  by_cases c3 : x2 = (0 : Int32)
  · rw [if_pos c3] at h
    refine lv_tableIn (off := 50) (tgt := 56) hx hb dX12_owner_6 (by rw [c3]; decide) (by rw [c3]; decide) (by rw [c3]; decide) (by decide) ?_
    refine lv_aload_n hx hb dX12_owner_56 rfl (lv_at hl 0 rfl) ?_
    refine va_get (D := (dC, dI)) (ci := 10) (v := .ref (a0 2)) (C := RX12) (T := TX12) (N := 17) hx hb hts in_X12 hown hK hP 0 rfl rfl 6 (by decide) lk0 (fun _ h9 => h9) rfl dX12_owner_57 ?_
    refine lv_iload_n hx hb dX12_owner_60 rfl (lv_at hl 1 rfl) ?_
    obtain ⟨v4, hv5, h⟩ := ok_bind h
    refine cl_vi (w2 := fun (_ : Unit) => w_X12_owner cy a0 gg gvn gdn) (As := [.int x1]) (rest := []) ⟨hx, hb, hml, hown, hts⟩ (c_X9_goatsOf l dC dI cy (fun k => a0 (k + 2)) gvn x1 H.size v4 hv5) (cwV 1 hts gX12_owner_X9_goatsOf rfl rfl rfl (by decide +kernel) ⟨Nat.le_of_ble_eq_true rfl, Nat.le_of_ble_eq_true rfl⟩) (va_recv hK hP (ci := 7) (q0 := 1) rfl rfl) cl_blind (cl_pre hK hP hD [1, 7, 8, 9, 10, 11] (by decide) rfl) hP hD hS hA [1, 7, 8, 9, 10, 11] rfl rfl hl.1 rfl (lv_room (Nat.le_of_ble_eq_true rfl)) dX12_owner_61 ⟨Nat.le_of_ble_eq_true rfl, Nat.le_of_ble_eq_true rfl⟩ ⟨rfl, rfl⟩ (fun _ => updR [1, 7, 8, 9, 10, 11] rfl) (fun r u H locs hw hP hD hS => ?_)
    have hw := hw.symm
    subst hw
    have hP : va_P (dC, dI) vwCl (w_X12_owner cy a0 gg gvn gdn) H := hP
    have hD : va_D A (w_X12_owner cy a0 gg gvn gdn) := hD
    refine vx_ret ?_
    refine W.widen (k := 2) (n := 12) (by decide) (by decide) ?_
    exact W.iret (v := v4) hx hb hr (fun t ht hW => by rw [hqq]; have hh := Option.some.inj h; exact ⟨⟨v4, (()), rfl, ⟨fst_of hh, snd_of hh⟩, by rw [ht]; exact hP, va_K.moved hW.alike hK⟩, hS.F ht⟩) hS.2.2 dX12_owner_64
  rw [if_neg c3] at h
  by_cases c6 : x2 = (1 : Int32)
  · rw [if_pos c6] at h
    refine lv_tableIn (off := 59) (tgt := 65) hx hb dX12_owner_6 (by rw [c6]; decide) (by rw [c6]; decide) (by rw [c6]; decide) (by decide) ?_
    refine lv_aload_n hx hb dX12_owner_65 rfl (lv_at hl 0 rfl) ?_
    refine va_get (D := (dC, dI)) (ci := 10) (v := .ref (a0 2)) (C := RX12) (T := TX12) (N := 17) hx hb hts in_X12 hown hK hP 0 rfl rfl 6 (by decide) lk0 (fun _ h9 => h9) rfl dX12_owner_66 ?_
    refine lv_iload_n hx hb dX12_owner_69 rfl (lv_at hl 1 rfl) ?_
    obtain ⟨v7, hv8, h⟩ := ok_bind h
    refine cl_vi (w2 := fun (_ : Unit) => w_X12_owner cy a0 gg gvn gdn) (As := [.int x1]) (rest := []) ⟨hx, hb, hml, hown, hts⟩ (c_X9_hidesOf l dC dI cy (fun k => a0 (k + 2)) gvn x1 H.size v7 hv8) (cwV 1 hts gX12_owner_X9_hidesOf rfl rfl rfl (by decide +kernel) ⟨Nat.le_of_ble_eq_true rfl, Nat.le_of_ble_eq_true rfl⟩) (va_recv hK hP (ci := 7) (q0 := 1) rfl rfl) cl_blind (cl_pre hK hP hD [1, 7, 8, 9, 10, 11] (by decide) rfl) hP hD hS hA [1, 7, 8, 9, 10, 11] rfl rfl hl.1 rfl (lv_room (Nat.le_of_ble_eq_true rfl)) dX12_owner_70 ⟨Nat.le_of_ble_eq_true rfl, Nat.le_of_ble_eq_true rfl⟩ ⟨rfl, rfl⟩ (fun _ => updR [1, 7, 8, 9, 10, 11] rfl) (fun r u H locs hw hP hD hS => ?_)
    have hw := hw.symm
    subst hw
    have hP : va_P (dC, dI) vwCl (w_X12_owner cy a0 gg gvn gdn) H := hP
    have hD : va_D A (w_X12_owner cy a0 gg gvn gdn) := hD
    refine vx_ret ?_
    refine W.widen (k := 2) (n := 12) (by decide) (by decide) ?_
    exact W.iret (v := v7) hx hb hr (fun t ht hW => by rw [hqq]; have hh := Option.some.inj h; exact ⟨⟨v7, (()), rfl, ⟨fst_of hh, snd_of hh⟩, by rw [ht]; exact hP, va_K.moved hW.alike hK⟩, hS.F ht⟩) hS.2.2 dX12_owner_73
  rw [if_neg c6] at h
  by_cases c9 : x2 = (2 : Int32)
  · rw [if_pos c9] at h
    refine lv_tableIn (off := 68) (tgt := 74) hx hb dX12_owner_6 (by rw [c9]; decide) (by rw [c9]; decide) (by rw [c9]; decide) (by decide) ?_
    refine lv_aload_n hx hb dX12_owner_74 rfl (lv_at hl 0 rfl) ?_
    refine va_get (D := (dC, dI)) (ci := 10) (v := .ref (a0 2)) (C := RX12) (T := TX12) (N := 17) hx hb hts in_X12 hown hK hP 0 rfl rfl 6 (by decide) lk0 (fun _ h9 => h9) rfl dX12_owner_75 ?_
    refine lv_iload_n hx hb dX12_owner_78 rfl (lv_at hl 1 rfl) ?_
    obtain ⟨v10, hv11, h⟩ := ok_bind h
    refine cl_vi (w2 := fun (_ : Unit) => w_X12_owner cy a0 gg gvn gdn) (As := [.int x1]) (rest := []) ⟨hx, hb, hml, hown, hts⟩ (c_X9_hiddenBy l dC dI cy (fun k => a0 (k + 2)) gvn x1 H.size v10 hv11) (cwV 1 hts gX12_owner_X9_hiddenBy rfl rfl rfl (by decide +kernel) ⟨Nat.le_of_ble_eq_true rfl, Nat.le_of_ble_eq_true rfl⟩) (va_recv hK hP (ci := 7) (q0 := 1) rfl rfl) cl_blind (cl_pre hK hP hD [1, 7, 8, 9, 10, 11] (by decide) rfl) hP hD hS hA [1, 7, 8, 9, 10, 11] rfl rfl hl.1 rfl (lv_room (Nat.le_of_ble_eq_true rfl)) dX12_owner_79 ⟨Nat.le_of_ble_eq_true rfl, Nat.le_of_ble_eq_true rfl⟩ ⟨rfl, rfl⟩ (fun _ => updR [1, 7, 8, 9, 10, 11] rfl) (fun r u H locs hw hP hD hS => ?_)
    have hw := hw.symm
    subst hw
    have hP : va_P (dC, dI) vwCl (w_X12_owner cy a0 gg gvn gdn) H := hP
    have hD : va_D A (w_X12_owner cy a0 gg gvn gdn) := hD
    refine vx_ret ?_
    refine W.widen (k := 2) (n := 12) (by decide) (by decide) ?_
    exact W.iret (v := v10) hx hb hr (fun t ht hW => by rw [hqq]; have hh := Option.some.inj h; exact ⟨⟨v10, (()), rfl, ⟨fst_of hh, snd_of hh⟩, by rw [ht]; exact hP, va_K.moved hW.alike hK⟩, hS.F ht⟩) hS.2.2 dX12_owner_82
  rw [if_neg c9] at h
  by_cases c12 : x2 = (3 : Int32)
  · rw [if_pos c12] at h
    refine lv_tableIn (off := 77) (tgt := 83) hx hb dX12_owner_6 (by rw [c12]; decide) (by rw [c12]; decide) (by rw [c12]; decide) (by decide) ?_
    refine lv_aload_n hx hb dX12_owner_83 rfl (lv_at hl 0 rfl) ?_
    refine va_get (D := (dC, dI)) (ci := 10) (v := .ref (a0 2)) (C := RX12) (T := TX12) (N := 17) hx hb hts in_X12 hown hK hP 0 rfl rfl 6 (by decide) lk0 (fun _ h9 => h9) rfl dX12_owner_84 ?_
    refine lv_iload_n hx hb dX12_owner_87 rfl (lv_at hl 1 rfl) ?_
    obtain ⟨v13, hv14, h⟩ := ok_bind h
    refine cl_vi (w2 := fun (_ : Unit) => w_X12_owner cy a0 gg gvn gdn) (As := [.int x1]) (rest := []) ⟨hx, hb, hml, hown, hts⟩ (c_X9_lentBy l dC dI cy (fun k => a0 (k + 2)) gvn x1 H.size v13 hv14) (cwV 1 hts gX12_owner_X9_lentBy rfl rfl rfl (by decide +kernel) ⟨Nat.le_of_ble_eq_true rfl, Nat.le_of_ble_eq_true rfl⟩) (va_recv hK hP (ci := 7) (q0 := 1) rfl rfl) cl_blind (cl_pre hK hP hD [1, 7, 8, 9, 10, 11] (by decide) rfl) hP hD hS hA [1, 7, 8, 9, 10, 11] rfl rfl hl.1 rfl (lv_room (Nat.le_of_ble_eq_true rfl)) dX12_owner_88 ⟨Nat.le_of_ble_eq_true rfl, Nat.le_of_ble_eq_true rfl⟩ ⟨rfl, rfl⟩ (fun _ => updR [1, 7, 8, 9, 10, 11] rfl) (fun r u H locs hw hP hD hS => ?_)
    have hw := hw.symm
    subst hw
    have hP : va_P (dC, dI) vwCl (w_X12_owner cy a0 gg gvn gdn) H := hP
    have hD : va_D A (w_X12_owner cy a0 gg gvn gdn) := hD
    refine vx_ret ?_
    refine W.widen (k := 2) (n := 12) (by decide) (by decide) ?_
    exact W.iret (v := v13) hx hb hr (fun t ht hW => by rw [hqq]; have hh := Option.some.inj h; exact ⟨⟨v13, (()), rfl, ⟨fst_of hh, snd_of hh⟩, by rw [ht]; exact hP, va_K.moved hW.alike hK⟩, hS.F ht⟩) hS.2.2 dX12_owner_91
  rw [if_neg c12] at h
  by_cases c15 : x2 = (4 : Int32)
  · rw [if_pos c15] at h
    refine lv_tableIn (off := 86) (tgt := 92) hx hb dX12_owner_6 (by rw [c15]; decide) (by rw [c15]; decide) (by rw [c15]; decide) (by decide) ?_
    refine lv_aload_n hx hb dX12_owner_92 rfl (lv_at hl 0 rfl) ?_
    refine va_get (D := (dC, dI)) (ci := 10) (v := .ref (a0 2)) (C := RX12) (T := TX12) (N := 17) hx hb hts in_X12 hown hK hP 0 rfl rfl 6 (by decide) lk0 (fun _ h9 => h9) rfl dX12_owner_93 ?_
    refine lv_iload_n hx hb dX12_owner_96 rfl (lv_at hl 1 rfl) ?_
    obtain ⟨v16, hv17, h⟩ := ok_bind h
    refine cl_vi (w2 := fun (_ : Unit) => w_X12_owner cy a0 gg gvn gdn) (As := [.int x1]) (rest := []) ⟨hx, hb, hml, hown, hts⟩ (c_X9_borrowedBy l dC dI cy (fun k => a0 (k + 2)) gvn x1 H.size v16 hv17) (cwV 1 hts gX12_owner_X9_borrowedBy rfl rfl rfl (by decide +kernel) ⟨Nat.le_of_ble_eq_true rfl, Nat.le_of_ble_eq_true rfl⟩) (va_recv hK hP (ci := 7) (q0 := 1) rfl rfl) cl_blind (cl_pre hK hP hD [1, 7, 8, 9, 10, 11] (by decide) rfl) hP hD hS hA [1, 7, 8, 9, 10, 11] rfl rfl hl.1 rfl (lv_room (Nat.le_of_ble_eq_true rfl)) dX12_owner_97 ⟨Nat.le_of_ble_eq_true rfl, Nat.le_of_ble_eq_true rfl⟩ ⟨rfl, rfl⟩ (fun _ => updR [1, 7, 8, 9, 10, 11] rfl) (fun r u H locs hw hP hD hS => ?_)
    have hw := hw.symm
    subst hw
    have hP : va_P (dC, dI) vwCl (w_X12_owner cy a0 gg gvn gdn) H := hP
    have hD : va_D A (w_X12_owner cy a0 gg gvn gdn) := hD
    refine vx_ret ?_
    refine W.widen (k := 2) (n := 12) (by decide) (by decide) ?_
    exact W.iret (v := v16) hx hb hr (fun t ht hW => by rw [hqq]; have hh := Option.some.inj h; exact ⟨⟨v16, (()), rfl, ⟨fst_of hh, snd_of hh⟩, by rw [ht]; exact hP, va_K.moved hW.alike hK⟩, hS.F ht⟩) hS.2.2 dX12_owner_100
  rw [if_neg c15] at h
  by_cases c18 : x2 = (5 : Int32)
  · rw [if_pos c18] at h
    refine lv_tableIn (off := 95) (tgt := 101) hx hb dX12_owner_6 (by rw [c18]; decide) (by rw [c18]; decide) (by rw [c18]; decide) (by decide) ?_
    refine lv_aload_n hx hb dX12_owner_101 rfl (lv_at hl 0 rfl) ?_
    refine va_get (D := (dC, dI)) (ci := 10) (v := .ref (a0 2)) (C := RX12) (T := TX12) (N := 17) hx hb hts in_X12 hown hK hP 0 rfl rfl 6 (by decide) lk0 (fun _ h9 => h9) rfl dX12_owner_102 ?_
    refine va_get (D := (dC, dI)) (ci := 7) (v := .ref (a0 3)) (C := RX9) (T := TX9) (N := 9) hx hb hts in_X9 hown hK hP 1 rfl rfl 2 (by decide) lk1 (fun _ h9 => h9) rfl dX12_owner_105 ?_
    refine lv_iload_n hx hb dX12_owner_108 rfl (lv_at hl 1 rfl) ?_
    refine lv_aload_n hx hb dX12_owner_109 rfl (lv_at hl 0 rfl) ?_
    refine va_get (D := (dC, dI)) (ci := 10) (v := .ref (a0 2)) (C := RX12) (T := TX12) (N := 17) hx hb hts in_X12 hown hK hP 0 rfl rfl 6 (by decide) lk0 (fun _ h9 => h9) rfl dX12_owner_110 ?_
    refine va_get (D := (dC, dI)) (ci := 7) (v := .int gvn.2.1) (C := RX9) (T := TX9) (N := 9) hx hb hts in_X9 hown hK hP 1 rfl rfl 1 (by decide) lk2 (fun _ h9 => h9) rfl dX12_owner_113 ?_
    obtain ⟨v19, hv20, h⟩ := ok_bind h
    refine cl_vl (w2 := fun (_ : Unit) => w_X12_owner cy a0 gg gvn gdn) (As := [.int x1, .int gvn.2.1]) (rest := []) ⟨hx, hb, hml, hown, hts⟩ (c_X4_owedBy l dC dI cy (fun k => a0 (k + 3)) gdn x1 gvn.2.1 H.size v19 hv20) (cwV 2 hts gX12_owner_X4_owedBy rfl rfl rfl (by decide +kernel) ⟨Nat.le_of_ble_eq_true rfl, Nat.le_of_ble_eq_true rfl⟩) (va_recv hK hP (ci := 2) (q0 := 2) rfl rfl) cl_blind (cl_pre hK hP hD [2, 3, 4, 5, 6] (by decide) rfl) hP hD hS hA [2, 3, 4, 5, 6] rfl rfl hl.1 rfl (lv_room (Nat.le_of_ble_eq_true rfl)) dX12_owner_116 ⟨Nat.le_of_ble_eq_true rfl, Nat.le_of_ble_eq_true rfl⟩ ⟨rfl, rfl⟩ (fun _ => updR [2, 3, 4, 5, 6] rfl) (fun r u H locs hw hP hD hS => ?_)
    have hw := hw.symm
    subst hw
    have hP : va_P (dC, dI) vwCl (w_X12_owner cy a0 gg gvn gdn) H := hP
    have hD : va_D A (w_X12_owner cy a0 gg gvn gdn) := hD
    refine lv_l2i hx hb dX12_owner_119 rfl ?_
    refine vx_ret ?_
    refine W.widen (k := 2) (n := 12) (by decide) (by decide) ?_
    exact W.iret (v := v19.toInt32) hx hb hr (fun t ht hW => by rw [hqq]; have hh := Option.some.inj h; exact ⟨⟨v19.toInt32, (()), rfl, ⟨fst_of hh, snd_of hh⟩, by rw [ht]; exact hP, va_K.moved hW.alike hK⟩, hS.F ht⟩) hS.2.2 dX12_owner_120
  rw [if_neg c18] at h
  by_cases c21 : x2 = (6 : Int32)
  · rw [if_pos c21] at h
    refine lv_tableIn (off := 115) (tgt := 121) hx hb dX12_owner_6 (by rw [c21]; decide) (by rw [c21]; decide) (by rw [c21]; decide) (by decide) ?_
    refine lv_aload_n hx hb dX12_owner_121 rfl (lv_at hl 0 rfl) ?_
    refine va_get (D := (dC, dI)) (ci := 10) (v := .ref (a0 2)) (C := RX12) (T := TX12) (N := 17) hx hb hts in_X12 hown hK hP 0 rfl rfl 6 (by decide) lk0 (fun _ h9 => h9) rfl dX12_owner_122 ?_
    refine va_get (D := (dC, dI)) (ci := 7) (v := .ref (a0 3)) (C := RX9) (T := TX9) (N := 9) hx hb hts in_X9 hown hK hP 1 rfl rfl 2 (by decide) lk1 (fun _ h9 => h9) rfl dX12_owner_125 ?_
    refine lv_iload_n hx hb dX12_owner_128 rfl (lv_at hl 1 rfl) ?_
    refine lv_aload_n hx hb dX12_owner_129 rfl (lv_at hl 0 rfl) ?_
    refine va_get (D := (dC, dI)) (ci := 10) (v := .ref (a0 2)) (C := RX12) (T := TX12) (N := 17) hx hb hts in_X12 hown hK hP 0 rfl rfl 6 (by decide) lk0 (fun _ h9 => h9) rfl dX12_owner_130 ?_
    refine va_get (D := (dC, dI)) (ci := 7) (v := .int gvn.2.1) (C := RX9) (T := TX9) (N := 9) hx hb hts in_X9 hown hK hP 1 rfl rfl 1 (by decide) lk2 (fun _ h9 => h9) rfl dX12_owner_133 ?_
    obtain ⟨v22, hv23, h⟩ := ok_bind h
    refine cl_vl (w2 := fun (_ : Unit) => w_X12_owner cy a0 gg gvn gdn) (As := [.int x1, .int gvn.2.1]) (rest := []) ⟨hx, hb, hml, hown, hts⟩ (c_X4_owedTo l dC dI cy (fun k => a0 (k + 3)) gdn x1 gvn.2.1 H.size v22 hv23) (cwV 2 hts gX12_owner_X4_owedTo rfl rfl rfl (by decide +kernel) ⟨Nat.le_of_ble_eq_true rfl, Nat.le_of_ble_eq_true rfl⟩) (va_recv hK hP (ci := 2) (q0 := 2) rfl rfl) cl_blind (cl_pre hK hP hD [2, 3, 4, 5, 6] (by decide) rfl) hP hD hS hA [2, 3, 4, 5, 6] rfl rfl hl.1 rfl (lv_room (Nat.le_of_ble_eq_true rfl)) dX12_owner_136 ⟨Nat.le_of_ble_eq_true rfl, Nat.le_of_ble_eq_true rfl⟩ ⟨rfl, rfl⟩ (fun _ => updR [2, 3, 4, 5, 6] rfl) (fun r u H locs hw hP hD hS => ?_)
    have hw := hw.symm
    subst hw
    have hP : va_P (dC, dI) vwCl (w_X12_owner cy a0 gg gvn gdn) H := hP
    have hD : va_D A (w_X12_owner cy a0 gg gvn gdn) := hD
    refine lv_l2i hx hb dX12_owner_139 rfl ?_
    refine vx_ret ?_
    refine W.widen (k := 2) (n := 12) (by decide) (by decide) ?_
    exact W.iret (v := v22.toInt32) hx hb hr (fun t ht hW => by rw [hqq]; have hh := Option.some.inj h; exact ⟨⟨v22.toInt32, (()), rfl, ⟨fst_of hh, snd_of hh⟩, by rw [ht]; exact hP, va_K.moved hW.alike hK⟩, hS.F ht⟩) hS.2.2 dX12_owner_140
  rw [if_neg c21] at h
  by_cases c24 : x2 = (7 : Int32)
  · rw [if_pos c24] at h
    refine lv_tableIn (off := 135) (tgt := 141) hx hb dX12_owner_6 (by rw [c24]; decide) (by rw [c24]; decide) (by rw [c24]; decide) (by decide) ?_
    refine lv_aload_n hx hb dX12_owner_141 rfl (lv_at hl 0 rfl) ?_
    refine va_get (D := (dC, dI)) (ci := 10) (v := .ref (a0 2)) (C := RX12) (T := TX12) (N := 17) hx hb hts in_X12 hown hK hP 0 rfl rfl 6 (by decide) lk0 (fun _ h9 => h9) rfl dX12_owner_142 ?_
    refine va_get (D := (dC, dI)) (ci := 7) (v := .ref (a0 3)) (C := RX9) (T := TX9) (N := 9) hx hb hts in_X9 hown hK hP 1 rfl rfl 2 (by decide) lk1 (fun _ h9 => h9) rfl dX12_owner_145 ?_
    refine lv_iload_n hx hb dX12_owner_148 rfl (lv_at hl 1 rfl) ?_
    refine lv_aload_n hx hb dX12_owner_149 rfl (lv_at hl 0 rfl) ?_
    refine va_get (D := (dC, dI)) (ci := 10) (v := .ref (a0 2)) (C := RX12) (T := TX12) (N := 17) hx hb hts in_X12 hown hK hP 0 rfl rfl 6 (by decide) lk0 (fun _ h9 => h9) rfl dX12_owner_150 ?_
    refine va_get (D := (dC, dI)) (ci := 7) (v := .int gvn.2.1) (C := RX9) (T := TX9) (N := 9) hx hb hts in_X9 hown hK hP 1 rfl rfl 1 (by decide) lk2 (fun _ h9 => h9) rfl dX12_owner_153 ?_
    obtain ⟨v25, hv26, h⟩ := ok_bind h
    refine cl_vl (w2 := fun (_ : Unit) => w_X12_owner cy a0 gg gvn gdn) (As := [.int x1, .int gvn.2.1]) (rest := []) ⟨hx, hb, hml, hown, hts⟩ (c_X4_netOf l dC dI cy (fun k => a0 (k + 3)) gdn x1 gvn.2.1 H.size v25 hv26) (cwV 2 hts gX12_owner_X4_netOf rfl rfl rfl (by decide +kernel) ⟨Nat.le_of_ble_eq_true rfl, Nat.le_of_ble_eq_true rfl⟩) (va_recv hK hP (ci := 2) (q0 := 2) rfl rfl) cl_blind (cl_pre hK hP hD [2, 3, 4, 5, 6] (by decide) rfl) hP hD hS hA [2, 3, 4, 5, 6] rfl rfl hl.1 rfl (lv_room (Nat.le_of_ble_eq_true rfl)) dX12_owner_156 ⟨Nat.le_of_ble_eq_true rfl, Nat.le_of_ble_eq_true rfl⟩ ⟨rfl, rfl⟩ (fun _ => updR [2, 3, 4, 5, 6] rfl) (fun r u H locs hw hP hD hS => ?_)
    have hw := hw.symm
    subst hw
    have hP : va_P (dC, dI) vwCl (w_X12_owner cy a0 gg gvn gdn) H := hP
    have hD : va_D A (w_X12_owner cy a0 gg gvn gdn) := hD
    refine lv_l2i hx hb dX12_owner_159 rfl ?_
    refine vx_ret ?_
    refine W.widen (k := 2) (n := 12) (by decide) (by decide) ?_
    exact W.iret (v := v25.toInt32) hx hb hr (fun t ht hW => by rw [hqq]; have hh := Option.some.inj h; exact ⟨⟨v25.toInt32, (()), rfl, ⟨fst_of hh, snd_of hh⟩, by rw [ht]; exact hP, va_K.moved hW.alike hK⟩, hS.F ht⟩) hS.2.2 dX12_owner_160
  rw [if_neg c24] at h
  by_cases c27 : x2 = (8 : Int32)
  · rw [if_pos c27] at h
    refine lv_tableIn (off := 155) (tgt := 161) hx hb dX12_owner_6 (by rw [c27]; decide) (by rw [c27]; decide) (by rw [c27]; decide) (by decide) ?_
    refine lv_aload_n hx hb dX12_owner_161 rfl (lv_at hl 0 rfl) ?_
    refine va_get (D := (dC, dI)) (ci := 10) (v := .ref (a0 2)) (C := RX12) (T := TX12) (N := 17) hx hb hts in_X12 hown hK hP 0 rfl rfl 6 (by decide) lk0 (fun _ h9 => h9) rfl dX12_owner_162 ?_
    refine va_get (D := (dC, dI)) (ci := 7) (v := .ref (a0 3)) (C := RX9) (T := TX9) (N := 9) hx hb hts in_X9 hown hK hP 1 rfl rfl 2 (by decide) lk1 (fun _ h9 => h9) rfl dX12_owner_165 ?_
    refine lv_iload_n hx hb dX12_owner_168 rfl (lv_at hl 1 rfl) ?_
    refine lv_aload_n hx hb dX12_owner_169 rfl (lv_at hl 0 rfl) ?_
    refine va_get (D := (dC, dI)) (ci := 10) (v := .ref (a0 2)) (C := RX12) (T := TX12) (N := 17) hx hb hts in_X12 hown hK hP 0 rfl rfl 6 (by decide) lk0 (fun _ h9 => h9) rfl dX12_owner_170 ?_
    refine va_get (D := (dC, dI)) (ci := 7) (v := .int gvn.2.1) (C := RX9) (T := TX9) (N := 9) hx hb hts in_X9 hown hK hP 1 rfl rfl 1 (by decide) lk2 (fun _ h9 => h9) rfl dX12_owner_173 ?_
    refine lv_iconst (v := (1 : Int32)) hx hb dX12_owner_176 (by decide) ?_
    refine lv_iadd hx hb dX12_owner_177 ?_
    obtain ⟨v28, hv29, h⟩ := ok_bind h
    refine cl_vl (w2 := fun (_ : Unit) => w_X12_owner cy a0 gg gvn gdn) (As := [.int x1, .int (gvn.2.1 + (1 : Int32))]) (rest := []) ⟨hx, hb, hml, hown, hts⟩ (c_X4_netOf l dC dI cy (fun k => a0 (k + 3)) gdn x1 (gvn.2.1 + (1 : Int32)) H.size v28 hv29) (cwV 2 hts gX12_owner_X4_netOf rfl rfl rfl (by decide +kernel) ⟨Nat.le_of_ble_eq_true rfl, Nat.le_of_ble_eq_true rfl⟩) (va_recv hK hP (ci := 2) (q0 := 2) rfl rfl) cl_blind (cl_pre hK hP hD [2, 3, 4, 5, 6] (by decide) rfl) hP hD hS hA [2, 3, 4, 5, 6] rfl rfl hl.1 rfl (lv_room (Nat.le_of_ble_eq_true rfl)) dX12_owner_178 ⟨Nat.le_of_ble_eq_true rfl, Nat.le_of_ble_eq_true rfl⟩ ⟨rfl, rfl⟩ (fun _ => updR [2, 3, 4, 5, 6] rfl) (fun r u H locs hw hP hD hS => ?_)
    have hw := hw.symm
    subst hw
    have hP : va_P (dC, dI) vwCl (w_X12_owner cy a0 gg gvn gdn) H := hP
    have hD : va_D A (w_X12_owner cy a0 gg gvn gdn) := hD
    refine lv_aload_n hx hb dX12_owner_181 rfl (lv_at hl 0 rfl) ?_
    refine va_get (D := (dC, dI)) (ci := 10) (v := .ref (a0 2)) (C := RX12) (T := TX12) (N := 17) hx hb hts in_X12 hown hK hP 0 rfl rfl 6 (by decide) lk0 (fun _ h9 => h9) rfl dX12_owner_182 ?_
    refine va_get (D := (dC, dI)) (ci := 7) (v := .ref (a0 3)) (C := RX9) (T := TX9) (N := 9) hx hb hts in_X9 hown hK hP 1 rfl rfl 2 (by decide) lk1 (fun _ h9 => h9) rfl dX12_owner_185 ?_
    refine lv_iload_n hx hb dX12_owner_188 rfl (lv_at hl 1 rfl) ?_
    refine lv_aload_n hx hb dX12_owner_189 rfl (lv_at hl 0 rfl) ?_
    refine va_get (D := (dC, dI)) (ci := 10) (v := .ref (a0 2)) (C := RX12) (T := TX12) (N := 17) hx hb hts in_X12 hown hK hP 0 rfl rfl 6 (by decide) lk0 (fun _ h9 => h9) rfl dX12_owner_190 ?_
    refine va_get (D := (dC, dI)) (ci := 7) (v := .int gvn.2.1) (C := RX9) (T := TX9) (N := 9) hx hb hts in_X9 hown hK hP 1 rfl rfl 1 (by decide) lk2 (fun _ h9 => h9) rfl dX12_owner_193 ?_
    obtain ⟨v30, hv31, h⟩ := ok_bind h
    refine cl_vl (w2 := fun (_ : Unit) => w_X12_owner cy a0 gg gvn gdn) (As := [.int x1, .int gvn.2.1]) (rest := [.long v28]) ⟨hx, hb, hml, hown, hts⟩ (c_X4_netOf l dC dI cy (fun k => a0 (k + 3)) gdn x1 gvn.2.1 H.size v30 hv31) (cwV 2 hts gX12_owner_X4_netOf rfl rfl rfl (by decide +kernel) ⟨Nat.le_of_ble_eq_true rfl, Nat.le_of_ble_eq_true rfl⟩) (va_recv hK hP (ci := 2) (q0 := 2) rfl rfl) cl_blind (cl_pre hK hP hD [2, 3, 4, 5, 6] (by decide) rfl) hP hD hS hA [2, 3, 4, 5, 6] rfl rfl hl.1 rfl (lv_room (Nat.le_of_ble_eq_true rfl)) dX12_owner_196 ⟨Nat.le_of_ble_eq_true rfl, Nat.le_of_ble_eq_true rfl⟩ ⟨rfl, rfl⟩ (fun _ => updR [2, 3, 4, 5, 6] rfl) (fun r u H locs hw hP hD hS => ?_)
    have hw := hw.symm
    subst hw
    have hP : va_P (dC, dI) vwCl (w_X12_owner cy a0 gg gvn gdn) H := hP
    have hD : va_D A (w_X12_owner cy a0 gg gvn gdn) := hD
    refine lv_lsub hx hb dX12_owner_199 ?_
    refine lv_l2i hx hb dX12_owner_200 rfl ?_
    refine vx_ret ?_
    refine W.widen (k := 2) (n := 12) (by decide) (by decide) ?_
    exact W.iret (v := (v28 - v30).toInt32) hx hb hr (fun t ht hW => by rw [hqq]; have hh := Option.some.inj h; exact ⟨⟨((v28 - v30).toInt32), (()), rfl, ⟨fst_of hh, snd_of hh⟩, by rw [ht]; exact hP, va_K.moved hW.alike hK⟩, hS.F ht⟩) hS.2.2 dX12_owner_201
  rw [if_neg c27] at h
  refine lv_tableOut (tgt := 202) hx hb dX12_owner_6 (tab_out (fun k h1 h2 e => by rcases (show k = 0 ∨ k = 1 ∨ k = 2 ∨ k = 3 ∨ k = 4 ∨ k = 5 ∨ k = 6 ∨ k = 7 ∨ k = 8 by omega) with rfl | rfl | rfl | rfl | rfl | rfl | rfl | rfl | rfl; exacts [c3 (Int32.toInt_inj.mp (e.trans (by decide))), c6 (Int32.toInt_inj.mp (e.trans (by decide))), c9 (Int32.toInt_inj.mp (e.trans (by decide))), c12 (Int32.toInt_inj.mp (e.trans (by decide))), c15 (Int32.toInt_inj.mp (e.trans (by decide))), c18 (Int32.toInt_inj.mp (e.trans (by decide))), c21 (Int32.toInt_inj.mp (e.trans (by decide))), c24 (Int32.toInt_inj.mp (e.trans (by decide))), c27 (Int32.toInt_inj.mp (e.trans (by decide)))])) (by decide) ?_
  refine vx_throwS (XC := xx) (text := "nothing such is told of an owner") (names := ["java/lang/RuntimeException", "java/lang/Exception"]) hx hb hl9 hown (by decide) (by decide) lk3 lk4 (hX.tx 197 "nothing such is told of an owner" (by decide)) (ex_at165 gd165 hX) (by decide +kernel) hX.us hX.ss hS (by rw [hml]; exact hl.1) dX12_owner_202 dX12_owner_205 dX12_owner_206 dX12_owner_208 dX12_owner_211 (fun x9 hx9 => (htab x9 hx9).elim) (Nat.le_of_ble_eq_true rfl) (Nat.le_of_ble_eq_true rfl) (Nat.le_of_ble_eq_true rfl) (Nat.le_of_ble_eq_true rfl) hlocks (fun t h1 h2 h3 => by rw [hxx]; have hh := Option.some.inj h; exact ⟨(()), snd_of hh, ⟨exE_1 (fst_of hh).symm, ex_po hP hK h1 h3⟩, ex_F hS h2 h3⟩) hS.2.2 (by decide) (by decide)

abbrev w_X12_needDoor (cy : Nat → ClassId) (a0 : Nat → Nat) (gg : Int32 × Int32 × Int32 × Int32 × Int32 × Int32) (gvn : Int32 × Int32 × (Nat → Int32) × (Nat → Int32) × (Nat → Int32) × (Nat → Int32) × (Nat → Int32)) (gdn : Int32 × Int32 × (Nat → Int32) × (Nat → Int32) × (Nat → Int32) × (Nat → Int32)) : va_W := [(a0 0, .inr (10, [.ref (a0 1), .int (gg.1), .int (gg.2.1), .int (gg.2.2.1), .int (gg.2.2.2.1), .int (gg.2.2.2.2.1), .ref (a0 2), .ref (a0 17), .ref (a0 32), .int (gg.2.2.2.2.2), .ref (a0 47), .ref (a0 48), .ref (a0 49), .ref (a0 50), .ref (a0 68), .ref (a0 78), .ref (a0 80)])), (a0 2, .inr (7, [.int (gvn.1), .int (gvn.2.1), .ref (a0 3), .ref (a0 8), .ref (a0 12), .ref (a0 13), .ref (a0 14), .ref (a0 15), .ref (a0 16)])), (a0 3, .inr (2, [.int (gdn.1), .int (gdn.2.1), .ref (a0 4), .ref (a0 5), .ref (a0 6), .ref (a0 7)])), (a0 4, .inl (cy 1, 10, .inl (gdn.2.2.1))), (a0 5, .inl (cy 1, 10, .inl (gdn.2.2.2.1))), (a0 6, .inl (cy 1, 10, .inl (gdn.2.2.2.2.1))), (a0 7, .inl (cy 1, 50, .inl (gdn.2.2.2.2.2))), (a0 12, .inl (cy 1, 5, .inl (gvn.2.2.1))), (a0 13, .inl (cy 1, 5, .inl (gvn.2.2.2.1))), (a0 14, .inl (cy 1, 5, .inl (gvn.2.2.2.2.1))), (a0 15, .inl (cy 1, 5, .inl (gvn.2.2.2.2.2.1))), (a0 16, .inl (cy 1, 5, .inl (gvn.2.2.2.2.2.2)))]
abbrev rm_X12_needDoor : Room := { frames := 6, cells := 1, slots := 6, locals := 90 }
def p_X12_needDoor (gg : Int32 × Int32 × Int32 × Int32 × Int32 × Int32) (gvn : Int32 × Int32 × (Nat → Int32) × (Nat → Int32) × (Nat → Int32) × (Nat → Int32) × (Nat → Int32)) (gdn : Int32 × Int32 × (Nat → Int32) × (Nat → Int32) × (Nat → Int32) × (Nat → Int32)) (x1 : Int32) : Option ((Unit ⊕ Nat) × (Unit)) := ((p_X4_has gdn x1).bind fun v1 => (if v1 = (0 : Int32) then some (Sum.inr 1, ()) else some (Sum.inl (), ())))
set_option maxHeartbeats 1000000 in
set_option maxRecDepth 100000 in
theorem c_X12_needDoor (l : Launch) (dC : Nat → ClassId) (dI : Nat → Nat → Nat) (cy : Nat → ClassId) (z : Nat → Nat) (hl9 : l.stackTraces = false) (a0 : Nat → Nat) (gg : Int32 × Int32 × Int32 × Int32 × Int32 × Int32) (gvn : Int32 × Int32 × (Nat → Int32) × (Nat → Int32) × (Nat → Int32) × (Nat → Int32) × (Nat → Int32)) (gdn : Int32 × Int32 × (Nat → Int32) × (Nat → Int32) × (Nat → Int32) × (Nat → Int32)) (x1 : Int32) (sz : Nat) (R0 : (Unit ⊕ Nat) × (Unit)) (h : p_X12_needDoor gg gvn gdn x1 = some R0) : vx_Met l yX12_needDoor wsX12_needDoor rm_X12_needDoor (va_Pc [.ref (a0 0), .int x1] (prS dC dI cy z (w_X12_needDoor cy a0 gg gvn gdn) sz)) (va_Qv (fun (u : Unit) => Sum.inl () = R0.1 ∧ u = R0.2) (fun (_ : Unit) t => poC dC dI cy (w_X12_needDoor cy a0 gg gvn gdn) t) (va_A (w_X12_needDoor cy a0 gg gvn gdn) sz)) (vx_X (fun (u : Unit) => u = R0.2) (fun E (_ : Unit) t => exE E R0.1 ∧ poC dC dI cy (w_X12_needDoor cy a0 gg gvn gdn) t) (va_A (w_X12_needDoor cy a0 gg gvn gdn) sz)) 1 6 (va_A (w_X12_needDoor cy a0 gg gvn gdn) sz) := by
  refine vx_ofW (cc := cX12_needDoor) (maxL := 2) (ret := none) (by decide) rfl ?_
  intro p e s m aa below meth c s₁ B hml htab hv
  obtain ⟨haa, ⟨hsz, hP, hK, hD0⟩, hX⟩ := hv
  have hx := B.exec
  have hb := B.bytes
  have hr := B.returns
  have hts := atoms_spec (ws := wsX12_needDoor) B.pre
  have hown : s.vm.findClass RX12 = some m.cls := findClass_of_methodNamed B.named
  have hlocks := B.notSynchronized
  subst hsz
  have hD := hD0.self (sz := s.heap.size)
  obtain ⟨qq, hqq⟩ : ∃ qq, qq = (va_Qv (fun (u : Unit) => Sum.inl () = R0.1 ∧ u = R0.2) (fun (_ : Unit) t => poC dC dI cy (w_X12_needDoor cy a0 gg gvn gdn) t) (va_A (w_X12_needDoor cy a0 gg gvn gdn) s.heap.size)) := ⟨_, rfl⟩
  obtain ⟨xx, hxx⟩ : ∃ xx, xx = (vx_X (fun (u : Unit) => u = R0.2) (fun E (_ : Unit) t => exE E R0.1 ∧ poC dC dI cy (w_X12_needDoor cy a0 gg gvn gdn) t) (va_A (w_X12_needDoor cy a0 gg gvn gdn) s.heap.size)) := ⟨_, rfl⟩
  rw [← hqq, ← hxx]
  generalize hAe : va_A (w_X12_needDoor cy a0 gg gvn gdn) s.heap.size = A at hD hqq hxx hX ⊢
  have hA : ∀ q : Nat, s.heap.size ≤ q → A q := fun q h => by rw [← hAe]; exact Or.inr h
  have hS : va_S A s.heap s.heap [] := va_S.rf
  have hl := lv_entry ([.ref (a0 0), .int x1]) (n := 2) (Nat.le_of_ble_eq_true rfl)
  have hE : entryFrame m aa 2 = F0 m 0 ((lg_sl ([.ref (a0 0), .int x1]) ++ List.replicate (2 - (lg_sl ([.ref (a0 0), .int x1])).length) Slot.unset).toArray) [] := by rw [haa]; exact lg_entry_eq m _ 2
  refine W.eq hE ?_
  generalize (lg_sl ([.ref (a0 0), .int x1]) ++ List.replicate (2 - (lg_sl ([.ref (a0 0), .int x1])).length) Slot.unset).toArray = ls at hl ⊢
  have hl : lv_has ls 2 [(0, .ref (a0 0)), (1, .int x1)] := hl
  change W p l e rm_X12_needDoor s m aa below meth c s.heap [] 0 0 (vx_MQ below qq xx aa s 1 6 A) (F0 m 0 ls [])
  have hS0 := hS
  have lk0 := hts (.fieldLink RX12 20 "GoatDoors" "now" "LGoatDoors$Village;") (by decide +kernel)
  have lk1 := hts (.fieldLink RX12 130 "GoatDoors$Village" "doors" "LGoatDoors$Doors;") (by decide +kernel)
  have lk2 := hts (.classLink RX12 161 "java/util/NoSuchElementException") (by decide +kernel)
  have lk3 := hts (.initialized "java/util/NoSuchElementException") (by decide +kernel)
  have in_X12 : ∀ w ∈ wsX120, w ∈ wsX12_needDoor := by decide +kernel
  have in_X9 : ∀ w ∈ wsX90, w ∈ wsX12_needDoor := by decide +kernel
  have gd165 : ∀ w ∈ (vx_atS RX12 165 "java/util/NoSuchElementException" ["java/lang/RuntimeException", "java/lang/Exception"]).filter goodWord, w.before aa s = true := fun w hw => hts w ((show ∀ w ∈ (vx_atS RX12 165 "java/util/NoSuchElementException" ["java/lang/RuntimeException", "java/lang/Exception"]).filter goodWord, w ∈ wsX12_needDoor by decide +kernel) w hw)
  obtain ⟨H, hH⟩ : ∃ H : Heap, H = s.heap := ⟨_, rfl⟩
  obtain ⟨locs, hlocs⟩ : ∃ locs : List Loc, locs = [] := ⟨_, rfl⟩
  have hS : va_S A s.heap H locs := by rw [hH, hlocs]; exact hS
  rw [← hH] at hP
  suffices hg : W p l e rm_X12_needDoor s m aa below meth c H locs 0 0 (vx_MQ below qq xx aa s 1 6 A) (F0 m 0 ls []) by subst hH; subst hlocs; exact hg
  unfold p_X12_needDoor at h
  refine lv_aload_n hx hb dX12_needDoor_0 rfl (lv_at hl 0 rfl) ?_
  refine va_get (D := (dC, dI)) (ci := 10) (v := .ref (a0 2)) (C := RX12) (T := TX12) (N := 17) hx hb hts in_X12 hown hK hP 0 rfl rfl 6 (by decide) lk0 (fun _ h9 => h9) rfl dX12_needDoor_1 ?_
  refine va_get (D := (dC, dI)) (ci := 7) (v := .ref (a0 3)) (C := RX9) (T := TX9) (N := 9) hx hb hts in_X9 hown hK hP 1 rfl rfl 2 (by decide) lk1 (fun _ h9 => h9) rfl dX12_needDoor_4 ?_
  refine lv_iload_n hx hb dX12_needDoor_7 rfl (lv_at hl 1 rfl) ?_
  obtain ⟨v1, hv2, h⟩ := ok_bind h
  refine cl_vi (w2 := fun (_ : Unit) => w_X12_needDoor cy a0 gg gvn gdn) (As := [.int x1]) (rest := []) ⟨hx, hb, hml, hown, hts⟩ (c_X4_has l dC dI cy (fun k => a0 (k + 3)) gdn x1 H.size v1 hv2) (cwV 1 hts gX12_needDoor_X4_has rfl rfl rfl (by decide +kernel) ⟨Nat.le_of_ble_eq_true rfl, Nat.le_of_ble_eq_true rfl⟩) (va_recv hK hP (ci := 2) (q0 := 2) rfl rfl) cl_blind (cl_pre hK hP hD [2, 3, 4, 5, 6] (by decide) rfl) hP hD hS hA [2, 3, 4, 5, 6] rfl rfl hl.1 rfl (lv_room (Nat.le_of_ble_eq_true rfl)) dX12_needDoor_8 ⟨Nat.le_of_ble_eq_true rfl, Nat.le_of_ble_eq_true rfl⟩ ⟨rfl, rfl⟩ (fun _ => updR [2, 3, 4, 5, 6] rfl) (fun r u H locs hw hP hD hS => ?_)
  have hw := hw.symm
  subst hw
  have hP : va_P (dC, dI) vwCl (w_X12_needDoor cy a0 gg gvn gdn) H := hP
  have hD : va_D A (w_X12_needDoor cy a0 gg gvn gdn) := hD
  refine lv_if_ne (tgt := 25) hx hb dX12_needDoor_11 (by decide) (fun c3 => ?_) (fun c3 => ?_)
  · rw [if_neg c3] at h
    refine vx_ret ?_
    refine W.widen (k := 1) (n := 6) (by decide) (by decide) ?_
    exact W.vret hx hb hr (fun t ht hW => by rw [hqq]; have hh := Option.some.inj h; exact ⟨⟨(()), rfl, ⟨fst_of hh, snd_of hh⟩, by rw [ht]; exact hP, va_K.moved hW.alike hK⟩, hS.F ht⟩) hS.2.2 dX12_needDoor_25
  · rw [if_pos c3] at h
    refine vx_throwSW (XC := xx) (text := "no such door") (names := ["java/lang/RuntimeException", "java/lang/Exception"]) hx hb hl9 hown (by decide) (by decide) lk2 lk3 (hX.tx 365 "no such door" (by decide)) (ex_at165 gd165 hX) (by decide +kernel) hX.us hX.ss hS (by rw [hml]; exact hl.1) dX12_needDoor_14 dX12_needDoor_17 dX12_needDoor_18 dX12_needDoor_21 dX12_needDoor_24 (fun x9 hx9 => (htab x9 hx9).elim) (Nat.le_of_ble_eq_true rfl) (Nat.le_of_ble_eq_true rfl) (Nat.le_of_ble_eq_true rfl) (Nat.le_of_ble_eq_true rfl) hlocks (fun t h1 h2 h3 => by rw [hxx]; have hh := Option.some.inj h; exact ⟨(()), snd_of hh, ⟨exE_1 (fst_of hh).symm, ex_po hP hK h1 h3⟩, ex_F hS h2 h3⟩) hS.2.2 (by decide) (by decide)

abbrev w_X12_figureOf (cy : Nat → ClassId) (a0 : Nat → Nat) (gg : Int32 × Int32 × Int32 × Int32 × Int32 × Int32) (gvn : Int32 × Int32 × (Nat → Int32) × (Nat → Int32) × (Nat → Int32) × (Nat → Int32) × (Nat → Int32)) (gdn : Int32 × Int32 × (Nat → Int32) × (Nat → Int32) × (Nat → Int32) × (Nat → Int32)) : va_W := [(a0 0, .inr (10, [.ref (a0 1), .int (gg.1), .int (gg.2.1), .int (gg.2.2.1), .int (gg.2.2.2.1), .int (gg.2.2.2.2.1), .ref (a0 2), .ref (a0 17), .ref (a0 32), .int (gg.2.2.2.2.2), .ref (a0 47), .ref (a0 48), .ref (a0 49), .ref (a0 50), .ref (a0 68), .ref (a0 78), .ref (a0 80)])), (a0 2, .inr (7, [.int (gvn.1), .int (gvn.2.1), .ref (a0 3), .ref (a0 8), .ref (a0 12), .ref (a0 13), .ref (a0 14), .ref (a0 15), .ref (a0 16)])), (a0 3, .inr (2, [.int (gdn.1), .int (gdn.2.1), .ref (a0 4), .ref (a0 5), .ref (a0 6), .ref (a0 7)])), (a0 4, .inl (cy 1, 10, .inl (gdn.2.2.1))), (a0 5, .inl (cy 1, 10, .inl (gdn.2.2.2.1))), (a0 6, .inl (cy 1, 10, .inl (gdn.2.2.2.2.1))), (a0 7, .inl (cy 1, 50, .inl (gdn.2.2.2.2.2))), (a0 12, .inl (cy 1, 5, .inl (gvn.2.2.1))), (a0 13, .inl (cy 1, 5, .inl (gvn.2.2.2.1))), (a0 14, .inl (cy 1, 5, .inl (gvn.2.2.2.2.1))), (a0 15, .inl (cy 1, 5, .inl (gvn.2.2.2.2.2.1))), (a0 16, .inl (cy 1, 5, .inl (gvn.2.2.2.2.2.2)))]
abbrev rm_X12_figureOf : Room := { frames := 6, cells := 1, slots := 6, locals := 90 }
def p_X12_figureOf (gg : Int32 × Int32 × Int32 × Int32 × Int32 × Int32) (gvn : Int32 × Int32 × (Nat → Int32) × (Nat → Int32) × (Nat → Int32) × (Nat → Int32) × (Nat → Int32)) (gdn : Int32 × Int32 × (Nat → Int32) × (Nat → Int32) × (Nat → Int32) × (Nat → Int32)) (x1 : Int32) (x2 : Int32) : Option ((Int32 ⊕ Nat) × (Unit)) := (if x2 < (0 : Int32) then some (Sum.inr 1, ()) else ((p_X4_lengthOf gdn x1).bind fun v2 => (if x2 < v2 then ((p_X4_figureAt gdn x1 x2).bind fun v5 => some (Sum.inl v5, ())) else some (Sum.inr 1, ()))))
set_option maxHeartbeats 1000000 in
set_option maxRecDepth 100000 in
theorem c_X12_figureOf (l : Launch) (dC : Nat → ClassId) (dI : Nat → Nat → Nat) (cy : Nat → ClassId) (z : Nat → Nat) (hl9 : l.stackTraces = false) (a0 : Nat → Nat) (gg : Int32 × Int32 × Int32 × Int32 × Int32 × Int32) (gvn : Int32 × Int32 × (Nat → Int32) × (Nat → Int32) × (Nat → Int32) × (Nat → Int32) × (Nat → Int32)) (gdn : Int32 × Int32 × (Nat → Int32) × (Nat → Int32) × (Nat → Int32) × (Nat → Int32)) (x1 : Int32) (x2 : Int32) (sz : Nat) (R0 : (Int32 ⊕ Nat) × (Unit)) (h : p_X12_figureOf gg gvn gdn x1 x2 = some R0) : vx_Met l yX12_figureOf wsX12_figureOf rm_X12_figureOf (va_Pc [.ref (a0 0), .int x1, .int x2] (prS dC dI cy z (w_X12_figureOf cy a0 gg gvn gdn) sz)) (va_Qi (fun (r : Int32) (u : Unit) => Sum.inl r = R0.1 ∧ u = R0.2) (fun (_ : Unit) t => poC dC dI cy (w_X12_figureOf cy a0 gg gvn gdn) t) (va_A (w_X12_figureOf cy a0 gg gvn gdn) sz)) (vx_X (fun (u : Unit) => u = R0.2) (fun E (_ : Unit) t => exE E R0.1 ∧ poC dC dI cy (w_X12_figureOf cy a0 gg gvn gdn) t) (va_A (w_X12_figureOf cy a0 gg gvn gdn) sz)) 1 6 (va_A (w_X12_figureOf cy a0 gg gvn gdn) sz) := by
  refine vx_ofW (cc := cX12_figureOf) (maxL := 3) (ret := (some .int)) (by decide) rfl ?_
  intro p e s m aa below meth c s₁ B hml htab hv
  obtain ⟨haa, ⟨hsz, hP, hK, hD0⟩, hX⟩ := hv
  have hx := B.exec
  have hb := B.bytes
  have hr := B.returns
  have hts := atoms_spec (ws := wsX12_figureOf) B.pre
  have hown : s.vm.findClass RX12 = some m.cls := findClass_of_methodNamed B.named
  have hlocks := B.notSynchronized
  subst hsz
  have hD := hD0.self (sz := s.heap.size)
  obtain ⟨qq, hqq⟩ : ∃ qq, qq = (va_Qi (fun (r : Int32) (u : Unit) => Sum.inl r = R0.1 ∧ u = R0.2) (fun (_ : Unit) t => poC dC dI cy (w_X12_figureOf cy a0 gg gvn gdn) t) (va_A (w_X12_figureOf cy a0 gg gvn gdn) s.heap.size)) := ⟨_, rfl⟩
  obtain ⟨xx, hxx⟩ : ∃ xx, xx = (vx_X (fun (u : Unit) => u = R0.2) (fun E (_ : Unit) t => exE E R0.1 ∧ poC dC dI cy (w_X12_figureOf cy a0 gg gvn gdn) t) (va_A (w_X12_figureOf cy a0 gg gvn gdn) s.heap.size)) := ⟨_, rfl⟩
  rw [← hqq, ← hxx]
  generalize hAe : va_A (w_X12_figureOf cy a0 gg gvn gdn) s.heap.size = A at hD hqq hxx hX ⊢
  have hA : ∀ q : Nat, s.heap.size ≤ q → A q := fun q h => by rw [← hAe]; exact Or.inr h
  have hS : va_S A s.heap s.heap [] := va_S.rf
  have hl := lv_entry ([.ref (a0 0), .int x1, .int x2]) (n := 3) (Nat.le_of_ble_eq_true rfl)
  have hE : entryFrame m aa 3 = F0 m 0 ((lg_sl ([.ref (a0 0), .int x1, .int x2]) ++ List.replicate (3 - (lg_sl ([.ref (a0 0), .int x1, .int x2])).length) Slot.unset).toArray) [] := by rw [haa]; exact lg_entry_eq m _ 3
  refine W.eq hE ?_
  generalize (lg_sl ([.ref (a0 0), .int x1, .int x2]) ++ List.replicate (3 - (lg_sl ([.ref (a0 0), .int x1, .int x2])).length) Slot.unset).toArray = ls at hl ⊢
  have hl : lv_has ls 3 [(0, .ref (a0 0)), (1, .int x1), (2, .int x2)] := hl
  change W p l e rm_X12_figureOf s m aa below meth c s.heap [] 0 0 (vx_MQ below qq xx aa s 1 6 A) (F0 m 0 ls [])
  have hS0 := hS
  have lk0 := hts (.classLink RX12 161 "java/util/NoSuchElementException") (by decide +kernel)
  have lk1 := hts (.initialized "java/util/NoSuchElementException") (by decide +kernel)
  have lk2 := hts (.fieldLink RX12 20 "GoatDoors" "now" "LGoatDoors$Village;") (by decide +kernel)
  have lk3 := hts (.fieldLink RX12 130 "GoatDoors$Village" "doors" "LGoatDoors$Doors;") (by decide +kernel)
  have in_X12 : ∀ w ∈ wsX120, w ∈ wsX12_figureOf := by decide +kernel
  have in_X9 : ∀ w ∈ wsX90, w ∈ wsX12_figureOf := by decide +kernel
  have gd165 : ∀ w ∈ (vx_atS RX12 165 "java/util/NoSuchElementException" ["java/lang/RuntimeException", "java/lang/Exception"]).filter goodWord, w.before aa s = true := fun w hw => hts w ((show ∀ w ∈ (vx_atS RX12 165 "java/util/NoSuchElementException" ["java/lang/RuntimeException", "java/lang/Exception"]).filter goodWord, w ∈ wsX12_figureOf by decide +kernel) w hw)
  obtain ⟨H, hH⟩ : ∃ H : Heap, H = s.heap := ⟨_, rfl⟩
  obtain ⟨locs, hlocs⟩ : ∃ locs : List Loc, locs = [] := ⟨_, rfl⟩
  have hS : va_S A s.heap H locs := by rw [hH, hlocs]; exact hS
  rw [← hH] at hP
  suffices hg : W p l e rm_X12_figureOf s m aa below meth c H locs 0 0 (vx_MQ below qq xx aa s 1 6 A) (F0 m 0 ls []) by subst hH; subst hlocs; exact hg
  unfold p_X12_figureOf at h
  refine lv_iload_n hx hb dX12_figureOf_0 rfl (lv_at hl 2 rfl) ?_
  refine lv_if_lt (tgt := 19) hx hb dX12_figureOf_1 (by decide) (fun c1 => ?_) (fun c1 => ?_)
  · rw [if_pos c1] at h
    refine vx_throwS (XC := xx) (text := "nothing such is told of a door") (names := ["java/lang/RuntimeException", "java/lang/Exception"]) hx hb hl9 hown (by decide) (by decide) lk0 lk1 (hX.tx 215 "nothing such is told of a door" (by decide)) (ex_at165 gd165 hX) (by decide +kernel) hX.us hX.ss hS (by rw [hml]; exact hl.1) dX12_figureOf_19 dX12_figureOf_22 dX12_figureOf_23 dX12_figureOf_25 dX12_figureOf_28 (fun x9 hx9 => (htab x9 hx9).elim) (Nat.le_of_ble_eq_true rfl) (Nat.le_of_ble_eq_true rfl) (Nat.le_of_ble_eq_true rfl) (Nat.le_of_ble_eq_true rfl) hlocks (fun t h1 h2 h3 => by rw [hxx]; have hh := Option.some.inj h; exact ⟨(()), snd_of hh, ⟨exE_1 (fst_of hh).symm, ex_po hP hK h1 h3⟩, ex_F hS h2 h3⟩) hS.2.2 (by decide) (by decide)
  · rw [if_neg c1] at h
    refine lv_iload_n hx hb dX12_figureOf_4 rfl (lv_at hl 2 rfl) ?_
    refine lv_aload_n hx hb dX12_figureOf_5 rfl (lv_at hl 0 rfl) ?_
    refine va_get (D := (dC, dI)) (ci := 10) (v := .ref (a0 2)) (C := RX12) (T := TX12) (N := 17) hx hb hts in_X12 hown hK hP 0 rfl rfl 6 (by decide) lk2 (fun _ h9 => h9) rfl dX12_figureOf_6 ?_
    refine va_get (D := (dC, dI)) (ci := 7) (v := .ref (a0 3)) (C := RX9) (T := TX9) (N := 9) hx hb hts in_X9 hown hK hP 1 rfl rfl 2 (by decide) lk3 (fun _ h9 => h9) rfl dX12_figureOf_9 ?_
    refine lv_iload_n hx hb dX12_figureOf_12 rfl (lv_at hl 1 rfl) ?_
    obtain ⟨v2, hv3, h⟩ := ok_bind h
    refine cl_vi (w2 := fun (_ : Unit) => w_X12_figureOf cy a0 gg gvn gdn) (As := [.int x1]) (rest := [.int x2]) ⟨hx, hb, hml, hown, hts⟩ (c_X4_lengthOf l dC dI cy (fun k => a0 (k + 3)) gdn x1 H.size v2 hv3) (cwV 1 hts gX12_figureOf_X4_lengthOf rfl rfl rfl (by decide +kernel) ⟨Nat.le_of_ble_eq_true rfl, Nat.le_of_ble_eq_true rfl⟩) (va_recv hK hP (ci := 2) (q0 := 2) rfl rfl) cl_blind (cl_pre hK hP hD [2, 3, 4, 5, 6] (by decide) rfl) hP hD hS hA [2, 3, 4, 5, 6] rfl rfl hl.1 rfl (lv_room (Nat.le_of_ble_eq_true rfl)) dX12_figureOf_13 ⟨Nat.le_of_ble_eq_true rfl, Nat.le_of_ble_eq_true rfl⟩ ⟨rfl, rfl⟩ (fun _ => updR [2, 3, 4, 5, 6] rfl) (fun r u H locs hw hP hD hS => ?_)
    have hw := hw.symm
    subst hw
    have hP : va_P (dC, dI) vwCl (w_X12_figureOf cy a0 gg gvn gdn) H := hP
    have hD : va_D A (w_X12_figureOf cy a0 gg gvn gdn) := hD
    refine lv_icmp_lt (tgt := 29) hx hb dX12_figureOf_16 (by decide) (fun c4 => ?_) (fun c4 => ?_)
    · rw [if_pos c4] at h
      refine lv_aload_n hx hb dX12_figureOf_29 rfl (lv_at hl 0 rfl) ?_
      refine va_get (D := (dC, dI)) (ci := 10) (v := .ref (a0 2)) (C := RX12) (T := TX12) (N := 17) hx hb hts in_X12 hown hK hP 0 rfl rfl 6 (by decide) lk2 (fun _ h9 => h9) rfl dX12_figureOf_30 ?_
      refine va_get (D := (dC, dI)) (ci := 7) (v := .ref (a0 3)) (C := RX9) (T := TX9) (N := 9) hx hb hts in_X9 hown hK hP 1 rfl rfl 2 (by decide) lk3 (fun _ h9 => h9) rfl dX12_figureOf_33 ?_
      refine lv_iload_n hx hb dX12_figureOf_36 rfl (lv_at hl 1 rfl) ?_
      refine lv_iload_n hx hb dX12_figureOf_37 rfl (lv_at hl 2 rfl) ?_
      obtain ⟨v5, hv6, h⟩ := ok_bind h
      refine cl_vi (w2 := fun (_ : Unit) => w_X12_figureOf cy a0 gg gvn gdn) (As := [.int x1, .int x2]) (rest := []) ⟨hx, hb, hml, hown, hts⟩ (c_X4_figureAt l dC dI cy (fun k => a0 (k + 3)) gdn x1 x2 H.size v5 hv6) (cwV 2 hts gX12_figureOf_X4_figureAt rfl rfl rfl (by decide +kernel) ⟨Nat.le_of_ble_eq_true rfl, Nat.le_of_ble_eq_true rfl⟩) (va_recv hK hP (ci := 2) (q0 := 2) rfl rfl) cl_blind (cl_pre hK hP hD [2, 3, 4, 5, 6] (by decide) rfl) hP hD hS hA [2, 3, 4, 5, 6] rfl rfl hl.1 rfl (lv_room (Nat.le_of_ble_eq_true rfl)) dX12_figureOf_38 ⟨Nat.le_of_ble_eq_true rfl, Nat.le_of_ble_eq_true rfl⟩ ⟨rfl, rfl⟩ (fun _ => updR [2, 3, 4, 5, 6] rfl) (fun r u H locs hw hP hD hS => ?_)
      have hw := hw.symm
      subst hw
      have hP : va_P (dC, dI) vwCl (w_X12_figureOf cy a0 gg gvn gdn) H := hP
      have hD : va_D A (w_X12_figureOf cy a0 gg gvn gdn) := hD
      refine vx_ret ?_
      refine W.widen (k := 1) (n := 6) (by decide) (by decide) ?_
      exact W.iret (v := v5) hx hb hr (fun t ht hW => by rw [hqq]; have hh := Option.some.inj h; exact ⟨⟨v5, (()), rfl, ⟨fst_of hh, snd_of hh⟩, by rw [ht]; exact hP, va_K.moved hW.alike hK⟩, hS.F ht⟩) hS.2.2 dX12_figureOf_41
    · rw [if_neg c4] at h
      refine vx_throwS (XC := xx) (text := "nothing such is told of a door") (names := ["java/lang/RuntimeException", "java/lang/Exception"]) hx hb hl9 hown (by decide) (by decide) lk0 lk1 (hX.tx 215 "nothing such is told of a door" (by decide)) (ex_at165 gd165 hX) (by decide +kernel) hX.us hX.ss hS (by rw [hml]; exact hl.1) dX12_figureOf_19 dX12_figureOf_22 dX12_figureOf_23 dX12_figureOf_25 dX12_figureOf_28 (fun x9 hx9 => (htab x9 hx9).elim) (Nat.le_of_ble_eq_true rfl) (Nat.le_of_ble_eq_true rfl) (Nat.le_of_ble_eq_true rfl) (Nat.le_of_ble_eq_true rfl) hlocks (fun t h1 h2 h3 => by rw [hxx]; have hh := Option.some.inj h; exact ⟨(()), snd_of hh, ⟨exE_1 (fst_of hh).symm, ex_po hP hK h1 h3⟩, ex_F hS h2 h3⟩) hS.2.2 (by decide) (by decide)

abbrev w_X12_door (cy : Nat → ClassId) (a0 : Nat → Nat) (gg : Int32 × Int32 × Int32 × Int32 × Int32 × Int32) (gvn : Int32 × Int32 × (Nat → Int32) × (Nat → Int32) × (Nat → Int32) × (Nat → Int32) × (Nat → Int32)) (gdn : Int32 × Int32 × (Nat → Int32) × (Nat → Int32) × (Nat → Int32) × (Nat → Int32)) : va_W := [(a0 0, .inr (10, [.ref (a0 1), .int (gg.1), .int (gg.2.1), .int (gg.2.2.1), .int (gg.2.2.2.1), .int (gg.2.2.2.2.1), .ref (a0 2), .ref (a0 17), .ref (a0 32), .int (gg.2.2.2.2.2), .ref (a0 47), .ref (a0 48), .ref (a0 49), .ref (a0 50), .ref (a0 68), .ref (a0 78), .ref (a0 80)])), (a0 2, .inr (7, [.int (gvn.1), .int (gvn.2.1), .ref (a0 3), .ref (a0 8), .ref (a0 12), .ref (a0 13), .ref (a0 14), .ref (a0 15), .ref (a0 16)])), (a0 3, .inr (2, [.int (gdn.1), .int (gdn.2.1), .ref (a0 4), .ref (a0 5), .ref (a0 6), .ref (a0 7)])), (a0 4, .inl (cy 1, 10, .inl (gdn.2.2.1))), (a0 5, .inl (cy 1, 10, .inl (gdn.2.2.2.1))), (a0 6, .inl (cy 1, 10, .inl (gdn.2.2.2.2.1))), (a0 7, .inl (cy 1, 50, .inl (gdn.2.2.2.2.2))), (a0 12, .inl (cy 1, 5, .inl (gvn.2.2.1))), (a0 13, .inl (cy 1, 5, .inl (gvn.2.2.2.1))), (a0 14, .inl (cy 1, 5, .inl (gvn.2.2.2.2.1))), (a0 15, .inl (cy 1, 5, .inl (gvn.2.2.2.2.2.1))), (a0 16, .inl (cy 1, 5, .inl (gvn.2.2.2.2.2.2)))]
abbrev rm_X12_door : Room := { frames := 7, cells := 2, slots := 12, locals := 112 }
def p_X12_door (gg : Int32 × Int32 × Int32 × Int32 × Int32 × Int32) (gvn : Int32 × Int32 × (Nat → Int32) × (Nat → Int32) × (Nat → Int32) × (Nat → Int32) × (Nat → Int32)) (gdn : Int32 × Int32 × (Nat → Int32) × (Nat → Int32) × (Nat → Int32) × (Nat → Int32)) (x1 : Int32) (x2 : Int32) : Option ((Int32 ⊕ Nat) × (Unit)) := ((p_X12_needDoor gg gvn gdn x1).bind fun v1 => xb v1.1 (fun _r => (if x2 = (0 : Int32) then ((p_X4_debtorOf gdn x1).bind fun v4 => some (Sum.inl v4, ())) else (if x2 = (1 : Int32) then ((p_X4_lenderOf gdn x1).bind fun v7 => some (Sum.inl v7, ())) else (if x2 = (2 : Int32) then ((p_X4_lengthOf gdn x1).bind fun v10 => some (Sum.inl v10, ())) else ((p_X12_figureOf gg gvn gdn x1 (x2 - (10 : Int32))).bind fun v12 => xb v12.1 (fun r14 => some (Sum.inl r14, ())) (fun k => some (Sum.inr k, ()))))))) (fun k => some (Sum.inr k, ())))
set_option maxHeartbeats 1000000 in
set_option maxRecDepth 100000 in
theorem c_X12_door (l : Launch) (dC : Nat → ClassId) (dI : Nat → Nat → Nat) (cy : Nat → ClassId) (z : Nat → Nat) (hl9 : l.stackTraces = false) (a0 : Nat → Nat) (gg : Int32 × Int32 × Int32 × Int32 × Int32 × Int32) (gvn : Int32 × Int32 × (Nat → Int32) × (Nat → Int32) × (Nat → Int32) × (Nat → Int32) × (Nat → Int32)) (gdn : Int32 × Int32 × (Nat → Int32) × (Nat → Int32) × (Nat → Int32) × (Nat → Int32)) (x1 : Int32) (x2 : Int32) (sz : Nat) (R0 : (Int32 ⊕ Nat) × (Unit)) (h : p_X12_door gg gvn gdn x1 x2 = some R0) : vx_Met l yX12_door wsX12_door rm_X12_door (va_Pc [.ref (a0 0), .int x1, .int x2] (prS dC dI cy z (w_X12_door cy a0 gg gvn gdn) sz)) (va_Qi (fun (r : Int32) (u : Unit) => Sum.inl r = R0.1 ∧ u = R0.2) (fun (_ : Unit) t => poC dC dI cy (w_X12_door cy a0 gg gvn gdn) t) (va_A (w_X12_door cy a0 gg gvn gdn) sz)) (vx_X (fun (u : Unit) => u = R0.2) (fun E (_ : Unit) t => exE E R0.1 ∧ poC dC dI cy (w_X12_door cy a0 gg gvn gdn) t) (va_A (w_X12_door cy a0 gg gvn gdn) sz)) 2 12 (va_A (w_X12_door cy a0 gg gvn gdn) sz) := by
  refine vx_ofW (cc := cX12_door) (maxL := 3) (ret := (some .int)) (by decide) rfl ?_
  intro p e s m aa below meth c s₁ B hml htab hv
  obtain ⟨haa, ⟨hsz, hP, hK, hD0⟩, hX⟩ := hv
  have hx := B.exec
  have hb := B.bytes
  have hr := B.returns
  have hts := atoms_spec (ws := wsX12_door) B.pre
  have hown : s.vm.findClass RX12 = some m.cls := findClass_of_methodNamed B.named
  have hlocks := B.notSynchronized
  subst hsz
  have hD := hD0.self (sz := s.heap.size)
  obtain ⟨qq, hqq⟩ : ∃ qq, qq = (va_Qi (fun (r : Int32) (u : Unit) => Sum.inl r = R0.1 ∧ u = R0.2) (fun (_ : Unit) t => poC dC dI cy (w_X12_door cy a0 gg gvn gdn) t) (va_A (w_X12_door cy a0 gg gvn gdn) s.heap.size)) := ⟨_, rfl⟩
  obtain ⟨xx, hxx⟩ : ∃ xx, xx = (vx_X (fun (u : Unit) => u = R0.2) (fun E (_ : Unit) t => exE E R0.1 ∧ poC dC dI cy (w_X12_door cy a0 gg gvn gdn) t) (va_A (w_X12_door cy a0 gg gvn gdn) s.heap.size)) := ⟨_, rfl⟩
  rw [← hqq, ← hxx]
  generalize hAe : va_A (w_X12_door cy a0 gg gvn gdn) s.heap.size = A at hD hqq hxx hX ⊢
  have hA : ∀ q : Nat, s.heap.size ≤ q → A q := fun q h => by rw [← hAe]; exact Or.inr h
  have hS : va_S A s.heap s.heap [] := va_S.rf
  have hl := lv_entry ([.ref (a0 0), .int x1, .int x2]) (n := 3) (Nat.le_of_ble_eq_true rfl)
  have hE : entryFrame m aa 3 = F0 m 0 ((lg_sl ([.ref (a0 0), .int x1, .int x2]) ++ List.replicate (3 - (lg_sl ([.ref (a0 0), .int x1, .int x2])).length) Slot.unset).toArray) [] := by rw [haa]; exact lg_entry_eq m _ 3
  refine W.eq hE ?_
  generalize (lg_sl ([.ref (a0 0), .int x1, .int x2]) ++ List.replicate (3 - (lg_sl ([.ref (a0 0), .int x1, .int x2])).length) Slot.unset).toArray = ls at hl ⊢
  have hl : lv_has ls 3 [(0, .ref (a0 0)), (1, .int x1), (2, .int x2)] := hl
  change W p l e rm_X12_door s m aa below meth c s.heap [] 0 0 (vx_MQ below qq xx aa s 2 12 A) (F0 m 0 ls [])
  have hS0 := hS
  have lk0 := hts (.fieldLink RX12 20 "GoatDoors" "now" "LGoatDoors$Village;") (by decide +kernel)
  have lk1 := hts (.fieldLink RX12 130 "GoatDoors$Village" "doors" "LGoatDoors$Doors;") (by decide +kernel)
  have in_X12 : ∀ w ∈ wsX120, w ∈ wsX12_door := by decide +kernel
  have in_X9 : ∀ w ∈ wsX90, w ∈ wsX12_door := by decide +kernel
  obtain ⟨H, hH⟩ : ∃ H : Heap, H = s.heap := ⟨_, rfl⟩
  obtain ⟨locs, hlocs⟩ : ∃ locs : List Loc, locs = [] := ⟨_, rfl⟩
  have hS : va_S A s.heap H locs := by rw [hH, hlocs]; exact hS
  rw [← hH] at hP
  suffices hg : W p l e rm_X12_door s m aa below meth c H locs 0 0 (vx_MQ below qq xx aa s 2 12 A) (F0 m 0 ls []) by subst hH; subst hlocs; exact hg
  unfold p_X12_door at h
  refine lv_aload_n hx hb dX12_door_0 rfl (lv_at hl 0 rfl) ?_
  refine lv_iload_n hx hb dX12_door_1 rfl (lv_at hl 1 rfl) ?_
  obtain ⟨v1, hv2, h⟩ := ok_bind h
  refine cx_vv (w2 := fun (_ : Unit) => w_X12_door cy a0 gg gvn gdn) (w2x := fun (_ : Unit) => w_X12_door cy a0 gg gvn gdn) (As := [.int x1]) (rest := []) ⟨hx, hb, hml, hown, hts⟩ (c_X12_needDoor l dC dI cy z hl9 a0 gg gvn gdn x1 H.size v1 hv2) (cwV 1 hts gX12_door_X12_needDoor rfl rfl rfl (by decide +kernel) ⟨Nat.le_of_ble_eq_true rfl, Nat.le_of_ble_eq_true rfl⟩) (va_recv hK hP (ci := 10) (q0 := 0) rfl rfl) cl_blindS (cl_preS hK hP hD hS hA hX [0, 1, 2, 3, 4, 5, 6, 7, 8, 9, 10, 11] (by decide) rfl) hP hD hS hA [0, 1, 2, 3, 4, 5, 6, 7, 8, 9, 10, 11] rfl rfl hl.1 rfl (lv_room (Nat.le_of_ble_eq_true rfl)) dX12_door_2 ⟨Nat.le_of_ble_eq_true rfl, Nat.le_of_ble_eq_true rfl⟩ (cells' := 1) (slots' := 6) ⟨rfl, rfl⟩ (fun _ => updR [0, 1, 2, 3, 4, 5, 6, 7, 8, 9, 10, 11] rfl) (fun _ => updR [0, 1, 2, 3, 4, 5, 6, 7, 8, 9, 10, 11] rfl) (fun E ce q9 u H locs hw hE hP hD hS hc1 hc2 hc3 => ?_) (fun u H locs hw hP hD hS => ?_)
  · subst hw
    have hP : va_P (dC, dI) vwCl (w_X12_door cy a0 gg gvn gdn) H := hP
    obtain ⟨hE1, hE2⟩ := exE_pass hE h
    exact vx_out (fun x9 hx9 => (htab x9 hx9).elim) hlocks hc1 hc2 hc3 (fun t h1 h2 => by rw [hxx]; exact ⟨_, hE2.symm, ⟨hE1, by rw [h1]; exact hP, va_K.moved h2 hK⟩, hS.F h1⟩) hS.2.2 (by decide) (by decide)
  obtain ⟨hw1, hw2⟩ := hw
  subst hw2
  rw [← hw1] at h
  dsimp only [xb] at h
  have hP : va_P (dC, dI) vwCl (w_X12_door cy a0 gg gvn gdn) H := hP
  have hD : va_D A (w_X12_door cy a0 gg gvn gdn) := hD
  refine lv_iload_n hx hb dX12_door_5 rfl (lv_at hl 2 rfl) ?_
  by_cases c3 : x2 = (0 : Int32)
  · rw [if_pos c3] at h
    refine lv_tableIn (off := 26) (tgt := 32) hx hb dX12_door_6 (by rw [c3]; decide) (by rw [c3]; decide) (by rw [c3]; decide) (by decide) ?_
    refine lv_aload_n hx hb dX12_door_32 rfl (lv_at hl 0 rfl) ?_
    refine va_get (D := (dC, dI)) (ci := 10) (v := .ref (a0 2)) (C := RX12) (T := TX12) (N := 17) hx hb hts in_X12 hown hK hP 0 rfl rfl 6 (by decide) lk0 (fun _ h9 => h9) rfl dX12_door_33 ?_
    refine va_get (D := (dC, dI)) (ci := 7) (v := .ref (a0 3)) (C := RX9) (T := TX9) (N := 9) hx hb hts in_X9 hown hK hP 1 rfl rfl 2 (by decide) lk1 (fun _ h9 => h9) rfl dX12_door_36 ?_
    refine lv_iload_n hx hb dX12_door_39 rfl (lv_at hl 1 rfl) ?_
    obtain ⟨v4, hv5, h⟩ := ok_bind h
    refine cl_vi (w2 := fun (_ : Unit) => w_X12_door cy a0 gg gvn gdn) (As := [.int x1]) (rest := []) ⟨hx, hb, hml, hown, hts⟩ (c_X4_debtorOf l dC dI cy (fun k => a0 (k + 3)) gdn x1 H.size v4 hv5) (cwV 1 hts gX12_door_X4_debtorOf rfl rfl rfl (by decide +kernel) ⟨Nat.le_of_ble_eq_true rfl, Nat.le_of_ble_eq_true rfl⟩) (va_recv hK hP (ci := 2) (q0 := 2) rfl rfl) cl_blind (cl_pre hK hP hD [2, 3, 4, 5, 6] (by decide) rfl) hP hD hS hA [2, 3, 4, 5, 6] rfl rfl hl.1 rfl (lv_room (Nat.le_of_ble_eq_true rfl)) dX12_door_40 ⟨Nat.le_of_ble_eq_true rfl, Nat.le_of_ble_eq_true rfl⟩ ⟨rfl, rfl⟩ (fun _ => updR [2, 3, 4, 5, 6] rfl) (fun r u H locs hw hP hD hS => ?_)
    have hw := hw.symm
    subst hw
    have hP : va_P (dC, dI) vwCl (w_X12_door cy a0 gg gvn gdn) H := hP
    have hD : va_D A (w_X12_door cy a0 gg gvn gdn) := hD
    refine vx_ret ?_
    refine W.widen (k := 2) (n := 12) (by decide) (by decide) ?_
    exact W.iret (v := v4) hx hb hr (fun t ht hW => by rw [hqq]; have hh := Option.some.inj h; exact ⟨⟨v4, (()), rfl, ⟨fst_of hh, snd_of hh⟩, by rw [ht]; exact hP, va_K.moved hW.alike hK⟩, hS.F ht⟩) hS.2.2 dX12_door_43
  rw [if_neg c3] at h
  by_cases c6 : x2 = (1 : Int32)
  · rw [if_pos c6] at h
    refine lv_tableIn (off := 38) (tgt := 44) hx hb dX12_door_6 (by rw [c6]; decide) (by rw [c6]; decide) (by rw [c6]; decide) (by decide) ?_
    refine lv_aload_n hx hb dX12_door_44 rfl (lv_at hl 0 rfl) ?_
    refine va_get (D := (dC, dI)) (ci := 10) (v := .ref (a0 2)) (C := RX12) (T := TX12) (N := 17) hx hb hts in_X12 hown hK hP 0 rfl rfl 6 (by decide) lk0 (fun _ h9 => h9) rfl dX12_door_45 ?_
    refine va_get (D := (dC, dI)) (ci := 7) (v := .ref (a0 3)) (C := RX9) (T := TX9) (N := 9) hx hb hts in_X9 hown hK hP 1 rfl rfl 2 (by decide) lk1 (fun _ h9 => h9) rfl dX12_door_48 ?_
    refine lv_iload_n hx hb dX12_door_51 rfl (lv_at hl 1 rfl) ?_
    obtain ⟨v7, hv8, h⟩ := ok_bind h
    refine cl_vi (w2 := fun (_ : Unit) => w_X12_door cy a0 gg gvn gdn) (As := [.int x1]) (rest := []) ⟨hx, hb, hml, hown, hts⟩ (c_X4_lenderOf l dC dI cy (fun k => a0 (k + 3)) gdn x1 H.size v7 hv8) (cwV 1 hts gX12_door_X4_lenderOf rfl rfl rfl (by decide +kernel) ⟨Nat.le_of_ble_eq_true rfl, Nat.le_of_ble_eq_true rfl⟩) (va_recv hK hP (ci := 2) (q0 := 2) rfl rfl) cl_blind (cl_pre hK hP hD [2, 3, 4, 5, 6] (by decide) rfl) hP hD hS hA [2, 3, 4, 5, 6] rfl rfl hl.1 rfl (lv_room (Nat.le_of_ble_eq_true rfl)) dX12_door_52 ⟨Nat.le_of_ble_eq_true rfl, Nat.le_of_ble_eq_true rfl⟩ ⟨rfl, rfl⟩ (fun _ => updR [2, 3, 4, 5, 6] rfl) (fun r u H locs hw hP hD hS => ?_)
    have hw := hw.symm
    subst hw
    have hP : va_P (dC, dI) vwCl (w_X12_door cy a0 gg gvn gdn) H := hP
    have hD : va_D A (w_X12_door cy a0 gg gvn gdn) := hD
    refine vx_ret ?_
    refine W.widen (k := 2) (n := 12) (by decide) (by decide) ?_
    exact W.iret (v := v7) hx hb hr (fun t ht hW => by rw [hqq]; have hh := Option.some.inj h; exact ⟨⟨v7, (()), rfl, ⟨fst_of hh, snd_of hh⟩, by rw [ht]; exact hP, va_K.moved hW.alike hK⟩, hS.F ht⟩) hS.2.2 dX12_door_55
  rw [if_neg c6] at h
  by_cases c9 : x2 = (2 : Int32)
  · rw [if_pos c9] at h
    refine lv_tableIn (off := 50) (tgt := 56) hx hb dX12_door_6 (by rw [c9]; decide) (by rw [c9]; decide) (by rw [c9]; decide) (by decide) ?_
    refine lv_aload_n hx hb dX12_door_56 rfl (lv_at hl 0 rfl) ?_
    refine va_get (D := (dC, dI)) (ci := 10) (v := .ref (a0 2)) (C := RX12) (T := TX12) (N := 17) hx hb hts in_X12 hown hK hP 0 rfl rfl 6 (by decide) lk0 (fun _ h9 => h9) rfl dX12_door_57 ?_
    refine va_get (D := (dC, dI)) (ci := 7) (v := .ref (a0 3)) (C := RX9) (T := TX9) (N := 9) hx hb hts in_X9 hown hK hP 1 rfl rfl 2 (by decide) lk1 (fun _ h9 => h9) rfl dX12_door_60 ?_
    refine lv_iload_n hx hb dX12_door_63 rfl (lv_at hl 1 rfl) ?_
    obtain ⟨v10, hv11, h⟩ := ok_bind h
    refine cl_vi (w2 := fun (_ : Unit) => w_X12_door cy a0 gg gvn gdn) (As := [.int x1]) (rest := []) ⟨hx, hb, hml, hown, hts⟩ (c_X4_lengthOf l dC dI cy (fun k => a0 (k + 3)) gdn x1 H.size v10 hv11) (cwV 1 hts gX12_door_X4_lengthOf rfl rfl rfl (by decide +kernel) ⟨Nat.le_of_ble_eq_true rfl, Nat.le_of_ble_eq_true rfl⟩) (va_recv hK hP (ci := 2) (q0 := 2) rfl rfl) cl_blind (cl_pre hK hP hD [2, 3, 4, 5, 6] (by decide) rfl) hP hD hS hA [2, 3, 4, 5, 6] rfl rfl hl.1 rfl (lv_room (Nat.le_of_ble_eq_true rfl)) dX12_door_64 ⟨Nat.le_of_ble_eq_true rfl, Nat.le_of_ble_eq_true rfl⟩ ⟨rfl, rfl⟩ (fun _ => updR [2, 3, 4, 5, 6] rfl) (fun r u H locs hw hP hD hS => ?_)
    have hw := hw.symm
    subst hw
    have hP : va_P (dC, dI) vwCl (w_X12_door cy a0 gg gvn gdn) H := hP
    have hD : va_D A (w_X12_door cy a0 gg gvn gdn) := hD
    refine vx_ret ?_
    refine W.widen (k := 2) (n := 12) (by decide) (by decide) ?_
    exact W.iret (v := v10) hx hb hr (fun t ht hW => by rw [hqq]; have hh := Option.some.inj h; exact ⟨⟨v10, (()), rfl, ⟨fst_of hh, snd_of hh⟩, by rw [ht]; exact hP, va_K.moved hW.alike hK⟩, hS.F ht⟩) hS.2.2 dX12_door_67
  rw [if_neg c9] at h
  refine lv_tableOut (tgt := 68) hx hb dX12_door_6 (tab_out (fun k h1 h2 e => by rcases (show k = 0 ∨ k = 1 ∨ k = 2 by omega) with rfl | rfl | rfl; exacts [c3 (Int32.toInt_inj.mp (e.trans (by decide))), c6 (Int32.toInt_inj.mp (e.trans (by decide))), c9 (Int32.toInt_inj.mp (e.trans (by decide)))])) (by decide) ?_
  refine lv_aload_n hx hb dX12_door_68 rfl (lv_at hl 0 rfl) ?_
  refine lv_iload_n hx hb dX12_door_69 rfl (lv_at hl 1 rfl) ?_
  refine lv_iload_n hx hb dX12_door_70 rfl (lv_at hl 2 rfl) ?_
  refine lv_bipush (v := (10 : Int32)) hx hb dX12_door_71 (by decide) ?_
  refine lv_isub hx hb dX12_door_73 ?_
  obtain ⟨v12, hv13, h⟩ := ok_bind h
  refine cx_vi (w2 := fun (_ : Unit) => w_X12_door cy a0 gg gvn gdn) (w2x := fun (_ : Unit) => w_X12_door cy a0 gg gvn gdn) (As := [.int x1, .int (x2 - (10 : Int32))]) (rest := []) ⟨hx, hb, hml, hown, hts⟩ (c_X12_figureOf l dC dI cy z hl9 a0 gg gvn gdn x1 (x2 - (10 : Int32)) H.size v12 hv13) (cwV 2 hts gX12_door_X12_figureOf rfl rfl rfl (by decide +kernel) ⟨Nat.le_of_ble_eq_true rfl, Nat.le_of_ble_eq_true rfl⟩) (va_recv hK hP (ci := 10) (q0 := 0) rfl rfl) cl_blindS (cl_preS hK hP hD hS hA hX [0, 1, 2, 3, 4, 5, 6, 7, 8, 9, 10, 11] (by decide) rfl) hP hD hS hA [0, 1, 2, 3, 4, 5, 6, 7, 8, 9, 10, 11] rfl rfl hl.1 rfl (lv_room (Nat.le_of_ble_eq_true rfl)) dX12_door_74 ⟨Nat.le_of_ble_eq_true rfl, Nat.le_of_ble_eq_true rfl⟩ (cells' := 2) (slots' := 12) ⟨rfl, rfl⟩ (fun _ => updR [0, 1, 2, 3, 4, 5, 6, 7, 8, 9, 10, 11] rfl) (fun _ => updR [0, 1, 2, 3, 4, 5, 6, 7, 8, 9, 10, 11] rfl) (fun E ce q9 u H locs hw hE hP hD hS hc1 hc2 hc3 => ?_) (fun r14 u H locs hw hP hD hS => ?_)
  · subst hw
    have hP : va_P (dC, dI) vwCl (w_X12_door cy a0 gg gvn gdn) H := hP
    obtain ⟨hE1, hE2⟩ := exE_pass hE h
    exact vx_out (fun x9 hx9 => (htab x9 hx9).elim) hlocks hc1 hc2 hc3 (fun t h1 h2 => by rw [hxx]; exact ⟨_, hE2.symm, ⟨hE1, by rw [h1]; exact hP, va_K.moved h2 hK⟩, hS.F h1⟩) hS.2.2 (by decide) (by decide)
  obtain ⟨hw1, hw2⟩ := hw
  subst hw2
  rw [← hw1] at h
  dsimp only [xb] at h
  have hP : va_P (dC, dI) vwCl (w_X12_door cy a0 gg gvn gdn) H := hP
  have hD : va_D A (w_X12_door cy a0 gg gvn gdn) := hD
  refine vx_ret ?_
  exact W.iret (v := r14) hx hb hr (fun t ht hW => by rw [hqq]; have hh := Option.some.inj h; exact ⟨⟨r14, (()), rfl, ⟨fst_of hh, snd_of hh⟩, by rw [ht]; exact hP, va_K.moved hW.alike hK⟩, hS.F ht⟩) hS.2.2 dX12_door_77

abbrev w_X12_needBase (cy : Nat → ClassId)   : va_W := []
abbrev rm_X12_needBase : Room := { frames := 6, cells := 1, slots := 6, locals := 90 }
def p_X12_needBase  (x0 : Int32) : Option ((Unit ⊕ Nat) × (Unit)) := (if x0 < (0 : Int32) then some (Sum.inr 2, ()) else (if x0 ≤ (40 : Int32) then some (Sum.inl (), ()) else some (Sum.inr 2, ())))
set_option maxHeartbeats 1000000 in
set_option maxRecDepth 100000 in
theorem c_X12_needBase (l : Launch) (dC : Nat → ClassId) (dI : Nat → Nat → Nat) (cy : Nat → ClassId) (z : Nat → Nat) (hl9 : l.stackTraces = false)   (x0 : Int32) (sz : Nat) (R0 : (Unit ⊕ Nat) × (Unit)) (h : p_X12_needBase x0 = some R0) : vx_Met l yX12_needBase wsX12_needBase rm_X12_needBase (va_Pc [.int x0] (prS dC dI cy z (w_X12_needBase cy  ) sz)) (va_Qv (fun (u : Unit) => Sum.inl () = R0.1 ∧ u = R0.2) (fun (_ : Unit) t => poC dC dI cy (w_X12_needBase cy  ) t) (va_A (w_X12_needBase cy  ) sz)) (vx_X (fun (u : Unit) => u = R0.2) (fun E (_ : Unit) t => exE E R0.1 ∧ poC dC dI cy (w_X12_needBase cy  ) t) (va_A (w_X12_needBase cy  ) sz)) 1 6 (va_A (w_X12_needBase cy  ) sz) := by
  refine vx_ofW (cc := cX12_needBase) (maxL := 1) (ret := none) (by decide) rfl ?_
  intro p e s m aa below meth c s₁ B hml htab hv
  obtain ⟨haa, ⟨hsz, hP, hK, hD0⟩, hX⟩ := hv
  have hx := B.exec
  have hb := B.bytes
  have hr := B.returns
  have hts := atoms_spec (ws := wsX12_needBase) B.pre
  have hown : s.vm.findClass RX12 = some m.cls := findClass_of_methodNamed B.named
  have hlocks := B.notSynchronized
  subst hsz
  have hD := hD0.self (sz := s.heap.size)
  obtain ⟨qq, hqq⟩ : ∃ qq, qq = (va_Qv (fun (u : Unit) => Sum.inl () = R0.1 ∧ u = R0.2) (fun (_ : Unit) t => poC dC dI cy (w_X12_needBase cy  ) t) (va_A (w_X12_needBase cy  ) s.heap.size)) := ⟨_, rfl⟩
  obtain ⟨xx, hxx⟩ : ∃ xx, xx = (vx_X (fun (u : Unit) => u = R0.2) (fun E (_ : Unit) t => exE E R0.1 ∧ poC dC dI cy (w_X12_needBase cy  ) t) (va_A (w_X12_needBase cy  ) s.heap.size)) := ⟨_, rfl⟩
  rw [← hqq, ← hxx]
  generalize hAe : va_A (w_X12_needBase cy  ) s.heap.size = A at hD hqq hxx hX ⊢
  have hA : ∀ q : Nat, s.heap.size ≤ q → A q := fun q h => by rw [← hAe]; exact Or.inr h
  have hS : va_S A s.heap s.heap [] := va_S.rf
  have hl := lv_entry ([.int x0]) (n := 1) (Nat.le_of_ble_eq_true rfl)
  have hE : entryFrame m aa 1 = F0 m 0 ((lg_sl ([.int x0]) ++ List.replicate (1 - (lg_sl ([.int x0])).length) Slot.unset).toArray) [] := by rw [haa]; exact lg_entry_eq m _ 1
  refine W.eq hE ?_
  generalize (lg_sl ([.int x0]) ++ List.replicate (1 - (lg_sl ([.int x0])).length) Slot.unset).toArray = ls at hl ⊢
  have hl : lv_has ls 1 [(0, .int x0)] := hl
  change W p l e rm_X12_needBase s m aa below meth c s.heap [] 0 0 (vx_MQ below qq xx aa s 1 6 A) (F0 m 0 ls [])
  have hS0 := hS
  have lk0 := hts (.classLink RX12 252 "java/lang/IllegalArgumentException") (by decide +kernel)
  have lk1 := hts (.initialized "java/lang/IllegalArgumentException") (by decide +kernel)
  have gd256 : ∀ w ∈ (vx_atS RX12 256 "java/lang/IllegalArgumentException" ["java/lang/RuntimeException", "java/lang/Exception"]).filter goodWord, w.before aa s = true := fun w hw => hts w ((show ∀ w ∈ (vx_atS RX12 256 "java/lang/IllegalArgumentException" ["java/lang/RuntimeException", "java/lang/Exception"]).filter goodWord, w ∈ wsX12_needBase by decide +kernel) w hw)
  obtain ⟨H, hH⟩ : ∃ H : Heap, H = s.heap := ⟨_, rfl⟩
  obtain ⟨locs, hlocs⟩ : ∃ locs : List Loc, locs = [] := ⟨_, rfl⟩
  have hS : va_S A s.heap H locs := by rw [hH, hlocs]; exact hS
  rw [← hH] at hP
  suffices hg : W p l e rm_X12_needBase s m aa below meth c H locs 0 0 (vx_MQ below qq xx aa s 1 6 A) (F0 m 0 ls []) by subst hH; subst hlocs; exact hg
  unfold p_X12_needBase at h
  refine lv_iload_n hx hb dX12_needBase_0 rfl (lv_at hl 0 rfl) ?_
  refine lv_if_lt (tgt := 10) hx hb dX12_needBase_1 (by decide) (fun c1 => ?_) (fun c1 => ?_)
  · rw [if_pos c1] at h
    refine vx_throwSW (XC := xx) (text := "no such base") (names := ["java/lang/RuntimeException", "java/lang/Exception"]) hx hb hl9 hown (by decide) (by decide) lk0 lk1 (hX.tx 369 "no such base" (by decide)) (ex_at256 gd256 hX) (by decide +kernel) hX.us hX.ss hS (by rw [hml]; exact hl.1) dX12_needBase_10 dX12_needBase_13 dX12_needBase_14 dX12_needBase_17 dX12_needBase_20 (fun x9 hx9 => (htab x9 hx9).elim) (Nat.le_of_ble_eq_true rfl) (Nat.le_of_ble_eq_true rfl) (Nat.le_of_ble_eq_true rfl) (Nat.le_of_ble_eq_true rfl) hlocks (fun t h1 h2 h3 => by rw [hxx]; have hh := Option.some.inj h; exact ⟨(()), snd_of hh, ⟨exE_2 (fst_of hh).symm, ex_po hP hK h1 h3⟩, ex_F hS h2 h3⟩) hS.2.2 (by decide) (by decide)
  · rw [if_neg c1] at h
    refine lv_iload_n hx hb dX12_needBase_4 rfl (lv_at hl 0 rfl) ?_
    refine lv_bipush (v := (40 : Int32)) hx hb dX12_needBase_5 (by decide) ?_
    refine lv_icmp_le (tgt := 21) hx hb dX12_needBase_7 (by decide) (fun c2 => ?_) (fun c2 => ?_)
    · rw [if_pos c2] at h
      refine vx_ret ?_
      refine W.widen (k := 1) (n := 6) (by decide) (by decide) ?_
      exact W.vret hx hb hr (fun t ht hW => by rw [hqq]; have hh := Option.some.inj h; exact ⟨⟨(()), rfl, ⟨fst_of hh, snd_of hh⟩, by rw [ht]; exact hP, va_K.moved hW.alike hK⟩, hS.F ht⟩) hS.2.2 dX12_needBase_21
    · rw [if_neg c2] at h
      refine vx_throwSW (XC := xx) (text := "no such base") (names := ["java/lang/RuntimeException", "java/lang/Exception"]) hx hb hl9 hown (by decide) (by decide) lk0 lk1 (hX.tx 369 "no such base" (by decide)) (ex_at256 gd256 hX) (by decide +kernel) hX.us hX.ss hS (by rw [hml]; exact hl.1) dX12_needBase_10 dX12_needBase_13 dX12_needBase_14 dX12_needBase_17 dX12_needBase_20 (fun x9 hx9 => (htab x9 hx9).elim) (Nat.le_of_ble_eq_true rfl) (Nat.le_of_ble_eq_true rfl) (Nat.le_of_ble_eq_true rfl) (Nat.le_of_ble_eq_true rfl) hlocks (fun t h1 h2 h3 => by rw [hxx]; have hh := Option.some.inj h; exact ⟨(()), snd_of hh, ⟨exE_2 (fst_of hh).symm, ex_po hP hK h1 h3⟩, ex_F hS h2 h3⟩) hS.2.2 (by decide) (by decide)

abbrev w_X12_worth (cy : Nat → ClassId) (a0 : Nat → Nat) (gg : Int32 × Int32 × Int32 × Int32 × Int32 × Int32) (gvn : Int32 × Int32 × (Nat → Int32) × (Nat → Int32) × (Nat → Int32) × (Nat → Int32) × (Nat → Int32)) (gdn : Int32 × Int32 × (Nat → Int32) × (Nat → Int32) × (Nat → Int32) × (Nat → Int32)) : va_W := [(a0 0, .inr (10, [.ref (a0 1), .int (gg.1), .int (gg.2.1), .int (gg.2.2.1), .int (gg.2.2.2.1), .int (gg.2.2.2.2.1), .ref (a0 2), .ref (a0 17), .ref (a0 32), .int (gg.2.2.2.2.2), .ref (a0 47), .ref (a0 48), .ref (a0 49), .ref (a0 50), .ref (a0 68), .ref (a0 78), .ref (a0 80)])), (a0 2, .inr (7, [.int (gvn.1), .int (gvn.2.1), .ref (a0 3), .ref (a0 8), .ref (a0 12), .ref (a0 13), .ref (a0 14), .ref (a0 15), .ref (a0 16)])), (a0 3, .inr (2, [.int (gdn.1), .int (gdn.2.1), .ref (a0 4), .ref (a0 5), .ref (a0 6), .ref (a0 7)])), (a0 4, .inl (cy 1, 10, .inl (gdn.2.2.1))), (a0 5, .inl (cy 1, 10, .inl (gdn.2.2.2.1))), (a0 6, .inl (cy 1, 10, .inl (gdn.2.2.2.2.1))), (a0 7, .inl (cy 1, 50, .inl (gdn.2.2.2.2.2))), (a0 12, .inl (cy 1, 5, .inl (gvn.2.2.1))), (a0 13, .inl (cy 1, 5, .inl (gvn.2.2.2.1))), (a0 14, .inl (cy 1, 5, .inl (gvn.2.2.2.2.1))), (a0 15, .inl (cy 1, 5, .inl (gvn.2.2.2.2.2.1))), (a0 16, .inl (cy 1, 5, .inl (gvn.2.2.2.2.2.2)))]
abbrev rm_X12_worth : Room := { frames := 7, cells := 2, slots := 12, locals := 111 }
def p_X12_worth (gg : Int32 × Int32 × Int32 × Int32 × Int32 × Int32) (gvn : Int32 × Int32 × (Nat → Int32) × (Nat → Int32) × (Nat → Int32) × (Nat → Int32) × (Nat → Int32)) (gdn : Int32 × Int32 × (Nat → Int32) × (Nat → Int32) × (Nat → Int32) × (Nat → Int32)) (x1 : Int32) (x2 : Int32) : Option ((Int32 ⊕ Nat) × (Unit)) := ((p_X12_needDoor gg gvn gdn x1).bind fun v1 => xb v1.1 (fun _r => ((p_X12_needBase x2).bind fun v3 => xb v3.1 (fun _r => ((p_X4_worthIn gdn x1 x2).bind fun v5 => some (Sum.inl v5, ()))) (fun k => some (Sum.inr k, ())))) (fun k => some (Sum.inr k, ())))
set_option maxHeartbeats 1000000 in
set_option maxRecDepth 100000 in
theorem c_X12_worth (l : Launch) (dC : Nat → ClassId) (dI : Nat → Nat → Nat) (cy : Nat → ClassId) (z : Nat → Nat) (hl9 : l.stackTraces = false) (a0 : Nat → Nat) (gg : Int32 × Int32 × Int32 × Int32 × Int32 × Int32) (gvn : Int32 × Int32 × (Nat → Int32) × (Nat → Int32) × (Nat → Int32) × (Nat → Int32) × (Nat → Int32)) (gdn : Int32 × Int32 × (Nat → Int32) × (Nat → Int32) × (Nat → Int32) × (Nat → Int32)) (x1 : Int32) (x2 : Int32) (sz : Nat) (R0 : (Int32 ⊕ Nat) × (Unit)) (h : p_X12_worth gg gvn gdn x1 x2 = some R0) : vx_Met l yX12_worth wsX12_worth rm_X12_worth (va_Pc [.ref (a0 0), .int x1, .int x2] (prS dC dI cy z (w_X12_worth cy a0 gg gvn gdn) sz)) (va_Qi (fun (r : Int32) (u : Unit) => Sum.inl r = R0.1 ∧ u = R0.2) (fun (_ : Unit) t => poC dC dI cy (w_X12_worth cy a0 gg gvn gdn) t) (va_A (w_X12_worth cy a0 gg gvn gdn) sz)) (vx_X (fun (u : Unit) => u = R0.2) (fun E (_ : Unit) t => exE E R0.1 ∧ poC dC dI cy (w_X12_worth cy a0 gg gvn gdn) t) (va_A (w_X12_worth cy a0 gg gvn gdn) sz)) 2 12 (va_A (w_X12_worth cy a0 gg gvn gdn) sz) := by
  refine vx_ofW (cc := cX12_worth) (maxL := 3) (ret := (some .int)) (by decide) rfl ?_
  intro p e s m aa below meth c s₁ B hml htab hv
  obtain ⟨haa, ⟨hsz, hP, hK, hD0⟩, hX⟩ := hv
  have hx := B.exec
  have hb := B.bytes
  have hr := B.returns
  have hts := atoms_spec (ws := wsX12_worth) B.pre
  have hown : s.vm.findClass RX12 = some m.cls := findClass_of_methodNamed B.named
  have hlocks := B.notSynchronized
  subst hsz
  have hD := hD0.self (sz := s.heap.size)
  obtain ⟨qq, hqq⟩ : ∃ qq, qq = (va_Qi (fun (r : Int32) (u : Unit) => Sum.inl r = R0.1 ∧ u = R0.2) (fun (_ : Unit) t => poC dC dI cy (w_X12_worth cy a0 gg gvn gdn) t) (va_A (w_X12_worth cy a0 gg gvn gdn) s.heap.size)) := ⟨_, rfl⟩
  obtain ⟨xx, hxx⟩ : ∃ xx, xx = (vx_X (fun (u : Unit) => u = R0.2) (fun E (_ : Unit) t => exE E R0.1 ∧ poC dC dI cy (w_X12_worth cy a0 gg gvn gdn) t) (va_A (w_X12_worth cy a0 gg gvn gdn) s.heap.size)) := ⟨_, rfl⟩
  rw [← hqq, ← hxx]
  generalize hAe : va_A (w_X12_worth cy a0 gg gvn gdn) s.heap.size = A at hD hqq hxx hX ⊢
  have hA : ∀ q : Nat, s.heap.size ≤ q → A q := fun q h => by rw [← hAe]; exact Or.inr h
  have hS : va_S A s.heap s.heap [] := va_S.rf
  have hl := lv_entry ([.ref (a0 0), .int x1, .int x2]) (n := 3) (Nat.le_of_ble_eq_true rfl)
  have hE : entryFrame m aa 3 = F0 m 0 ((lg_sl ([.ref (a0 0), .int x1, .int x2]) ++ List.replicate (3 - (lg_sl ([.ref (a0 0), .int x1, .int x2])).length) Slot.unset).toArray) [] := by rw [haa]; exact lg_entry_eq m _ 3
  refine W.eq hE ?_
  generalize (lg_sl ([.ref (a0 0), .int x1, .int x2]) ++ List.replicate (3 - (lg_sl ([.ref (a0 0), .int x1, .int x2])).length) Slot.unset).toArray = ls at hl ⊢
  have hl : lv_has ls 3 [(0, .ref (a0 0)), (1, .int x1), (2, .int x2)] := hl
  change W p l e rm_X12_worth s m aa below meth c s.heap [] 0 0 (vx_MQ below qq xx aa s 2 12 A) (F0 m 0 ls [])
  have hS0 := hS
  have lk0 := hts (.fieldLink RX12 20 "GoatDoors" "now" "LGoatDoors$Village;") (by decide +kernel)
  have lk1 := hts (.fieldLink RX12 130 "GoatDoors$Village" "doors" "LGoatDoors$Doors;") (by decide +kernel)
  have in_X12 : ∀ w ∈ wsX120, w ∈ wsX12_worth := by decide +kernel
  have in_X9 : ∀ w ∈ wsX90, w ∈ wsX12_worth := by decide +kernel
  obtain ⟨H, hH⟩ : ∃ H : Heap, H = s.heap := ⟨_, rfl⟩
  obtain ⟨locs, hlocs⟩ : ∃ locs : List Loc, locs = [] := ⟨_, rfl⟩
  have hS : va_S A s.heap H locs := by rw [hH, hlocs]; exact hS
  rw [← hH] at hP
  suffices hg : W p l e rm_X12_worth s m aa below meth c H locs 0 0 (vx_MQ below qq xx aa s 2 12 A) (F0 m 0 ls []) by subst hH; subst hlocs; exact hg
  unfold p_X12_worth at h
  refine lv_aload_n hx hb dX12_worth_0 rfl (lv_at hl 0 rfl) ?_
  refine lv_iload_n hx hb dX12_worth_1 rfl (lv_at hl 1 rfl) ?_
  obtain ⟨v1, hv2, h⟩ := ok_bind h
  refine cx_vv (w2 := fun (_ : Unit) => w_X12_worth cy a0 gg gvn gdn) (w2x := fun (_ : Unit) => w_X12_worth cy a0 gg gvn gdn) (As := [.int x1]) (rest := []) ⟨hx, hb, hml, hown, hts⟩ (c_X12_needDoor l dC dI cy z hl9 a0 gg gvn gdn x1 H.size v1 hv2) (cwV 1 hts gX12_worth_X12_needDoor rfl rfl rfl (by decide +kernel) ⟨Nat.le_of_ble_eq_true rfl, Nat.le_of_ble_eq_true rfl⟩) (va_recv hK hP (ci := 10) (q0 := 0) rfl rfl) cl_blindS (cl_preS hK hP hD hS hA hX [0, 1, 2, 3, 4, 5, 6, 7, 8, 9, 10, 11] (by decide) rfl) hP hD hS hA [0, 1, 2, 3, 4, 5, 6, 7, 8, 9, 10, 11] rfl rfl hl.1 rfl (lv_room (Nat.le_of_ble_eq_true rfl)) dX12_worth_2 ⟨Nat.le_of_ble_eq_true rfl, Nat.le_of_ble_eq_true rfl⟩ (cells' := 1) (slots' := 6) ⟨rfl, rfl⟩ (fun _ => updR [0, 1, 2, 3, 4, 5, 6, 7, 8, 9, 10, 11] rfl) (fun _ => updR [0, 1, 2, 3, 4, 5, 6, 7, 8, 9, 10, 11] rfl) (fun E ce q9 u H locs hw hE hP hD hS hc1 hc2 hc3 => ?_) (fun u H locs hw hP hD hS => ?_)
  · subst hw
    have hP : va_P (dC, dI) vwCl (w_X12_worth cy a0 gg gvn gdn) H := hP
    obtain ⟨hE1, hE2⟩ := exE_pass hE h
    exact vx_out (fun x9 hx9 => (htab x9 hx9).elim) hlocks hc1 hc2 hc3 (fun t h1 h2 => by rw [hxx]; exact ⟨_, hE2.symm, ⟨hE1, by rw [h1]; exact hP, va_K.moved h2 hK⟩, hS.F h1⟩) hS.2.2 (by decide) (by decide)
  obtain ⟨hw1, hw2⟩ := hw
  subst hw2
  rw [← hw1] at h
  dsimp only [xb] at h
  have hP : va_P (dC, dI) vwCl (w_X12_worth cy a0 gg gvn gdn) H := hP
  have hD : va_D A (w_X12_worth cy a0 gg gvn gdn) := hD
  refine lv_iload_n hx hb dX12_worth_5 rfl (lv_at hl 2 rfl) ?_
  obtain ⟨v3, hv4, h⟩ := ok_bind h
  refine cx_sv (w2 := fun (_ : Unit) => w_X12_worth cy a0 gg gvn gdn) (w2x := fun (_ : Unit) => w_X12_worth cy a0 gg gvn gdn) (As := [.int x2]) (rest := []) ⟨hx, hb, hml, hown, hts⟩ (c_X12_needBase l dC dI cy z hl9  x2 H.size v3 hv4) (va_cwS 1 hts gX12_worth_X12_needBase rfl rfl rfl (by decide +kernel) ⟨Nat.le_of_ble_eq_true rfl, Nat.le_of_ble_eq_true rfl⟩) cl_blindS (cl_preS hK hP hD hS hA hX [] (by decide) rfl) hP hD hS hA [] rfl rfl hl.1 rfl (lv_room (Nat.le_of_ble_eq_true rfl)) dX12_worth_6 ⟨Nat.le_of_ble_eq_true rfl, Nat.le_of_ble_eq_true rfl⟩ (cells' := 2) (slots' := 12) ⟨rfl, rfl⟩ (fun _ => updR [] rfl) (fun _ => updR [] rfl) (fun E ce q9 u H locs hw hE hP hD hS hc1 hc2 hc3 => ?_) (fun u H locs hw hP hD hS => ?_)
  · subst hw
    have hP : va_P (dC, dI) vwCl (w_X12_worth cy a0 gg gvn gdn) H := hP
    obtain ⟨hE1, hE2⟩ := exE_pass hE h
    exact vx_out (fun x9 hx9 => (htab x9 hx9).elim) hlocks hc1 hc2 hc3 (fun t h1 h2 => by rw [hxx]; exact ⟨_, hE2.symm, ⟨hE1, by rw [h1]; exact hP, va_K.moved h2 hK⟩, hS.F h1⟩) hS.2.2 (by decide) (by decide)
  obtain ⟨hw1, hw2⟩ := hw
  subst hw2
  rw [← hw1] at h
  dsimp only [xb] at h
  have hP : va_P (dC, dI) vwCl (w_X12_worth cy a0 gg gvn gdn) H := hP
  have hD : va_D A (w_X12_worth cy a0 gg gvn gdn) := hD
  refine lv_aload_n hx hb dX12_worth_9 rfl (lv_at hl 0 rfl) ?_
  refine va_get (D := (dC, dI)) (ci := 10) (v := .ref (a0 2)) (C := RX12) (T := TX12) (N := 17) hx hb hts in_X12 hown hK hP 0 rfl rfl 6 (by decide) lk0 (fun _ h9 => h9) rfl dX12_worth_10 ?_
  refine va_get (D := (dC, dI)) (ci := 7) (v := .ref (a0 3)) (C := RX9) (T := TX9) (N := 9) hx hb hts in_X9 hown hK hP 1 rfl rfl 2 (by decide) lk1 (fun _ h9 => h9) rfl dX12_worth_13 ?_
  refine lv_iload_n hx hb dX12_worth_16 rfl (lv_at hl 1 rfl) ?_
  refine lv_iload_n hx hb dX12_worth_17 rfl (lv_at hl 2 rfl) ?_
  obtain ⟨v5, hv6, h⟩ := ok_bind h
  refine cl_vi (w2 := fun (_ : Unit) => w_X12_worth cy a0 gg gvn gdn) (As := [.int x1, .int x2]) (rest := []) ⟨hx, hb, hml, hown, hts⟩ (c_X4_worthIn l dC dI cy (fun k => a0 (k + 3)) gdn x1 x2 H.size v5 hv6) (cwV 2 hts gX12_worth_X4_worthIn rfl rfl rfl (by decide +kernel) ⟨Nat.le_of_ble_eq_true rfl, Nat.le_of_ble_eq_true rfl⟩) (va_recv hK hP (ci := 2) (q0 := 2) rfl rfl) cl_blind (cl_pre hK hP hD [2, 3, 4, 5, 6] (by decide) rfl) hP hD hS hA [2, 3, 4, 5, 6] rfl rfl hl.1 rfl (lv_room (Nat.le_of_ble_eq_true rfl)) dX12_worth_18 ⟨Nat.le_of_ble_eq_true rfl, Nat.le_of_ble_eq_true rfl⟩ ⟨rfl, rfl⟩ (fun _ => updR [2, 3, 4, 5, 6] rfl) (fun r u H locs hw hP hD hS => ?_)
  have hw := hw.symm
  subst hw
  have hP : va_P (dC, dI) vwCl (w_X12_worth cy a0 gg gvn gdn) H := hP
  have hD : va_D A (w_X12_worth cy a0 gg gvn gdn) := hD
  refine vx_ret ?_
  exact W.iret (v := v5) hx hb hr (fun t ht hW => by rw [hqq]; have hh := Option.some.inj h; exact ⟨⟨v5, (()), rfl, ⟨fst_of hh, snd_of hh⟩, by rw [ht]; exact hP, va_K.moved hW.alike hK⟩, hS.F ht⟩) hS.2.2 dX12_worth_21

abbrev w_X12_needWhat (cy : Nat → ClassId)   : va_W := []
abbrev rm_X12_needWhat : Room := { frames := 6, cells := 1, slots := 6, locals := 90 }
def p_X12_needWhat  (x0 : Int32) (x1 : Int32) : Option ((Unit ⊕ Nat) × (Unit)) := (if x0 < (0 : Int32) then some (Sum.inr 1, ()) else (if x0 ≤ x1 then some (Sum.inl (), ()) else some (Sum.inr 1, ())))
set_option maxHeartbeats 1000000 in
set_option maxRecDepth 100000 in
theorem c_X12_needWhat (l : Launch) (dC : Nat → ClassId) (dI : Nat → Nat → Nat) (cy : Nat → ClassId) (z : Nat → Nat) (hl9 : l.stackTraces = false)   (x0 : Int32) (x1 : Int32) (sz : Nat) (R0 : (Unit ⊕ Nat) × (Unit)) (h : p_X12_needWhat x0 x1 = some R0) : vx_Met l yX12_needWhat wsX12_needWhat rm_X12_needWhat (va_Pc [.int x0, .int x1] (prS dC dI cy z (w_X12_needWhat cy  ) sz)) (va_Qv (fun (u : Unit) => Sum.inl () = R0.1 ∧ u = R0.2) (fun (_ : Unit) t => poC dC dI cy (w_X12_needWhat cy  ) t) (va_A (w_X12_needWhat cy  ) sz)) (vx_X (fun (u : Unit) => u = R0.2) (fun E (_ : Unit) t => exE E R0.1 ∧ poC dC dI cy (w_X12_needWhat cy  ) t) (va_A (w_X12_needWhat cy  ) sz)) 1 6 (va_A (w_X12_needWhat cy  ) sz) := by
  refine vx_ofW (cc := cX12_needWhat) (maxL := 2) (ret := none) (by decide) rfl ?_
  intro p e s m aa below meth c s₁ B hml htab hv
  obtain ⟨haa, ⟨hsz, hP, hK, hD0⟩, hX⟩ := hv
  have hx := B.exec
  have hb := B.bytes
  have hr := B.returns
  have hts := atoms_spec (ws := wsX12_needWhat) B.pre
  have hown : s.vm.findClass RX12 = some m.cls := findClass_of_methodNamed B.named
  have hlocks := B.notSynchronized
  subst hsz
  have hD := hD0.self (sz := s.heap.size)
  obtain ⟨qq, hqq⟩ : ∃ qq, qq = (va_Qv (fun (u : Unit) => Sum.inl () = R0.1 ∧ u = R0.2) (fun (_ : Unit) t => poC dC dI cy (w_X12_needWhat cy  ) t) (va_A (w_X12_needWhat cy  ) s.heap.size)) := ⟨_, rfl⟩
  obtain ⟨xx, hxx⟩ : ∃ xx, xx = (vx_X (fun (u : Unit) => u = R0.2) (fun E (_ : Unit) t => exE E R0.1 ∧ poC dC dI cy (w_X12_needWhat cy  ) t) (va_A (w_X12_needWhat cy  ) s.heap.size)) := ⟨_, rfl⟩
  rw [← hqq, ← hxx]
  generalize hAe : va_A (w_X12_needWhat cy  ) s.heap.size = A at hD hqq hxx hX ⊢
  have hA : ∀ q : Nat, s.heap.size ≤ q → A q := fun q h => by rw [← hAe]; exact Or.inr h
  have hS : va_S A s.heap s.heap [] := va_S.rf
  have hl := lv_entry ([.int x0, .int x1]) (n := 2) (Nat.le_of_ble_eq_true rfl)
  have hE : entryFrame m aa 2 = F0 m 0 ((lg_sl ([.int x0, .int x1]) ++ List.replicate (2 - (lg_sl ([.int x0, .int x1])).length) Slot.unset).toArray) [] := by rw [haa]; exact lg_entry_eq m _ 2
  refine W.eq hE ?_
  generalize (lg_sl ([.int x0, .int x1]) ++ List.replicate (2 - (lg_sl ([.int x0, .int x1])).length) Slot.unset).toArray = ls at hl ⊢
  have hl : lv_has ls 2 [(0, .int x0), (1, .int x1)] := hl
  change W p l e rm_X12_needWhat s m aa below meth c s.heap [] 0 0 (vx_MQ below qq xx aa s 1 6 A) (F0 m 0 ls [])
  have hS0 := hS
  have lk0 := hts (.classLink RX12 161 "java/util/NoSuchElementException") (by decide +kernel)
  have lk1 := hts (.initialized "java/util/NoSuchElementException") (by decide +kernel)
  have gd165 : ∀ w ∈ (vx_atS RX12 165 "java/util/NoSuchElementException" ["java/lang/RuntimeException", "java/lang/Exception"]).filter goodWord, w.before aa s = true := fun w hw => hts w ((show ∀ w ∈ (vx_atS RX12 165 "java/util/NoSuchElementException" ["java/lang/RuntimeException", "java/lang/Exception"]).filter goodWord, w ∈ wsX12_needWhat by decide +kernel) w hw)
  obtain ⟨H, hH⟩ : ∃ H : Heap, H = s.heap := ⟨_, rfl⟩
  obtain ⟨locs, hlocs⟩ : ∃ locs : List Loc, locs = [] := ⟨_, rfl⟩
  have hS : va_S A s.heap H locs := by rw [hH, hlocs]; exact hS
  rw [← hH] at hP
  suffices hg : W p l e rm_X12_needWhat s m aa below meth c H locs 0 0 (vx_MQ below qq xx aa s 1 6 A) (F0 m 0 ls []) by subst hH; subst hlocs; exact hg
  unfold p_X12_needWhat at h
  refine lv_iload_n hx hb dX12_needWhat_0 rfl (lv_at hl 0 rfl) ?_
  refine lv_if_lt (tgt := 9) hx hb dX12_needWhat_1 (by decide) (fun c1 => ?_) (fun c1 => ?_)
  · rw [if_pos c1] at h
    refine vx_throwSW (XC := xx) (text := "nothing such is told") (names := ["java/lang/RuntimeException", "java/lang/Exception"]) hx hb hl9 hown (by decide) (by decide) lk0 lk1 (hX.tx 367 "nothing such is told" (by decide)) (ex_at165 gd165 hX) (by decide +kernel) hX.us hX.ss hS (by rw [hml]; exact hl.1) dX12_needWhat_9 dX12_needWhat_12 dX12_needWhat_13 dX12_needWhat_16 dX12_needWhat_19 (fun x9 hx9 => (htab x9 hx9).elim) (Nat.le_of_ble_eq_true rfl) (Nat.le_of_ble_eq_true rfl) (Nat.le_of_ble_eq_true rfl) (Nat.le_of_ble_eq_true rfl) hlocks (fun t h1 h2 h3 => by rw [hxx]; have hh := Option.some.inj h; exact ⟨(()), snd_of hh, ⟨exE_1 (fst_of hh).symm, ex_po hP hK h1 h3⟩, ex_F hS h2 h3⟩) hS.2.2 (by decide) (by decide)
  · rw [if_neg c1] at h
    refine lv_iload_n hx hb dX12_needWhat_4 rfl (lv_at hl 0 rfl) ?_
    refine lv_iload_n hx hb dX12_needWhat_5 rfl (lv_at hl 1 rfl) ?_
    refine lv_icmp_le (tgt := 20) hx hb dX12_needWhat_6 (by decide) (fun c2 => ?_) (fun c2 => ?_)
    · rw [if_pos c2] at h
      refine vx_ret ?_
      refine W.widen (k := 1) (n := 6) (by decide) (by decide) ?_
      exact W.vret hx hb hr (fun t ht hW => by rw [hqq]; have hh := Option.some.inj h; exact ⟨⟨(()), rfl, ⟨fst_of hh, snd_of hh⟩, by rw [ht]; exact hP, va_K.moved hW.alike hK⟩, hS.F ht⟩) hS.2.2 dX12_needWhat_20
    · rw [if_neg c2] at h
      refine vx_throwSW (XC := xx) (text := "nothing such is told") (names := ["java/lang/RuntimeException", "java/lang/Exception"]) hx hb hl9 hown (by decide) (by decide) lk0 lk1 (hX.tx 367 "nothing such is told" (by decide)) (ex_at165 gd165 hX) (by decide +kernel) hX.us hX.ss hS (by rw [hml]; exact hl.1) dX12_needWhat_9 dX12_needWhat_12 dX12_needWhat_13 dX12_needWhat_16 dX12_needWhat_19 (fun x9 hx9 => (htab x9 hx9).elim) (Nat.le_of_ble_eq_true rfl) (Nat.le_of_ble_eq_true rfl) (Nat.le_of_ble_eq_true rfl) (Nat.le_of_ble_eq_true rfl) hlocks (fun t h1 h2 h3 => by rw [hxx]; have hh := Option.some.inj h; exact ⟨(()), snd_of hh, ⟨exE_1 (fst_of hh).symm, ex_po hP hK h1 h3⟩, ex_F hS h2 h3⟩) hS.2.2 (by decide) (by decide)

abbrev w_X12_best (cy : Nat → ClassId) (a0 : Nat → Nat) (gg : Int32 × Int32 × Int32 × Int32 × Int32 × Int32) (gvn : Int32 × Int32 × (Nat → Int32) × (Nat → Int32) × (Nat → Int32) × (Nat → Int32) × (Nat → Int32)) (gdn : Int32 × Int32 × (Nat → Int32) × (Nat → Int32) × (Nat → Int32) × (Nat → Int32)) : va_W := [(a0 0, .inr (10, [.ref (a0 1), .int (gg.1), .int (gg.2.1), .int (gg.2.2.1), .int (gg.2.2.2.1), .int (gg.2.2.2.2.1), .ref (a0 2), .ref (a0 17), .ref (a0 32), .int (gg.2.2.2.2.2), .ref (a0 47), .ref (a0 48), .ref (a0 49), .ref (a0 50), .ref (a0 68), .ref (a0 78), .ref (a0 80)])), (a0 2, .inr (7, [.int (gvn.1), .int (gvn.2.1), .ref (a0 3), .ref (a0 8), .ref (a0 12), .ref (a0 13), .ref (a0 14), .ref (a0 15), .ref (a0 16)])), (a0 3, .inr (2, [.int (gdn.1), .int (gdn.2.1), .ref (a0 4), .ref (a0 5), .ref (a0 6), .ref (a0 7)])), (a0 4, .inl (cy 1, 10, .inl (gdn.2.2.1))), (a0 5, .inl (cy 1, 10, .inl (gdn.2.2.2.1))), (a0 6, .inl (cy 1, 10, .inl (gdn.2.2.2.2.1))), (a0 7, .inl (cy 1, 50, .inl (gdn.2.2.2.2.2))), (a0 12, .inl (cy 1, 5, .inl (gvn.2.2.1))), (a0 13, .inl (cy 1, 5, .inl (gvn.2.2.2.1))), (a0 14, .inl (cy 1, 5, .inl (gvn.2.2.2.2.1))), (a0 15, .inl (cy 1, 5, .inl (gvn.2.2.2.2.2.1))), (a0 16, .inl (cy 1, 5, .inl (gvn.2.2.2.2.2.2)))]
abbrev rm_X12_best : Room := { frames := 7, cells := 2, slots := 12, locals := 140 }
def p_X12_best_66 (k29 : Int32 → Int32 → Int32 → Int64 → Int32 → Option ((Int32 ⊕ Nat) × (Unit))) (gg : Int32 × Int32 × Int32 × Int32 × Int32 × Int32) (gvn : Int32 × Int32 × (Nat → Int32) × (Nat → Int32) × (Nat → Int32) × (Nat → Int32) × (Nat → Int32)) (gdn : Int32 × Int32 × (Nat → Int32) × (Nat → Int32) × (Nat → Int32) × (Nat → Int32))  (x1 : Int32) (x2 : Int32) (x3 : Int32) (x4 : Int64) (x6 : Int32) : Option ((Int32 ⊕ Nat) × (Unit)) := k29 x1 x2 x3 x4 (x6 + (1 : Int32))
def p_X12_best_29 (gg : Int32 × Int32 × Int32 × Int32 × Int32 × Int32) (gvn : Int32 × Int32 × (Nat → Int32) × (Nat → Int32) × (Nat → Int32) × (Nat → Int32) × (Nat → Int32)) (gdn : Int32 × Int32 × (Nat → Int32) × (Nat → Int32) × (Nat → Int32) × (Nat → Int32)) : Nat → Int32 → Int32 → Int32 → Int64 → Int32 → Option ((Int32 ⊕ Nat) × (Unit))
  | 0, _, _, _, _, _ => none
  | n + 1, x1, x2, x3, x4, x6 => (if (40 : Int32) < x6 then (if x2 = (0 : Int32) then some (Sum.inl x3, ()) else some (Sum.inl x4.toInt32, ())) else ((p_X4_netOf gdn x1 x6).bind fun v3 => (if (lg_cmp v3 x4) ≤ (0 : Int32) then p_X12_best_66 (p_X12_best_29 gg gvn gdn n) gg gvn gdn x1 x2 x3 x4 x6 else p_X12_best_66 (p_X12_best_29 gg gvn gdn n) gg gvn gdn x1 x2 x6 v3 x6)))
def p_X12_best (gg : Int32 × Int32 × Int32 × Int32 × Int32 × Int32) (gvn : Int32 × Int32 × (Nat → Int32) × (Nat → Int32) × (Nat → Int32) × (Nat → Int32) × (Nat → Int32)) (gdn : Int32 × Int32 × (Nat → Int32) × (Nat → Int32) × (Nat → Int32) × (Nat → Int32)) (x1 : Int32) (x2 : Int32) : Option ((Int32 ⊕ Nat) × (Unit)) := ((p_X12_needOwner gg gvn x1).bind fun v1 => xb v1.1 (fun _r => ((p_X12_needWhat x2 (1 : Int32)).bind fun v3 => xb v3.1 (fun _r => ((p_X4_netOf gdn x1 (0 : Int32)).bind fun v5 => p_X12_best_29 gg gvn gdn fu x1 x2 (0 : Int32) v5 (1 : Int32))) (fun k => some (Sum.inr k, ())))) (fun k => some (Sum.inr k, ())))
set_option maxHeartbeats 1000000 in
set_option maxRecDepth 100000 in
theorem c_X12_best (l : Launch) (dC : Nat → ClassId) (dI : Nat → Nat → Nat) (cy : Nat → ClassId) (z : Nat → Nat) (hl9 : l.stackTraces = false) (a0 : Nat → Nat) (gg : Int32 × Int32 × Int32 × Int32 × Int32 × Int32) (gvn : Int32 × Int32 × (Nat → Int32) × (Nat → Int32) × (Nat → Int32) × (Nat → Int32) × (Nat → Int32)) (gdn : Int32 × Int32 × (Nat → Int32) × (Nat → Int32) × (Nat → Int32) × (Nat → Int32)) (x1 : Int32) (x2 : Int32) (sz : Nat) (R0 : (Int32 ⊕ Nat) × (Unit)) (h : p_X12_best gg gvn gdn x1 x2 = some R0) : vx_Met l yX12_best wsX12_best rm_X12_best (va_Pc [.ref (a0 0), .int x1, .int x2] (prS dC dI cy z (w_X12_best cy a0 gg gvn gdn) sz)) (va_Qi (fun (r : Int32) (u : Unit) => Sum.inl r = R0.1 ∧ u = R0.2) (fun (_ : Unit) t => poC dC dI cy (w_X12_best cy a0 gg gvn gdn) t) (va_A (w_X12_best cy a0 gg gvn gdn) sz)) (vx_X (fun (u : Unit) => u = R0.2) (fun E (_ : Unit) t => exE E R0.1 ∧ poC dC dI cy (w_X12_best cy a0 gg gvn gdn) t) (va_A (w_X12_best cy a0 gg gvn gdn) sz)) 2 12 (va_A (w_X12_best cy a0 gg gvn gdn) sz) := by
  refine vx_ofW (cc := cX12_best) (maxL := 9) (ret := (some .int)) (by decide) rfl ?_
  intro p e s m aa below meth c s₁ B hml htab hv
  obtain ⟨haa, ⟨hsz, hP, hK, hD0⟩, hX⟩ := hv
  have hx := B.exec
  have hb := B.bytes
  have hr := B.returns
  have hts := atoms_spec (ws := wsX12_best) B.pre
  have hown : s.vm.findClass RX12 = some m.cls := findClass_of_methodNamed B.named
  have hlocks := B.notSynchronized
  subst hsz
  have hD := hD0.self (sz := s.heap.size)
  obtain ⟨qq, hqq⟩ : ∃ qq, qq = (va_Qi (fun (r : Int32) (u : Unit) => Sum.inl r = R0.1 ∧ u = R0.2) (fun (_ : Unit) t => poC dC dI cy (w_X12_best cy a0 gg gvn gdn) t) (va_A (w_X12_best cy a0 gg gvn gdn) s.heap.size)) := ⟨_, rfl⟩
  obtain ⟨xx, hxx⟩ : ∃ xx, xx = (vx_X (fun (u : Unit) => u = R0.2) (fun E (_ : Unit) t => exE E R0.1 ∧ poC dC dI cy (w_X12_best cy a0 gg gvn gdn) t) (va_A (w_X12_best cy a0 gg gvn gdn) s.heap.size)) := ⟨_, rfl⟩
  rw [← hqq, ← hxx]
  generalize hAe : va_A (w_X12_best cy a0 gg gvn gdn) s.heap.size = A at hD hqq hxx hX ⊢
  have hA : ∀ q : Nat, s.heap.size ≤ q → A q := fun q h => by rw [← hAe]; exact Or.inr h
  have hS : va_S A s.heap s.heap [] := va_S.rf
  have hl := lv_entry ([.ref (a0 0), .int x1, .int x2]) (n := 9) (Nat.le_of_ble_eq_true rfl)
  have hE : entryFrame m aa 9 = F0 m 0 ((lg_sl ([.ref (a0 0), .int x1, .int x2]) ++ List.replicate (9 - (lg_sl ([.ref (a0 0), .int x1, .int x2])).length) Slot.unset).toArray) [] := by rw [haa]; exact lg_entry_eq m _ 9
  refine W.eq hE ?_
  generalize (lg_sl ([.ref (a0 0), .int x1, .int x2]) ++ List.replicate (9 - (lg_sl ([.ref (a0 0), .int x1, .int x2])).length) Slot.unset).toArray = ls at hl ⊢
  have hl : lv_has ls 9 [(0, .ref (a0 0)), (1, .int x1), (2, .int x2)] := hl
  change W p l e rm_X12_best s m aa below meth c s.heap [] 0 0 (vx_MQ below qq xx aa s 2 12 A) (F0 m 0 ls [])
  have hS0 := hS
  have lk0 := hts (.fieldLink RX12 20 "GoatDoors" "now" "LGoatDoors$Village;") (by decide +kernel)
  have lk1 := hts (.fieldLink RX12 130 "GoatDoors$Village" "doors" "LGoatDoors$Doors;") (by decide +kernel)
  have in_X12 : ∀ w ∈ wsX120, w ∈ wsX12_best := by decide +kernel
  have in_X9 : ∀ w ∈ wsX90, w ∈ wsX12_best := by decide +kernel
  have c66 : ∀ (k29 : Int32 → Int32 → Int32 → Int64 → Int32 → Option ((Int32 ⊕ Nat) × (Unit))) (hk29 : ∀ (x1 : Int32) (x2 : Int32) (x3 : Int32) (x4 : Int64) (x6 : Int32) (H : Heap) (locs : List Loc) (ls : Array Slot), k29 x1 x2 x3 x4 x6 = some R0 → va_P (dC, dI) vwCl (w_X12_best cy a0 gg gvn gdn) H → va_D A (w_X12_best cy a0 gg gvn gdn) → va_S A s.heap H locs → lv_has ls 9 [(0, .ref (a0 0)), (1, .int x1), (2, .int x2), (3, .int x3), (4, .long x4), (6, .int x6)] → W p l e rm_X12_best s m aa below meth c H locs 2 12 (vx_MQ below qq xx aa s 2 12 A) (F0 m 29 ls [])), ∀ (x1 : Int32) (x2 : Int32) (x3 : Int32) (x4 : Int64) (x6 : Int32) (H : Heap) (locs : List Loc) (ls : Array Slot), p_X12_best_66 k29 gg gvn gdn x1 x2 x3 x4 x6 = some R0 → va_P (dC, dI) vwCl (w_X12_best cy a0 gg gvn gdn) H → va_D A (w_X12_best cy a0 gg gvn gdn) → va_S A s.heap H locs → lv_has ls 9 [(0, .ref (a0 0)), (1, .int x1), (2, .int x2), (3, .int x3), (4, .long x4), (6, .int x6)] → W p l e rm_X12_best s m aa below meth c H locs 2 12 (vx_MQ below qq xx aa s 2 12 A) (F0 m 66 ls []) := by
    intro k29 hk29 x1 x2 x3 x4 x6 H locs ls h hP hD hS hl
    unfold p_X12_best_66 at h
    refine lv_iinc (v := (x6 + (1 : Int32))) (lv' := [(6, .int (x6 + (1 : Int32))), (0, .ref (a0 0)), (1, .int x1), (2, .int x2), (3, .int x3), (4, .long x4)]) hx hb dX12_best_66 hl (k := 5) rfl rfl (by decide) rfl (fun ls hl => ?_)
    refine lv_goto (tgt := 29) hx hb dX12_best_69 (by decide) ?_
    exact hk29 x1 x2 x3 x4 (x6 + (1 : Int32)) H locs ls h hP hD hS (lv_sub hl [1, 2, 3, 4, 5, 0] rfl)
  have c29 : ∀ (n : Nat), ∀ (x1 : Int32) (x2 : Int32) (x3 : Int32) (x4 : Int64) (x6 : Int32) (H : Heap) (locs : List Loc) (ls : Array Slot), p_X12_best_29 gg gvn gdn n x1 x2 x3 x4 x6 = some R0 → va_P (dC, dI) vwCl (w_X12_best cy a0 gg gvn gdn) H → va_D A (w_X12_best cy a0 gg gvn gdn) → va_S A s.heap H locs → lv_has ls 9 [(0, .ref (a0 0)), (1, .int x1), (2, .int x2), (3, .int x3), (4, .long x4), (6, .int x6)] → W p l e rm_X12_best s m aa below meth c H locs 2 12 (vx_MQ below qq xx aa s 2 12 A) (F0 m 29 ls []) := by
    intro  n
    induction n with
    | zero => intro x1 x2 x3 x4 x6 H locs ls h; exact no_some h
    | succ n ih =>
      intro x1 x2 x3 x4 x6 H locs ls h hP hD hS hl
      rw [p_X12_best_29.eq_2] at h
      refine lv_iload hx hb dX12_best_29 (lv_at hl 5 rfl) ?_
      refine lv_bipush (v := (40 : Int32)) hx hb dX12_best_31 (by decide) ?_
      refine lv_icmp_gt (tgt := 72) hx hb dX12_best_33 (by decide) (fun c1 => ?_) (fun c1 => ?_)
      · rw [if_pos c1] at h
        refine lv_iload_n hx hb dX12_best_72 rfl (lv_at hl 2 rfl) ?_
        refine lv_if_ne (tgt := 80) hx hb dX12_best_73 (by decide) (fun c2 => ?_) (fun c2 => ?_)
        · rw [if_neg c2] at h
          refine lv_lload hx hb dX12_best_80 (lv_at hl 4 rfl) ?_
          refine lv_l2i hx hb dX12_best_82 rfl ?_
          refine vx_ret ?_
          exact W.iret (v := x4.toInt32) hx hb hr (fun t ht hW => by rw [hqq]; have hh := Option.some.inj h; exact ⟨⟨x4.toInt32, (()), rfl, ⟨fst_of hh, snd_of hh⟩, by rw [ht]; exact hP, va_K.moved hW.alike hK⟩, hS.F ht⟩) hS.2.2 dX12_best_83
        · rw [if_pos c2] at h
          refine lv_iload_n hx hb dX12_best_76 rfl (lv_at hl 3 rfl) ?_
          refine lv_goto (tgt := 83) hx hb dX12_best_77 (by decide) ?_
          refine vx_ret ?_
          exact W.iret (v := x3) hx hb hr (fun t ht hW => by rw [hqq]; have hh := Option.some.inj h; exact ⟨⟨x3, (()), rfl, ⟨fst_of hh, snd_of hh⟩, by rw [ht]; exact hP, va_K.moved hW.alike hK⟩, hS.F ht⟩) hS.2.2 dX12_best_83
      · rw [if_neg c1] at h
        refine lv_aload_n hx hb dX12_best_36 rfl (lv_at hl 0 rfl) ?_
        refine va_get (D := (dC, dI)) (ci := 10) (v := .ref (a0 2)) (C := RX12) (T := TX12) (N := 17) hx hb hts in_X12 hown hK hP 0 rfl rfl 6 (by decide) lk0 (fun _ h9 => h9) rfl dX12_best_37 ?_
        refine va_get (D := (dC, dI)) (ci := 7) (v := .ref (a0 3)) (C := RX9) (T := TX9) (N := 9) hx hb hts in_X9 hown hK hP 1 rfl rfl 2 (by decide) lk1 (fun _ h9 => h9) rfl dX12_best_40 ?_
        refine lv_iload_n hx hb dX12_best_43 rfl (lv_at hl 1 rfl) ?_
        refine lv_iload hx hb dX12_best_44 (lv_at hl 5 rfl) ?_
        obtain ⟨v3, hv4, h⟩ := ok_bind h
        refine cl_vl (w2 := fun (_ : Unit) => w_X12_best cy a0 gg gvn gdn) (As := [.int x1, .int x6]) (rest := []) ⟨hx, hb, hml, hown, hts⟩ (c_X4_netOf l dC dI cy (fun k => a0 (k + 3)) gdn x1 x6 H.size v3 hv4) (cwV 2 hts gX12_best_X4_netOf rfl rfl rfl (by decide +kernel) ⟨Nat.le_of_ble_eq_true rfl, Nat.le_of_ble_eq_true rfl⟩) (va_recv hK hP (ci := 2) (q0 := 2) rfl rfl) cl_blind (cl_pre hK hP hD [2, 3, 4, 5, 6] (by decide) rfl) hP hD hS hA [2, 3, 4, 5, 6] rfl rfl hl.1 rfl (lv_room (Nat.le_of_ble_eq_true rfl)) dX12_best_46 ⟨Nat.le_of_ble_eq_true rfl, Nat.le_of_ble_eq_true rfl⟩ ⟨rfl, rfl⟩ (fun _ => updR [2, 3, 4, 5, 6] rfl) (fun r u H locs hw hP hD hS => ?_)
        have hw := hw.symm
        subst hw
        have hP : va_P (dC, dI) vwCl (w_X12_best cy a0 gg gvn gdn) H := hP
        have hD : va_D A (w_X12_best cy a0 gg gvn gdn) := hD
        refine lv_lstore (lv' := [(7, .long v3), (0, .ref (a0 0)), (1, .int x1), (2, .int x2), (3, .int x3), (4, .long x4), (6, .int x6)]) hx hb dX12_best_49 hl (by decide) rfl (fun ls hl => ?_)
        refine lv_lload hx hb dX12_best_51 (lv_at hl 0 rfl) ?_
        refine lv_lload hx hb dX12_best_53 (lv_at hl 5 rfl) ?_
        refine W.lcmp hx hb dX12_best_55 ?_
        refine lv_if_le (tgt := 66) hx hb dX12_best_56 (by decide) (fun c5 => ?_) (fun c5 => ?_)
        · rw [if_pos c5] at h
          exact c66 (p_X12_best_29 gg gvn gdn n) ih x1 x2 x3 x4 x6 H locs ls h hP hD hS (lv_sub hl [1, 2, 3, 4, 5, 6] rfl)
        · rw [if_neg c5] at h
          refine lv_lload hx hb dX12_best_59 (lv_at hl 0 rfl) ?_
          refine lv_lstore (lv' := [(4, .long v3), (7, .long v3), (0, .ref (a0 0)), (1, .int x1), (2, .int x2), (3, .int x3), (6, .int x6)]) hx hb dX12_best_61 hl (by decide) rfl (fun ls hl => ?_)
          refine lv_iload hx hb dX12_best_63 (lv_at hl 6 rfl) ?_
          refine lv_istore_n (lv' := [(3, .int x6), (4, .long v3), (7, .long v3), (0, .ref (a0 0)), (1, .int x1), (2, .int x2), (6, .int x6)]) hx hb dX12_best_65 rfl hl (by decide) rfl (fun ls hl => ?_)
          exact c66 (p_X12_best_29 gg gvn gdn n) ih x1 x2 x6 v3 x6 H locs ls h hP hD hS (lv_sub hl [3, 4, 5, 0, 1, 6] rfl)
  obtain ⟨H, hH⟩ : ∃ H : Heap, H = s.heap := ⟨_, rfl⟩
  obtain ⟨locs, hlocs⟩ : ∃ locs : List Loc, locs = [] := ⟨_, rfl⟩
  have hS : va_S A s.heap H locs := by rw [hH, hlocs]; exact hS
  rw [← hH] at hP
  suffices hg : W p l e rm_X12_best s m aa below meth c H locs 0 0 (vx_MQ below qq xx aa s 2 12 A) (F0 m 0 ls []) by subst hH; subst hlocs; exact hg
  unfold p_X12_best at h
  refine lv_aload_n hx hb dX12_best_0 rfl (lv_at hl 0 rfl) ?_
  refine lv_iload_n hx hb dX12_best_1 rfl (lv_at hl 1 rfl) ?_
  obtain ⟨v1, hv2, h⟩ := ok_bind h
  refine cx_vv (w2 := fun (_ : Unit) => w_X12_best cy a0 gg gvn gdn) (w2x := fun (_ : Unit) => w_X12_best cy a0 gg gvn gdn) (As := [.int x1]) (rest := []) ⟨hx, hb, hml, hown, hts⟩ (c_X12_needOwner l dC dI cy z hl9 a0 gg gvn x1 H.size v1 hv2) (cwV 1 hts gX12_best_X12_needOwner rfl rfl rfl (by decide +kernel) ⟨Nat.le_of_ble_eq_true rfl, Nat.le_of_ble_eq_true rfl⟩) (va_recv hK hP (ci := 10) (q0 := 0) rfl rfl) cl_blindS (cl_preS hK hP hD hS hA hX [0, 1, 7, 8, 9, 10, 11] (by decide) rfl) hP hD hS hA [0, 1, 7, 8, 9, 10, 11] rfl rfl hl.1 rfl (lv_room (Nat.le_of_ble_eq_true rfl)) dX12_best_2 ⟨Nat.le_of_ble_eq_true rfl, Nat.le_of_ble_eq_true rfl⟩ (cells' := 1) (slots' := 6) ⟨rfl, rfl⟩ (fun _ => updR [0, 1, 7, 8, 9, 10, 11] rfl) (fun _ => updR [0, 1, 7, 8, 9, 10, 11] rfl) (fun E ce q9 u H locs hw hE hP hD hS hc1 hc2 hc3 => ?_) (fun u H locs hw hP hD hS => ?_)
  · subst hw
    have hP : va_P (dC, dI) vwCl (w_X12_best cy a0 gg gvn gdn) H := hP
    obtain ⟨hE1, hE2⟩ := exE_pass hE h
    exact vx_out (fun x9 hx9 => (htab x9 hx9).elim) hlocks hc1 hc2 hc3 (fun t h1 h2 => by rw [hxx]; exact ⟨_, hE2.symm, ⟨hE1, by rw [h1]; exact hP, va_K.moved h2 hK⟩, hS.F h1⟩) hS.2.2 (by decide) (by decide)
  obtain ⟨hw1, hw2⟩ := hw
  subst hw2
  rw [← hw1] at h
  dsimp only [xb] at h
  have hP : va_P (dC, dI) vwCl (w_X12_best cy a0 gg gvn gdn) H := hP
  have hD : va_D A (w_X12_best cy a0 gg gvn gdn) := hD
  refine lv_iload_n hx hb dX12_best_5 rfl (lv_at hl 2 rfl) ?_
  refine lv_iconst (v := (1 : Int32)) hx hb dX12_best_6 (by decide) ?_
  obtain ⟨v3, hv4, h⟩ := ok_bind h
  refine cx_sv (w2 := fun (_ : Unit) => w_X12_best cy a0 gg gvn gdn) (w2x := fun (_ : Unit) => w_X12_best cy a0 gg gvn gdn) (As := [.int x2, .int (1 : Int32)]) (rest := []) ⟨hx, hb, hml, hown, hts⟩ (c_X12_needWhat l dC dI cy z hl9  x2 (1 : Int32) H.size v3 hv4) (va_cwS 2 hts gX12_best_X12_needWhat rfl rfl rfl (by decide +kernel) ⟨Nat.le_of_ble_eq_true rfl, Nat.le_of_ble_eq_true rfl⟩) cl_blindS (cl_preS hK hP hD hS hA hX [] (by decide) rfl) hP hD hS hA [] rfl rfl hl.1 rfl (lv_room (Nat.le_of_ble_eq_true rfl)) dX12_best_7 ⟨Nat.le_of_ble_eq_true rfl, Nat.le_of_ble_eq_true rfl⟩ (cells' := 2) (slots' := 12) ⟨rfl, rfl⟩ (fun _ => updR [] rfl) (fun _ => updR [] rfl) (fun E ce q9 u H locs hw hE hP hD hS hc1 hc2 hc3 => ?_) (fun u H locs hw hP hD hS => ?_)
  · subst hw
    have hP : va_P (dC, dI) vwCl (w_X12_best cy a0 gg gvn gdn) H := hP
    obtain ⟨hE1, hE2⟩ := exE_pass hE h
    exact vx_out (fun x9 hx9 => (htab x9 hx9).elim) hlocks hc1 hc2 hc3 (fun t h1 h2 => by rw [hxx]; exact ⟨_, hE2.symm, ⟨hE1, by rw [h1]; exact hP, va_K.moved h2 hK⟩, hS.F h1⟩) hS.2.2 (by decide) (by decide)
  obtain ⟨hw1, hw2⟩ := hw
  subst hw2
  rw [← hw1] at h
  dsimp only [xb] at h
  have hP : va_P (dC, dI) vwCl (w_X12_best cy a0 gg gvn gdn) H := hP
  have hD : va_D A (w_X12_best cy a0 gg gvn gdn) := hD
  refine lv_iconst (v := (0 : Int32)) hx hb dX12_best_10 (by decide) ?_
  refine lv_istore_n (lv' := [(3, .int (0 : Int32)), (0, .ref (a0 0)), (1, .int x1), (2, .int x2)]) hx hb dX12_best_11 rfl hl (by decide) rfl (fun ls hl => ?_)
  refine lv_aload_n hx hb dX12_best_12 rfl (lv_at hl 1 rfl) ?_
  refine va_get (D := (dC, dI)) (ci := 10) (v := .ref (a0 2)) (C := RX12) (T := TX12) (N := 17) hx hb hts in_X12 hown hK hP 0 rfl rfl 6 (by decide) lk0 (fun _ h9 => h9) rfl dX12_best_13 ?_
  refine va_get (D := (dC, dI)) (ci := 7) (v := .ref (a0 3)) (C := RX9) (T := TX9) (N := 9) hx hb hts in_X9 hown hK hP 1 rfl rfl 2 (by decide) lk1 (fun _ h9 => h9) rfl dX12_best_16 ?_
  refine lv_iload_n hx hb dX12_best_19 rfl (lv_at hl 2 rfl) ?_
  refine lv_iload_n hx hb dX12_best_20 rfl (lv_at hl 0 rfl) ?_
  obtain ⟨v5, hv6, h⟩ := ok_bind h
  refine cl_vl (w2 := fun (_ : Unit) => w_X12_best cy a0 gg gvn gdn) (As := [.int x1, .int (0 : Int32)]) (rest := []) ⟨hx, hb, hml, hown, hts⟩ (c_X4_netOf l dC dI cy (fun k => a0 (k + 3)) gdn x1 (0 : Int32) H.size v5 hv6) (cwV 2 hts gX12_best_X4_netOf rfl rfl rfl (by decide +kernel) ⟨Nat.le_of_ble_eq_true rfl, Nat.le_of_ble_eq_true rfl⟩) (va_recv hK hP (ci := 2) (q0 := 2) rfl rfl) cl_blind (cl_pre hK hP hD [2, 3, 4, 5, 6] (by decide) rfl) hP hD hS hA [2, 3, 4, 5, 6] rfl rfl hl.1 rfl (lv_room (Nat.le_of_ble_eq_true rfl)) dX12_best_21 ⟨Nat.le_of_ble_eq_true rfl, Nat.le_of_ble_eq_true rfl⟩ ⟨rfl, rfl⟩ (fun _ => updR [2, 3, 4, 5, 6] rfl) (fun r u H locs hw hP hD hS => ?_)
  have hw := hw.symm
  subst hw
  have hP : va_P (dC, dI) vwCl (w_X12_best cy a0 gg gvn gdn) H := hP
  have hD : va_D A (w_X12_best cy a0 gg gvn gdn) := hD
  refine lv_lstore (lv' := [(4, .long v5), (3, .int (0 : Int32)), (0, .ref (a0 0)), (1, .int x1), (2, .int x2)]) hx hb dX12_best_24 hl (by decide) rfl (fun ls hl => ?_)
  refine lv_iconst (v := (1 : Int32)) hx hb dX12_best_26 (by decide) ?_
  refine lv_istore (lv' := [(6, .int (1 : Int32)), (4, .long v5), (3, .int (0 : Int32)), (0, .ref (a0 0)), (1, .int x1), (2, .int x2)]) hx hb dX12_best_27 hl (by decide) rfl (fun ls hl => ?_)
  exact c29 fu x1 x2 (0 : Int32) v5 (1 : Int32) H locs ls h hP hD hS (lv_sub hl [3, 4, 5, 2, 1, 0] rfl)

abbrev w_X12_needBases (cy : Nat → ClassId)   : va_W := []
abbrev rm_X12_needBases : Room := { frames := 6, cells := 1, slots := 6, locals := 90 }
def p_X12_needBases  (x0 : Int32) (x1 : Int32) : Option ((Unit ⊕ Nat) × (Unit)) := (if x0 < (0 : Int32) then some (Sum.inr 2, ()) else (if (40 : Int32) < x1 then some (Sum.inr 2, ()) else (if x0 ≤ x1 then some (Sum.inl (), ()) else some (Sum.inr 2, ()))))
set_option maxHeartbeats 1000000 in
set_option maxRecDepth 100000 in
theorem c_X12_needBases (l : Launch) (dC : Nat → ClassId) (dI : Nat → Nat → Nat) (cy : Nat → ClassId) (z : Nat → Nat) (hl9 : l.stackTraces = false)   (x0 : Int32) (x1 : Int32) (sz : Nat) (R0 : (Unit ⊕ Nat) × (Unit)) (h : p_X12_needBases x0 x1 = some R0) : vx_Met l yX12_needBases wsX12_needBases rm_X12_needBases (va_Pc [.int x0, .int x1] (prS dC dI cy z (w_X12_needBases cy  ) sz)) (va_Qv (fun (u : Unit) => Sum.inl () = R0.1 ∧ u = R0.2) (fun (_ : Unit) t => poC dC dI cy (w_X12_needBases cy  ) t) (va_A (w_X12_needBases cy  ) sz)) (vx_X (fun (u : Unit) => u = R0.2) (fun E (_ : Unit) t => exE E R0.1 ∧ poC dC dI cy (w_X12_needBases cy  ) t) (va_A (w_X12_needBases cy  ) sz)) 1 6 (va_A (w_X12_needBases cy  ) sz) := by
  refine vx_ofW (cc := cX12_needBases) (maxL := 2) (ret := none) (by decide) rfl ?_
  intro p e s m aa below meth c s₁ B hml htab hv
  obtain ⟨haa, ⟨hsz, hP, hK, hD0⟩, hX⟩ := hv
  have hx := B.exec
  have hb := B.bytes
  have hr := B.returns
  have hts := atoms_spec (ws := wsX12_needBases) B.pre
  have hown : s.vm.findClass RX12 = some m.cls := findClass_of_methodNamed B.named
  have hlocks := B.notSynchronized
  subst hsz
  have hD := hD0.self (sz := s.heap.size)
  obtain ⟨qq, hqq⟩ : ∃ qq, qq = (va_Qv (fun (u : Unit) => Sum.inl () = R0.1 ∧ u = R0.2) (fun (_ : Unit) t => poC dC dI cy (w_X12_needBases cy  ) t) (va_A (w_X12_needBases cy  ) s.heap.size)) := ⟨_, rfl⟩
  obtain ⟨xx, hxx⟩ : ∃ xx, xx = (vx_X (fun (u : Unit) => u = R0.2) (fun E (_ : Unit) t => exE E R0.1 ∧ poC dC dI cy (w_X12_needBases cy  ) t) (va_A (w_X12_needBases cy  ) s.heap.size)) := ⟨_, rfl⟩
  rw [← hqq, ← hxx]
  generalize hAe : va_A (w_X12_needBases cy  ) s.heap.size = A at hD hqq hxx hX ⊢
  have hA : ∀ q : Nat, s.heap.size ≤ q → A q := fun q h => by rw [← hAe]; exact Or.inr h
  have hS : va_S A s.heap s.heap [] := va_S.rf
  have hl := lv_entry ([.int x0, .int x1]) (n := 2) (Nat.le_of_ble_eq_true rfl)
  have hE : entryFrame m aa 2 = F0 m 0 ((lg_sl ([.int x0, .int x1]) ++ List.replicate (2 - (lg_sl ([.int x0, .int x1])).length) Slot.unset).toArray) [] := by rw [haa]; exact lg_entry_eq m _ 2
  refine W.eq hE ?_
  generalize (lg_sl ([.int x0, .int x1]) ++ List.replicate (2 - (lg_sl ([.int x0, .int x1])).length) Slot.unset).toArray = ls at hl ⊢
  have hl : lv_has ls 2 [(0, .int x0), (1, .int x1)] := hl
  change W p l e rm_X12_needBases s m aa below meth c s.heap [] 0 0 (vx_MQ below qq xx aa s 1 6 A) (F0 m 0 ls [])
  have hS0 := hS
  have lk0 := hts (.classLink RX12 252 "java/lang/IllegalArgumentException") (by decide +kernel)
  have lk1 := hts (.initialized "java/lang/IllegalArgumentException") (by decide +kernel)
  have gd256 : ∀ w ∈ (vx_atS RX12 256 "java/lang/IllegalArgumentException" ["java/lang/RuntimeException", "java/lang/Exception"]).filter goodWord, w.before aa s = true := fun w hw => hts w ((show ∀ w ∈ (vx_atS RX12 256 "java/lang/IllegalArgumentException" ["java/lang/RuntimeException", "java/lang/Exception"]).filter goodWord, w ∈ wsX12_needBases by decide +kernel) w hw)
  obtain ⟨H, hH⟩ : ∃ H : Heap, H = s.heap := ⟨_, rfl⟩
  obtain ⟨locs, hlocs⟩ : ∃ locs : List Loc, locs = [] := ⟨_, rfl⟩
  have hS : va_S A s.heap H locs := by rw [hH, hlocs]; exact hS
  rw [← hH] at hP
  suffices hg : W p l e rm_X12_needBases s m aa below meth c H locs 0 0 (vx_MQ below qq xx aa s 1 6 A) (F0 m 0 ls []) by subst hH; subst hlocs; exact hg
  unfold p_X12_needBases at h
  refine lv_iload_n hx hb dX12_needBases_0 rfl (lv_at hl 0 rfl) ?_
  refine lv_if_lt (tgt := 15) hx hb dX12_needBases_1 (by decide) (fun c1 => ?_) (fun c1 => ?_)
  · rw [if_pos c1] at h
    refine vx_throwSW (XC := xx) (text := "no such bases") (names := ["java/lang/RuntimeException", "java/lang/Exception"]) hx hb hl9 hown (by decide) (by decide) lk0 lk1 (hX.tx 257 "no such bases" (by decide)) (ex_at256 gd256 hX) (by decide +kernel) hX.us hX.ss hS (by rw [hml]; exact hl.1) dX12_needBases_15 dX12_needBases_18 dX12_needBases_19 dX12_needBases_22 dX12_needBases_25 (fun x9 hx9 => (htab x9 hx9).elim) (Nat.le_of_ble_eq_true rfl) (Nat.le_of_ble_eq_true rfl) (Nat.le_of_ble_eq_true rfl) (Nat.le_of_ble_eq_true rfl) hlocks (fun t h1 h2 h3 => by rw [hxx]; have hh := Option.some.inj h; exact ⟨(()), snd_of hh, ⟨exE_2 (fst_of hh).symm, ex_po hP hK h1 h3⟩, ex_F hS h2 h3⟩) hS.2.2 (by decide) (by decide)
  · rw [if_neg c1] at h
    refine lv_iload_n hx hb dX12_needBases_4 rfl (lv_at hl 1 rfl) ?_
    refine lv_bipush (v := (40 : Int32)) hx hb dX12_needBases_5 (by decide) ?_
    refine lv_icmp_gt (tgt := 15) hx hb dX12_needBases_7 (by decide) (fun c2 => ?_) (fun c2 => ?_)
    · rw [if_pos c2] at h
      refine vx_throwSW (XC := xx) (text := "no such bases") (names := ["java/lang/RuntimeException", "java/lang/Exception"]) hx hb hl9 hown (by decide) (by decide) lk0 lk1 (hX.tx 257 "no such bases" (by decide)) (ex_at256 gd256 hX) (by decide +kernel) hX.us hX.ss hS (by rw [hml]; exact hl.1) dX12_needBases_15 dX12_needBases_18 dX12_needBases_19 dX12_needBases_22 dX12_needBases_25 (fun x9 hx9 => (htab x9 hx9).elim) (Nat.le_of_ble_eq_true rfl) (Nat.le_of_ble_eq_true rfl) (Nat.le_of_ble_eq_true rfl) (Nat.le_of_ble_eq_true rfl) hlocks (fun t h1 h2 h3 => by rw [hxx]; have hh := Option.some.inj h; exact ⟨(()), snd_of hh, ⟨exE_2 (fst_of hh).symm, ex_po hP hK h1 h3⟩, ex_F hS h2 h3⟩) hS.2.2 (by decide) (by decide)
    · rw [if_neg c2] at h
      refine lv_iload_n hx hb dX12_needBases_10 rfl (lv_at hl 0 rfl) ?_
      refine lv_iload_n hx hb dX12_needBases_11 rfl (lv_at hl 1 rfl) ?_
      refine lv_icmp_le (tgt := 26) hx hb dX12_needBases_12 (by decide) (fun c3 => ?_) (fun c3 => ?_)
      · rw [if_pos c3] at h
        refine vx_ret ?_
        refine W.widen (k := 1) (n := 6) (by decide) (by decide) ?_
        exact W.vret hx hb hr (fun t ht hW => by rw [hqq]; have hh := Option.some.inj h; exact ⟨⟨(()), rfl, ⟨fst_of hh, snd_of hh⟩, by rw [ht]; exact hP, va_K.moved hW.alike hK⟩, hS.F ht⟩) hS.2.2 dX12_needBases_26
      · rw [if_neg c3] at h
        refine vx_throwSW (XC := xx) (text := "no such bases") (names := ["java/lang/RuntimeException", "java/lang/Exception"]) hx hb hl9 hown (by decide) (by decide) lk0 lk1 (hX.tx 257 "no such bases" (by decide)) (ex_at256 gd256 hX) (by decide +kernel) hX.us hX.ss hS (by rw [hml]; exact hl.1) dX12_needBases_15 dX12_needBases_18 dX12_needBases_19 dX12_needBases_22 dX12_needBases_25 (fun x9 hx9 => (htab x9 hx9).elim) (Nat.le_of_ble_eq_true rfl) (Nat.le_of_ble_eq_true rfl) (Nat.le_of_ble_eq_true rfl) (Nat.le_of_ble_eq_true rfl) hlocks (fun t h1 h2 h3 => by rw [hxx]; have hh := Option.some.inj h; exact ⟨(()), snd_of hh, ⟨exE_2 (fst_of hh).symm, ex_po hP hK h1 h3⟩, ex_F hS h2 h3⟩) hS.2.2 (by decide) (by decide)

abbrev w_X12_span (cy : Nat → ClassId) (a0 : Nat → Nat) (gg : Int32 × Int32 × Int32 × Int32 × Int32 × Int32) (gvn : Int32 × Int32 × (Nat → Int32) × (Nat → Int32) × (Nat → Int32) × (Nat → Int32) × (Nat → Int32)) (gdn : Int32 × Int32 × (Nat → Int32) × (Nat → Int32) × (Nat → Int32) × (Nat → Int32)) (gne : (Nat → Nat → Int32) × (Nat → Nat → Int64)) : va_W := [(a0 0, .inr (10, [.ref (a0 1), .int (gg.1), .int (gg.2.1), .int (gg.2.2.1), .int (gg.2.2.2.1), .int (gg.2.2.2.2.1), .ref (a0 2), .ref (a0 17), .ref (a0 32), .int (gg.2.2.2.2.2), .ref (a0 47), .ref (a0 48), .ref (a0 49), .ref (a0 50), .ref (a0 68), .ref (a0 78), .ref (a0 80)])), (a0 2, .inr (7, [.int (gvn.1), .int (gvn.2.1), .ref (a0 3), .ref (a0 8), .ref (a0 12), .ref (a0 13), .ref (a0 14), .ref (a0 15), .ref (a0 16)])), (a0 3, .inr (2, [.int (gdn.1), .int (gdn.2.1), .ref (a0 4), .ref (a0 5), .ref (a0 6), .ref (a0 7)])), (a0 4, .inl (cy 1, 10, .inl (gdn.2.2.1))), (a0 5, .inl (cy 1, 10, .inl (gdn.2.2.2.1))), (a0 6, .inl (cy 1, 10, .inl (gdn.2.2.2.2.1))), (a0 7, .inl (cy 1, 50, .inl (gdn.2.2.2.2.2))), (a0 12, .inl (cy 1, 5, .inl (gvn.2.2.1))), (a0 13, .inl (cy 1, 5, .inl (gvn.2.2.2.1))), (a0 14, .inl (cy 1, 5, .inl (gvn.2.2.2.2.1))), (a0 15, .inl (cy 1, 5, .inl (gvn.2.2.2.2.2.1))), (a0 16, .inl (cy 1, 5, .inl (gvn.2.2.2.2.2.2))), (a0 50, .inr (4, [.ref (a0 51), .ref (a0 62)])), (a0 51, .inl (cy 3, 10, .inr (.inr (.inr (.inr (fun i => some (a0 (52 + i)))))))), (a0 52, .inl (cy 1, 41, .inl (gne.1 0))), (a0 53, .inl (cy 1, 41, .inl (gne.1 1))), (a0 54, .inl (cy 1, 41, .inl (gne.1 2))), (a0 55, .inl (cy 1, 41, .inl (gne.1 3))), (a0 56, .inl (cy 1, 41, .inl (gne.1 4))), (a0 57, .inl (cy 1, 41, .inl (gne.1 5))), (a0 58, .inl (cy 1, 41, .inl (gne.1 6))), (a0 59, .inl (cy 1, 41, .inl (gne.1 7))), (a0 60, .inl (cy 1, 41, .inl (gne.1 8))), (a0 61, .inl (cy 1, 41, .inl (gne.1 9))), (a0 62, .inl (cy 4, 5, .inr (.inr (.inr (.inr (fun i => some (a0 (63 + i)))))))), (a0 63, .inl (cy 2, 41, .inr (.inl (gne.2 0)))), (a0 64, .inl (cy 2, 41, .inr (.inl (gne.2 1)))), (a0 65, .inl (cy 2, 41, .inr (.inl (gne.2 2)))), (a0 66, .inl (cy 2, 41, .inr (.inl (gne.2 3)))), (a0 67, .inl (cy 2, 41, .inr (.inl (gne.2 4))))]
abbrev rm_X12_span : Room := { frames := 7, cells := 2, slots := 12, locals := 116 }
def p_X12_span (gg : Int32 × Int32 × Int32 × Int32 × Int32 × Int32) (gvn : Int32 × Int32 × (Nat → Int32) × (Nat → Int32) × (Nat → Int32) × (Nat → Int32) × (Nat → Int32)) (gdn : Int32 × Int32 × (Nat → Int32) × (Nat → Int32) × (Nat → Int32) × (Nat → Int32)) (gne : (Nat → Nat → Int32) × (Nat → Nat → Int64)) (x1 : Int32) (x2 : Int32) (x3 : Int32) : Option ((Int32 ⊕ Nat) × (((Nat → Nat → Int32) × (Nat → Nat → Int64)))) := ((p_X12_needOwner gg gvn x1).bind fun v1 => xb v1.1 (fun _r => ((p_X12_needBases x2 x3).bind fun v3 => xb v3.1 (fun _r => ((p_X6_fill gne gvn gdn).bind fun v5 => ((p_X6_spanOf v5 x1 x2 x3).bind fun v7 => some (Sum.inl v7.toInt32, v5)))) (fun k => some (Sum.inr k, gne)))) (fun k => some (Sum.inr k, gne)))
set_option maxHeartbeats 1000000 in
set_option maxRecDepth 100000 in
theorem c_X12_span (l : Launch) (dC : Nat → ClassId) (dI : Nat → Nat → Nat) (cy : Nat → ClassId) (z : Nat → Nat) (hl9 : l.stackTraces = false) (a0 : Nat → Nat) (gg : Int32 × Int32 × Int32 × Int32 × Int32 × Int32) (gvn : Int32 × Int32 × (Nat → Int32) × (Nat → Int32) × (Nat → Int32) × (Nat → Int32) × (Nat → Int32)) (gdn : Int32 × Int32 × (Nat → Int32) × (Nat → Int32) × (Nat → Int32) × (Nat → Int32)) (gne : (Nat → Nat → Int32) × (Nat → Nat → Int64)) (x1 : Int32) (x2 : Int32) (x3 : Int32) (sz : Nat) (R0 : (Int32 ⊕ Nat) × (((Nat → Nat → Int32) × (Nat → Nat → Int64)))) (h : p_X12_span gg gvn gdn gne x1 x2 x3 = some R0) : vx_Met l yX12_span wsX12_span rm_X12_span (va_Pc [.ref (a0 0), .int x1, .int x2, .int x3] (prS dC dI cy z (w_X12_span cy a0 gg gvn gdn gne) sz)) (va_Qi (fun (r : Int32) (u : ((Nat → Nat → Int32) × (Nat → Nat → Int64))) => Sum.inl r = R0.1 ∧ u = R0.2) (fun (u : ((Nat → Nat → Int32) × (Nat → Nat → Int64))) t => poC dC dI cy (w_X12_span cy a0 gg gvn gdn u) t) (va_A (w_X12_span cy a0 gg gvn gdn gne) sz)) (vx_X (fun (u : ((Nat → Nat → Int32) × (Nat → Nat → Int64))) => u = R0.2) (fun E (u : ((Nat → Nat → Int32) × (Nat → Nat → Int64))) t => exE E R0.1 ∧ poC dC dI cy (w_X12_span cy a0 gg gvn gdn u) t) (va_A (w_X12_span cy a0 gg gvn gdn gne) sz)) 2 12 (va_A (w_X12_span cy a0 gg gvn gdn gne) sz) := by
  refine vx_ofW (cc := cX12_span) (maxL := 4) (ret := (some .int)) (by decide) rfl ?_
  intro p e s m aa below meth c s₁ B hml htab hv
  obtain ⟨haa, ⟨hsz, hP, hK, hD0⟩, hX⟩ := hv
  have hx := B.exec
  have hb := B.bytes
  have hr := B.returns
  have hts := atoms_spec (ws := wsX12_span) B.pre
  have hown : s.vm.findClass RX12 = some m.cls := findClass_of_methodNamed B.named
  have hlocks := B.notSynchronized
  subst hsz
  have hD := hD0.self (sz := s.heap.size)
  obtain ⟨qq, hqq⟩ : ∃ qq, qq = (va_Qi (fun (r : Int32) (u : ((Nat → Nat → Int32) × (Nat → Nat → Int64))) => Sum.inl r = R0.1 ∧ u = R0.2) (fun (u : ((Nat → Nat → Int32) × (Nat → Nat → Int64))) t => poC dC dI cy (w_X12_span cy a0 gg gvn gdn u) t) (va_A (w_X12_span cy a0 gg gvn gdn gne) s.heap.size)) := ⟨_, rfl⟩
  obtain ⟨xx, hxx⟩ : ∃ xx, xx = (vx_X (fun (u : ((Nat → Nat → Int32) × (Nat → Nat → Int64))) => u = R0.2) (fun E (u : ((Nat → Nat → Int32) × (Nat → Nat → Int64))) t => exE E R0.1 ∧ poC dC dI cy (w_X12_span cy a0 gg gvn gdn u) t) (va_A (w_X12_span cy a0 gg gvn gdn gne) s.heap.size)) := ⟨_, rfl⟩
  rw [← hqq, ← hxx]
  generalize hAe : va_A (w_X12_span cy a0 gg gvn gdn gne) s.heap.size = A at hD hqq hxx hX ⊢
  have hA : ∀ q : Nat, s.heap.size ≤ q → A q := fun q h => by rw [← hAe]; exact Or.inr h
  have hS : va_S A s.heap s.heap [] := va_S.rf
  have hl := lv_entry ([.ref (a0 0), .int x1, .int x2, .int x3]) (n := 4) (Nat.le_of_ble_eq_true rfl)
  have hE : entryFrame m aa 4 = F0 m 0 ((lg_sl ([.ref (a0 0), .int x1, .int x2, .int x3]) ++ List.replicate (4 - (lg_sl ([.ref (a0 0), .int x1, .int x2, .int x3])).length) Slot.unset).toArray) [] := by rw [haa]; exact lg_entry_eq m _ 4
  refine W.eq hE ?_
  generalize (lg_sl ([.ref (a0 0), .int x1, .int x2, .int x3]) ++ List.replicate (4 - (lg_sl ([.ref (a0 0), .int x1, .int x2, .int x3])).length) Slot.unset).toArray = ls at hl ⊢
  have hl : lv_has ls 4 [(0, .ref (a0 0)), (1, .int x1), (2, .int x2), (3, .int x3)] := hl
  change W p l e rm_X12_span s m aa below meth c s.heap [] 0 0 (vx_MQ below qq xx aa s 2 12 A) (F0 m 0 ls [])
  have hS0 := hS
  have lk0 := hts (.fieldLink RX12 58 "GoatDoors" "nets" "LGoatDoors$Nets;") (by decide +kernel)
  have lk1 := hts (.fieldLink RX12 20 "GoatDoors" "now" "LGoatDoors$Village;") (by decide +kernel)
  have in_X12 : ∀ w ∈ wsX120, w ∈ wsX12_span := by decide +kernel
  obtain ⟨H, hH⟩ : ∃ H : Heap, H = s.heap := ⟨_, rfl⟩
  obtain ⟨locs, hlocs⟩ : ∃ locs : List Loc, locs = [] := ⟨_, rfl⟩
  have hS : va_S A s.heap H locs := by rw [hH, hlocs]; exact hS
  rw [← hH] at hP
  suffices hg : W p l e rm_X12_span s m aa below meth c H locs 0 0 (vx_MQ below qq xx aa s 2 12 A) (F0 m 0 ls []) by subst hH; subst hlocs; exact hg
  unfold p_X12_span at h
  refine lv_aload_n hx hb dX12_span_0 rfl (lv_at hl 0 rfl) ?_
  refine lv_iload_n hx hb dX12_span_1 rfl (lv_at hl 1 rfl) ?_
  obtain ⟨v1, hv2, h⟩ := ok_bind h
  refine cx_vv (w2 := fun (_ : Unit) => w_X12_span cy a0 gg gvn gdn gne) (w2x := fun (_ : Unit) => w_X12_span cy a0 gg gvn gdn gne) (As := [.int x1]) (rest := []) ⟨hx, hb, hml, hown, hts⟩ (c_X12_needOwner l dC dI cy z hl9 a0 gg gvn x1 H.size v1 hv2) (cwV 1 hts gX12_span_X12_needOwner rfl rfl rfl (by decide +kernel) ⟨Nat.le_of_ble_eq_true rfl, Nat.le_of_ble_eq_true rfl⟩) (va_recv hK hP (ci := 10) (q0 := 0) rfl rfl) cl_blindS (cl_preS hK hP hD hS hA hX [0, 1, 7, 8, 9, 10, 11] (by decide) rfl) hP hD hS hA [0, 1, 7, 8, 9, 10, 11] rfl rfl hl.1 rfl (lv_room (Nat.le_of_ble_eq_true rfl)) dX12_span_2 ⟨Nat.le_of_ble_eq_true rfl, Nat.le_of_ble_eq_true rfl⟩ (cells' := 1) (slots' := 6) ⟨rfl, rfl⟩ (fun _ => updR [0, 1, 7, 8, 9, 10, 11] rfl) (fun _ => updR [0, 1, 7, 8, 9, 10, 11] rfl) (fun E ce q9 u H locs hw hE hP hD hS hc1 hc2 hc3 => ?_) (fun u H locs hw hP hD hS => ?_)
  · subst hw
    have hP : va_P (dC, dI) vwCl (w_X12_span cy a0 gg gvn gdn gne) H := hP
    obtain ⟨hE1, hE2⟩ := exE_pass hE h
    exact vx_out (fun x9 hx9 => (htab x9 hx9).elim) hlocks hc1 hc2 hc3 (fun t h1 h2 => by rw [hxx]; exact ⟨_, hE2.symm, ⟨hE1, by rw [h1]; exact hP, va_K.moved h2 hK⟩, hS.F h1⟩) hS.2.2 (by decide) (by decide)
  obtain ⟨hw1, hw2⟩ := hw
  subst hw2
  rw [← hw1] at h
  dsimp only [xb] at h
  have hP : va_P (dC, dI) vwCl (w_X12_span cy a0 gg gvn gdn gne) H := hP
  have hD : va_D A (w_X12_span cy a0 gg gvn gdn gne) := hD
  refine lv_iload_n hx hb dX12_span_5 rfl (lv_at hl 2 rfl) ?_
  refine lv_iload_n hx hb dX12_span_6 rfl (lv_at hl 3 rfl) ?_
  obtain ⟨v3, hv4, h⟩ := ok_bind h
  refine cx_sv (w2 := fun (_ : Unit) => w_X12_span cy a0 gg gvn gdn gne) (w2x := fun (_ : Unit) => w_X12_span cy a0 gg gvn gdn gne) (As := [.int x2, .int x3]) (rest := []) ⟨hx, hb, hml, hown, hts⟩ (c_X12_needBases l dC dI cy z hl9  x2 x3 H.size v3 hv4) (va_cwS 2 hts gX12_span_X12_needBases rfl rfl rfl (by decide +kernel) ⟨Nat.le_of_ble_eq_true rfl, Nat.le_of_ble_eq_true rfl⟩) cl_blindS (cl_preS hK hP hD hS hA hX [] (by decide) rfl) hP hD hS hA [] rfl rfl hl.1 rfl (lv_room (Nat.le_of_ble_eq_true rfl)) dX12_span_7 ⟨Nat.le_of_ble_eq_true rfl, Nat.le_of_ble_eq_true rfl⟩ (cells' := 2) (slots' := 12) ⟨rfl, rfl⟩ (fun _ => updR [] rfl) (fun _ => updR [] rfl) (fun E ce q9 u H locs hw hE hP hD hS hc1 hc2 hc3 => ?_) (fun u H locs hw hP hD hS => ?_)
  · subst hw
    have hP : va_P (dC, dI) vwCl (w_X12_span cy a0 gg gvn gdn gne) H := hP
    obtain ⟨hE1, hE2⟩ := exE_pass hE h
    exact vx_out (fun x9 hx9 => (htab x9 hx9).elim) hlocks hc1 hc2 hc3 (fun t h1 h2 => by rw [hxx]; exact ⟨_, hE2.symm, ⟨hE1, by rw [h1]; exact hP, va_K.moved h2 hK⟩, hS.F h1⟩) hS.2.2 (by decide) (by decide)
  obtain ⟨hw1, hw2⟩ := hw
  subst hw2
  rw [← hw1] at h
  dsimp only [xb] at h
  have hP : va_P (dC, dI) vwCl (w_X12_span cy a0 gg gvn gdn gne) H := hP
  have hD : va_D A (w_X12_span cy a0 gg gvn gdn gne) := hD
  refine lv_aload_n hx hb dX12_span_10 rfl (lv_at hl 0 rfl) ?_
  refine va_get (D := (dC, dI)) (ci := 10) (v := .ref (a0 50)) (C := RX12) (T := TX12) (N := 17) hx hb hts in_X12 hown hK hP 0 rfl rfl 13 (by decide) lk0 (fun _ h9 => h9) rfl dX12_span_11 ?_
  refine lv_aload_n hx hb dX12_span_14 rfl (lv_at hl 0 rfl) ?_
  refine va_get (D := (dC, dI)) (ci := 10) (v := .ref (a0 2)) (C := RX12) (T := TX12) (N := 17) hx hb hts in_X12 hown hK hP 0 rfl rfl 6 (by decide) lk1 (fun _ h9 => h9) rfl dX12_span_15 ?_
  obtain ⟨v5, hv6, h⟩ := ok_bind h
  refine cl_vv (w2 := fun (u : ((Nat → Nat → Int32) × (Nat → Nat → Int64))) => w_X12_span cy a0 gg gvn gdn u) (As := [.ref (a0 2)]) (rest := []) ⟨hx, hb, hml, hown, hts⟩ (c_X6_fill l dC dI cy (fun k => a0 (k + 50)) (fun k => a0 (k + 2)) gne gvn gdn H.size v5 hv6) (cwV 1 hts gX12_span_X6_fill rfl rfl rfl (by decide +kernel) ⟨Nat.le_of_ble_eq_true rfl, Nat.le_of_ble_eq_true rfl⟩) (va_recv hK hP (ci := 4) (q0 := 12) rfl rfl) cl_blind (cl_pre hK hP hD [12, 13, 14, 15, 16, 17, 18, 19, 20, 21, 22, 23, 24, 25, 26, 27, 28, 29, 1, 2, 3, 4, 5, 6, 7, 8, 9, 10, 11] (by decide) rfl) hP hD hS hA [12, 13, 14, 15, 16, 17, 18, 19, 20, 21, 22, 23, 24, 25, 26, 27, 28, 29, 1, 2, 3, 4, 5, 6, 7, 8, 9, 10, 11] rfl rfl hl.1 rfl (lv_room (Nat.le_of_ble_eq_true rfl)) dX12_span_18 ⟨Nat.le_of_ble_eq_true rfl, Nat.le_of_ble_eq_true rfl⟩ ⟨rfl, rfl⟩ (fun _ => updM [12, 13, 14, 15, 16, 17, 18, 19, 20, 21, 22, 23, 24, 25, 26, 27, 28, 29, 1, 2, 3, 4, 5, 6, 7, 8, 9, 10, 11] [0] 30 rfl rfl rfl rfl (by decide +kernel) (by decide +kernel) rfl) (fun u H locs hw hP hD hS => ?_)
  have hw := hw.symm
  subst hw
  have hP : va_P (dC, dI) vwCl (w_X12_span cy a0 gg gvn gdn v5) H := hP
  have hD : va_D A (w_X12_span cy a0 gg gvn gdn v5) := hD
  refine lv_aload_n hx hb dX12_span_21 rfl (lv_at hl 0 rfl) ?_
  refine va_get (D := (dC, dI)) (ci := 10) (v := .ref (a0 50)) (C := RX12) (T := TX12) (N := 17) hx hb hts in_X12 hown hK hP 0 rfl rfl 13 (by decide) lk0 (fun _ h9 => h9) rfl dX12_span_22 ?_
  refine lv_iload_n hx hb dX12_span_25 rfl (lv_at hl 1 rfl) ?_
  refine lv_iload_n hx hb dX12_span_26 rfl (lv_at hl 2 rfl) ?_
  refine lv_iload_n hx hb dX12_span_27 rfl (lv_at hl 3 rfl) ?_
  obtain ⟨v7, hv8, h⟩ := ok_bind h
  refine cl_vl (w2 := fun (_ : Unit) => w_X12_span cy a0 gg gvn gdn v5) (As := [.int x1, .int x2, .int x3]) (rest := []) ⟨hx, hb, hml, hown, hts⟩ (c_X6_spanOf l dC dI cy (fun k => a0 (k + 50)) v5 x1 x2 x3 H.size v7 hv8) (cwV 3 hts gX12_span_X6_spanOf rfl rfl rfl (by decide +kernel) ⟨Nat.le_of_ble_eq_true rfl, Nat.le_of_ble_eq_true rfl⟩) (va_recv hK hP (ci := 4) (q0 := 12) rfl rfl) cl_blind (cl_pre hK hP hD [12, 13, 14, 15, 16, 17, 18, 19, 20, 21, 22, 23, 24, 25, 26, 27, 28, 29] (by decide) rfl) hP hD hS hA [12, 13, 14, 15, 16, 17, 18, 19, 20, 21, 22, 23, 24, 25, 26, 27, 28, 29] rfl rfl hl.1 rfl (lv_room (Nat.le_of_ble_eq_true rfl)) dX12_span_28 ⟨Nat.le_of_ble_eq_true rfl, Nat.le_of_ble_eq_true rfl⟩ ⟨rfl, rfl⟩ (fun _ => updR [12, 13, 14, 15, 16, 17, 18, 19, 20, 21, 22, 23, 24, 25, 26, 27, 28, 29] rfl) (fun r u H locs hw hP hD hS => ?_)
  have hw := hw.symm
  subst hw
  have hP : va_P (dC, dI) vwCl (w_X12_span cy a0 gg gvn gdn v5) H := hP
  have hD : va_D A (w_X12_span cy a0 gg gvn gdn v5) := hD
  refine lv_l2i hx hb dX12_span_31 rfl ?_
  refine vx_ret ?_
  exact W.iret (v := v7.toInt32) hx hb hr (fun t ht hW => by rw [hqq]; have hh := Option.some.inj h; exact ⟨⟨v7.toInt32, (v5), rfl, ⟨fst_of hh, snd_of hh⟩, by rw [ht]; exact hP, va_K.moved hW.alike hK⟩, hS.F ht⟩) hS.2.2 dX12_span_32

abbrev w_X12_rests (cy : Nat → ClassId) (a0 : Nat → Nat) (gg : Int32 × Int32 × Int32 × Int32 × Int32 × Int32) (gvn : Int32 × Int32 × (Nat → Int32) × (Nat → Int32) × (Nat → Int32) × (Nat → Int32) × (Nat → Int32)) (gdn : Int32 × Int32 × (Nat → Int32) × (Nat → Int32) × (Nat → Int32) × (Nat → Int32)) (gne : (Nat → Nat → Int32) × (Nat → Nat → Int64)) (ggm : Int32 × Int32 × Int32 × (Nat → Int32) × (Nat → Int32) × (Nat → Int32) × (Nat → Nat → Int64)) : va_W := [(a0 0, .inr (10, [.ref (a0 1), .int (gg.1), .int (gg.2.1), .int (gg.2.2.1), .int (gg.2.2.2.1), .int (gg.2.2.2.2.1), .ref (a0 2), .ref (a0 17), .ref (a0 32), .int (gg.2.2.2.2.2), .ref (a0 47), .ref (a0 48), .ref (a0 49), .ref (a0 50), .ref (a0 68), .ref (a0 78), .ref (a0 80)])), (a0 2, .inr (7, [.int (gvn.1), .int (gvn.2.1), .ref (a0 3), .ref (a0 8), .ref (a0 12), .ref (a0 13), .ref (a0 14), .ref (a0 15), .ref (a0 16)])), (a0 3, .inr (2, [.int (gdn.1), .int (gdn.2.1), .ref (a0 4), .ref (a0 5), .ref (a0 6), .ref (a0 7)])), (a0 4, .inl (cy 1, 10, .inl (gdn.2.2.1))), (a0 5, .inl (cy 1, 10, .inl (gdn.2.2.2.1))), (a0 6, .inl (cy 1, 10, .inl (gdn.2.2.2.2.1))), (a0 7, .inl (cy 1, 50, .inl (gdn.2.2.2.2.2))), (a0 12, .inl (cy 1, 5, .inl (gvn.2.2.1))), (a0 13, .inl (cy 1, 5, .inl (gvn.2.2.2.1))), (a0 14, .inl (cy 1, 5, .inl (gvn.2.2.2.2.1))), (a0 15, .inl (cy 1, 5, .inl (gvn.2.2.2.2.2.1))), (a0 16, .inl (cy 1, 5, .inl (gvn.2.2.2.2.2.2))), (a0 50, .inr (4, [.ref (a0 51), .ref (a0 62)])), (a0 51, .inl (cy 3, 10, .inr (.inr (.inr (.inr (fun i => some (a0 (52 + i)))))))), (a0 52, .inl (cy 1, 41, .inl (gne.1 0))), (a0 53, .inl (cy 1, 41, .inl (gne.1 1))), (a0 54, .inl (cy 1, 41, .inl (gne.1 2))), (a0 55, .inl (cy 1, 41, .inl (gne.1 3))), (a0 56, .inl (cy 1, 41, .inl (gne.1 4))), (a0 57, .inl (cy 1, 41, .inl (gne.1 5))), (a0 58, .inl (cy 1, 41, .inl (gne.1 6))), (a0 59, .inl (cy 1, 41, .inl (gne.1 7))), (a0 60, .inl (cy 1, 41, .inl (gne.1 8))), (a0 61, .inl (cy 1, 41, .inl (gne.1 9))), (a0 62, .inl (cy 4, 5, .inr (.inr (.inr (.inr (fun i => some (a0 (63 + i)))))))), (a0 63, .inl (cy 2, 41, .inr (.inl (gne.2 0)))), (a0 64, .inl (cy 2, 41, .inr (.inl (gne.2 1)))), (a0 65, .inl (cy 2, 41, .inr (.inl (gne.2 2)))), (a0 66, .inl (cy 2, 41, .inr (.inl (gne.2 3)))), (a0 67, .inl (cy 2, 41, .inr (.inl (gne.2 4)))), (a0 68, .inr (3, [.int (ggm.1), .int (ggm.2.1), .int (ggm.2.2.1), .ref (a0 69), .ref (a0 70), .ref (a0 71), .ref (a0 72)])), (a0 69, .inl (cy 1, 5, .inl (ggm.2.2.2.1))), (a0 70, .inl (cy 1, 5, .inl (ggm.2.2.2.2.1))), (a0 71, .inl (cy 1, 5, .inl (ggm.2.2.2.2.2.1))), (a0 72, .inl (cy 4, 5, .inr (.inr (.inr (.inr (fun i => some (a0 (73 + i)))))))), (a0 73, .inl (cy 2, 26, .inr (.inl (ggm.2.2.2.2.2.2 0)))), (a0 74, .inl (cy 2, 26, .inr (.inl (ggm.2.2.2.2.2.2 1)))), (a0 75, .inl (cy 2, 26, .inr (.inl (ggm.2.2.2.2.2.2 2)))), (a0 76, .inl (cy 2, 26, .inr (.inl (ggm.2.2.2.2.2.2 3)))), (a0 77, .inl (cy 2, 26, .inr (.inl (ggm.2.2.2.2.2.2 4))))]
abbrev rm_X12_rests : Room := { frames := 7, cells := 2, slots := 12, locals := 123 }
def p_X12_rests_10 (gg : Int32 × Int32 × Int32 × Int32 × Int32 × Int32) (gvn : Int32 × Int32 × (Nat → Int32) × (Nat → Int32) × (Nat → Int32) × (Nat → Int32) × (Nat → Int32)) (gdn : Int32 × Int32 × (Nat → Int32) × (Nat → Int32) × (Nat → Int32) × (Nat → Int32))  (gne : (Nat → Nat → Int32) × (Nat → Nat → Int64)) (ggm : Int32 × Int32 × Int32 × (Nat → Int32) × (Nat → Int32) × (Nat → Int32) × (Nat → Nat → Int64)) (x1 : Int32) : Option ((Int32 ⊕ Nat) × (((Nat → Nat → Int32) × (Nat → Nat → Int64)) × (Int32 × Int32 × Int32 × (Nat → Int32) × (Nat → Int32) × (Nat → Int32) × (Nat → Nat → Int64)))) := ((p_X6_fill gne gvn gdn).bind fun v1 => ((p_X5_play ggm gvn v1).bind fun v3 => (if x1 = (-1 : Int32) then some (Sum.inl v3.1, (v1, v3)) else (if v3.1 = (0 : Int32) then some (Sum.inr 1, (v1, v3)) else ((p_X5_firstOf v3 x1).bind fun v7 => some (Sum.inl v7, (v1, v3)))))))
def p_X12_rests (gg : Int32 × Int32 × Int32 × Int32 × Int32 × Int32) (gvn : Int32 × Int32 × (Nat → Int32) × (Nat → Int32) × (Nat → Int32) × (Nat → Int32) × (Nat → Int32)) (gdn : Int32 × Int32 × (Nat → Int32) × (Nat → Int32) × (Nat → Int32) × (Nat → Int32)) (gne : (Nat → Nat → Int32) × (Nat → Nat → Int64)) (ggm : Int32 × Int32 × Int32 × (Nat → Int32) × (Nat → Int32) × (Nat → Int32) × (Nat → Nat → Int64)) (x1 : Int32) : Option ((Int32 ⊕ Nat) × (((Nat → Nat → Int32) × (Nat → Nat → Int64)) × (Int32 × Int32 × Int32 × (Nat → Int32) × (Nat → Int32) × (Nat → Int32) × (Nat → Nat → Int64)))) := (if x1 = (-1 : Int32) then p_X12_rests_10 gg gvn gdn gne ggm x1 else ((p_X12_needOwner gg gvn x1).bind fun v2 => xb v2.1 (fun _r => p_X12_rests_10 gg gvn gdn gne ggm x1) (fun k => some (Sum.inr k, (gne, ggm)))))
set_option maxHeartbeats 1000000 in
set_option maxRecDepth 100000 in
theorem c_X12_rests (l : Launch) (dC : Nat → ClassId) (dI : Nat → Nat → Nat) (cy : Nat → ClassId) (z : Nat → Nat) (hl9 : l.stackTraces = false) (a0 : Nat → Nat) (gg : Int32 × Int32 × Int32 × Int32 × Int32 × Int32) (gvn : Int32 × Int32 × (Nat → Int32) × (Nat → Int32) × (Nat → Int32) × (Nat → Int32) × (Nat → Int32)) (gdn : Int32 × Int32 × (Nat → Int32) × (Nat → Int32) × (Nat → Int32) × (Nat → Int32)) (gne : (Nat → Nat → Int32) × (Nat → Nat → Int64)) (ggm : Int32 × Int32 × Int32 × (Nat → Int32) × (Nat → Int32) × (Nat → Int32) × (Nat → Nat → Int64)) (x1 : Int32) (sz : Nat) (R0 : (Int32 ⊕ Nat) × (((Nat → Nat → Int32) × (Nat → Nat → Int64)) × (Int32 × Int32 × Int32 × (Nat → Int32) × (Nat → Int32) × (Nat → Int32) × (Nat → Nat → Int64)))) (h : p_X12_rests gg gvn gdn gne ggm x1 = some R0) : vx_Met l yX12_rests wsX12_rests rm_X12_rests (va_Pc [.ref (a0 0), .int x1] (prS dC dI cy z (w_X12_rests cy a0 gg gvn gdn gne ggm) sz)) (va_Qi (fun (r : Int32) (u : ((Nat → Nat → Int32) × (Nat → Nat → Int64)) × (Int32 × Int32 × Int32 × (Nat → Int32) × (Nat → Int32) × (Nat → Int32) × (Nat → Nat → Int64))) => Sum.inl r = R0.1 ∧ u = R0.2) (fun (u : ((Nat → Nat → Int32) × (Nat → Nat → Int64)) × (Int32 × Int32 × Int32 × (Nat → Int32) × (Nat → Int32) × (Nat → Int32) × (Nat → Nat → Int64))) t => poC dC dI cy (w_X12_rests cy a0 gg gvn gdn u.1 u.2) t) (va_A (w_X12_rests cy a0 gg gvn gdn gne ggm) sz)) (vx_X (fun (u : ((Nat → Nat → Int32) × (Nat → Nat → Int64)) × (Int32 × Int32 × Int32 × (Nat → Int32) × (Nat → Int32) × (Nat → Int32) × (Nat → Nat → Int64))) => u = R0.2) (fun E (u : ((Nat → Nat → Int32) × (Nat → Nat → Int64)) × (Int32 × Int32 × Int32 × (Nat → Int32) × (Nat → Int32) × (Nat → Int32) × (Nat → Nat → Int64))) t => exE E R0.1 ∧ poC dC dI cy (w_X12_rests cy a0 gg gvn gdn u.1 u.2) t) (va_A (w_X12_rests cy a0 gg gvn gdn gne ggm) sz)) 2 12 (va_A (w_X12_rests cy a0 gg gvn gdn gne ggm) sz) := by
  refine vx_ofW (cc := cX12_rests) (maxL := 2) (ret := (some .int)) (by decide) rfl ?_
  intro p e s m aa below meth c s₁ B hml htab hv
  obtain ⟨haa, ⟨hsz, hP, hK, hD0⟩, hX⟩ := hv
  have hx := B.exec
  have hb := B.bytes
  have hr := B.returns
  have hts := atoms_spec (ws := wsX12_rests) B.pre
  have hown : s.vm.findClass RX12 = some m.cls := findClass_of_methodNamed B.named
  have hlocks := B.notSynchronized
  subst hsz
  have hD := hD0.self (sz := s.heap.size)
  obtain ⟨qq, hqq⟩ : ∃ qq, qq = (va_Qi (fun (r : Int32) (u : ((Nat → Nat → Int32) × (Nat → Nat → Int64)) × (Int32 × Int32 × Int32 × (Nat → Int32) × (Nat → Int32) × (Nat → Int32) × (Nat → Nat → Int64))) => Sum.inl r = R0.1 ∧ u = R0.2) (fun (u : ((Nat → Nat → Int32) × (Nat → Nat → Int64)) × (Int32 × Int32 × Int32 × (Nat → Int32) × (Nat → Int32) × (Nat → Int32) × (Nat → Nat → Int64))) t => poC dC dI cy (w_X12_rests cy a0 gg gvn gdn u.1 u.2) t) (va_A (w_X12_rests cy a0 gg gvn gdn gne ggm) s.heap.size)) := ⟨_, rfl⟩
  obtain ⟨xx, hxx⟩ : ∃ xx, xx = (vx_X (fun (u : ((Nat → Nat → Int32) × (Nat → Nat → Int64)) × (Int32 × Int32 × Int32 × (Nat → Int32) × (Nat → Int32) × (Nat → Int32) × (Nat → Nat → Int64))) => u = R0.2) (fun E (u : ((Nat → Nat → Int32) × (Nat → Nat → Int64)) × (Int32 × Int32 × Int32 × (Nat → Int32) × (Nat → Int32) × (Nat → Int32) × (Nat → Nat → Int64))) t => exE E R0.1 ∧ poC dC dI cy (w_X12_rests cy a0 gg gvn gdn u.1 u.2) t) (va_A (w_X12_rests cy a0 gg gvn gdn gne ggm) s.heap.size)) := ⟨_, rfl⟩
  rw [← hqq, ← hxx]
  generalize hAe : va_A (w_X12_rests cy a0 gg gvn gdn gne ggm) s.heap.size = A at hD hqq hxx hX ⊢
  have hA : ∀ q : Nat, s.heap.size ≤ q → A q := fun q h => by rw [← hAe]; exact Or.inr h
  have hS : va_S A s.heap s.heap [] := va_S.rf
  have hl := lv_entry ([.ref (a0 0), .int x1]) (n := 2) (Nat.le_of_ble_eq_true rfl)
  have hE : entryFrame m aa 2 = F0 m 0 ((lg_sl ([.ref (a0 0), .int x1]) ++ List.replicate (2 - (lg_sl ([.ref (a0 0), .int x1])).length) Slot.unset).toArray) [] := by rw [haa]; exact lg_entry_eq m _ 2
  refine W.eq hE ?_
  generalize (lg_sl ([.ref (a0 0), .int x1]) ++ List.replicate (2 - (lg_sl ([.ref (a0 0), .int x1])).length) Slot.unset).toArray = ls at hl ⊢
  have hl : lv_has ls 2 [(0, .ref (a0 0)), (1, .int x1)] := hl
  change W p l e rm_X12_rests s m aa below meth c s.heap [] 0 0 (vx_MQ below qq xx aa s 2 12 A) (F0 m 0 ls [])
  have hS0 := hS
  have lk0 := hts (.fieldLink RX12 58 "GoatDoors" "nets" "LGoatDoors$Nets;") (by decide +kernel)
  have lk1 := hts (.fieldLink RX12 20 "GoatDoors" "now" "LGoatDoors$Village;") (by decide +kernel)
  have lk2 := hts (.fieldLink RX12 65 "GoatDoors" "game" "LGoatDoors$Game;") (by decide +kernel)
  have lk3 := hts (.fieldLink RX12 244 "GoatDoors$Game" "resting" "I") (by decide +kernel)
  have lk4 := hts (.classLink RX12 161 "java/util/NoSuchElementException") (by decide +kernel)
  have lk5 := hts (.initialized "java/util/NoSuchElementException") (by decide +kernel)
  have in_X12 : ∀ w ∈ wsX120, w ∈ wsX12_rests := by decide +kernel
  have in_X5 : ∀ w ∈ wsX50, w ∈ wsX12_rests := by decide +kernel
  have gd165 : ∀ w ∈ (vx_atS RX12 165 "java/util/NoSuchElementException" ["java/lang/RuntimeException", "java/lang/Exception"]).filter goodWord, w.before aa s = true := fun w hw => hts w ((show ∀ w ∈ (vx_atS RX12 165 "java/util/NoSuchElementException" ["java/lang/RuntimeException", "java/lang/Exception"]).filter goodWord, w ∈ wsX12_rests by decide +kernel) w hw)
  have c10 : ∀ (_u : Unit), ∀ (gne : (Nat → Nat → Int32) × (Nat → Nat → Int64)) (ggm : Int32 × Int32 × Int32 × (Nat → Int32) × (Nat → Int32) × (Nat → Int32) × (Nat → Nat → Int64)) (x1 : Int32) (H : Heap) (locs : List Loc) (ls : Array Slot), p_X12_rests_10 gg gvn gdn gne ggm x1 = some R0 → va_P (dC, dI) vwCl (w_X12_rests cy a0 gg gvn gdn gne ggm) H → va_D A (w_X12_rests cy a0 gg gvn gdn gne ggm) → va_S A s.heap H locs → lv_has ls 2 [(0, .ref (a0 0)), (1, .int x1)] → W p l e rm_X12_rests s m aa below meth c H locs 1 6 (vx_MQ below qq xx aa s 2 12 A) (F0 m 10 ls []) := by
    intro _ gne ggm x1 H locs ls h hP hD hS hl
    unfold p_X12_rests_10 at h
    refine lv_aload_n hx hb dX12_rests_10 rfl (lv_at hl 0 rfl) ?_
    refine va_get (D := (dC, dI)) (ci := 10) (v := .ref (a0 50)) (C := RX12) (T := TX12) (N := 17) hx hb hts in_X12 hown hK hP 0 rfl rfl 13 (by decide) lk0 (fun _ h9 => h9) rfl dX12_rests_11 ?_
    refine lv_aload_n hx hb dX12_rests_14 rfl (lv_at hl 0 rfl) ?_
    refine va_get (D := (dC, dI)) (ci := 10) (v := .ref (a0 2)) (C := RX12) (T := TX12) (N := 17) hx hb hts in_X12 hown hK hP 0 rfl rfl 6 (by decide) lk1 (fun _ h9 => h9) rfl dX12_rests_15 ?_
    obtain ⟨v1, hv2, h⟩ := ok_bind h
    refine cl_vv (w2 := fun (u : ((Nat → Nat → Int32) × (Nat → Nat → Int64))) => w_X12_rests cy a0 gg gvn gdn u ggm) (As := [.ref (a0 2)]) (rest := []) ⟨hx, hb, hml, hown, hts⟩ (c_X6_fill l dC dI cy (fun k => a0 (k + 50)) (fun k => a0 (k + 2)) gne gvn gdn H.size v1 hv2) (cwV 1 hts gX12_rests_X6_fill rfl rfl rfl (by decide +kernel) ⟨Nat.le_of_ble_eq_true rfl, Nat.le_of_ble_eq_true rfl⟩) (va_recv hK hP (ci := 4) (q0 := 12) rfl rfl) cl_blind (cl_pre hK hP hD [12, 13, 14, 15, 16, 17, 18, 19, 20, 21, 22, 23, 24, 25, 26, 27, 28, 29, 1, 2, 3, 4, 5, 6, 7, 8, 9, 10, 11] (by decide) rfl) hP hD hS hA [12, 13, 14, 15, 16, 17, 18, 19, 20, 21, 22, 23, 24, 25, 26, 27, 28, 29, 1, 2, 3, 4, 5, 6, 7, 8, 9, 10, 11] rfl rfl hl.1 rfl (lv_room (Nat.le_of_ble_eq_true rfl)) dX12_rests_18 ⟨Nat.le_of_ble_eq_true rfl, Nat.le_of_ble_eq_true rfl⟩ ⟨rfl, rfl⟩ (fun _ => updM [12, 13, 14, 15, 16, 17, 18, 19, 20, 21, 22, 23, 24, 25, 26, 27, 28, 29, 1, 2, 3, 4, 5, 6, 7, 8, 9, 10, 11] [0, 30, 31, 32, 33, 34, 35, 36, 37, 38, 39] 40 rfl rfl rfl rfl (by decide +kernel) (by decide +kernel) rfl) (fun u H locs hw hP hD hS => ?_)
    have hw := hw.symm
    subst hw
    have hP : va_P (dC, dI) vwCl (w_X12_rests cy a0 gg gvn gdn v1 ggm) H := hP
    have hD : va_D A (w_X12_rests cy a0 gg gvn gdn v1 ggm) := hD
    refine lv_aload_n hx hb dX12_rests_21 rfl (lv_at hl 0 rfl) ?_
    refine va_get (D := (dC, dI)) (ci := 10) (v := .ref (a0 68)) (C := RX12) (T := TX12) (N := 17) hx hb hts in_X12 hown hK hP 0 rfl rfl 14 (by decide) lk2 (fun _ h9 => h9) rfl dX12_rests_22 ?_
    refine lv_aload_n hx hb dX12_rests_25 rfl (lv_at hl 0 rfl) ?_
    refine va_get (D := (dC, dI)) (ci := 10) (v := .ref (a0 2)) (C := RX12) (T := TX12) (N := 17) hx hb hts in_X12 hown hK hP 0 rfl rfl 6 (by decide) lk1 (fun _ h9 => h9) rfl dX12_rests_26 ?_
    refine lv_aload_n hx hb dX12_rests_29 rfl (lv_at hl 0 rfl) ?_
    refine va_get (D := (dC, dI)) (ci := 10) (v := .ref (a0 50)) (C := RX12) (T := TX12) (N := 17) hx hb hts in_X12 hown hK hP 0 rfl rfl 13 (by decide) lk0 (fun _ h9 => h9) rfl dX12_rests_30 ?_
    obtain ⟨v3, hv4, h⟩ := ok_bind h
    refine cl_vv (w2 := fun (u : (Int32 × Int32 × Int32 × (Nat → Int32) × (Nat → Int32) × (Nat → Int32) × (Nat → Nat → Int64))) => w_X12_rests cy a0 gg gvn gdn v1 u) (As := [.ref (a0 2), .ref (a0 50)]) (rest := []) ⟨hx, hb, hml, hown, hts⟩ (c_X5_play l dC dI cy (fun k => a0 (k + 68)) (fun k => a0 (k + 2)) (fun k => a0 (k + 50)) ggm gvn v1 H.size v3 hv4) (cwV 2 hts gX12_rests_X5_play rfl rfl rfl (by decide +kernel) ⟨Nat.le_of_ble_eq_true rfl, Nat.le_of_ble_eq_true rfl⟩) (va_recv hK hP (ci := 3) (q0 := 30) rfl rfl) cl_blind (cl_pre hK hP hD [30, 31, 32, 33, 34, 35, 36, 37, 38, 39, 1, 7, 8, 9, 10, 11, 12, 13, 14, 15, 16, 17, 18, 19, 20, 21, 22, 23, 24, 25, 26, 27, 28, 29] (by decide) rfl) hP hD hS hA [30, 31, 32, 33, 34, 35, 36, 37, 38, 39, 1, 7, 8, 9, 10, 11, 12, 13, 14, 15, 16, 17, 18, 19, 20, 21, 22, 23, 24, 25, 26, 27, 28, 29] rfl rfl hl.1 rfl (lv_room (Nat.le_of_ble_eq_true rfl)) dX12_rests_33 ⟨Nat.le_of_ble_eq_true rfl, Nat.le_of_ble_eq_true rfl⟩ ⟨rfl, rfl⟩ (fun _ => updM [30, 31, 32, 33, 34, 35, 36, 37, 38, 39, 1, 7, 8, 9, 10, 11, 12, 13, 14, 15, 16, 17, 18, 19, 20, 21, 22, 23, 24, 25, 26, 27, 28, 29] [0, 2, 3, 4, 5, 6] 40 rfl rfl rfl rfl (by decide +kernel) (by decide +kernel) rfl) (fun u H locs hw hP hD hS => ?_)
    have hw := hw.symm
    subst hw
    have hP : va_P (dC, dI) vwCl (w_X12_rests cy a0 gg gvn gdn v1 v3) H := hP
    have hD : va_D A (w_X12_rests cy a0 gg gvn gdn v1 v3) := hD
    refine lv_iload_n hx hb dX12_rests_36 rfl (lv_at hl 1 rfl) ?_
    refine lv_iconst (v := (-1 : Int32)) hx hb dX12_rests_37 (by decide) ?_
    refine lv_icmp_ne (tgt := 49) hx hb dX12_rests_38 (by decide) (fun c5 => ?_) (fun c5 => ?_)
    · rw [if_neg c5] at h
      refine lv_aload_n hx hb dX12_rests_49 rfl (lv_at hl 0 rfl) ?_
      refine va_get (D := (dC, dI)) (ci := 10) (v := .ref (a0 68)) (C := RX12) (T := TX12) (N := 17) hx hb hts in_X12 hown hK hP 0 rfl rfl 14 (by decide) lk2 (fun _ h9 => h9) rfl dX12_rests_50 ?_
      refine va_get (D := (dC, dI)) (ci := 3) (v := .int v3.1) (C := RX5) (T := TX5) (N := 7) hx hb hts in_X5 hown hK hP 30 rfl rfl 0 (by decide) lk3 (fun _ h9 => h9) rfl dX12_rests_53 ?_
      refine lv_if_ne (tgt := 69) hx hb dX12_rests_56 (by decide) (fun c6 => ?_) (fun c6 => ?_)
      · rw [if_neg c6] at h
        refine lv_aload_n hx hb dX12_rests_69 rfl (lv_at hl 0 rfl) ?_
        refine va_get (D := (dC, dI)) (ci := 10) (v := .ref (a0 68)) (C := RX12) (T := TX12) (N := 17) hx hb hts in_X12 hown hK hP 0 rfl rfl 14 (by decide) lk2 (fun _ h9 => h9) rfl dX12_rests_70 ?_
        refine lv_iload_n hx hb dX12_rests_73 rfl (lv_at hl 1 rfl) ?_
        obtain ⟨v7, hv8, h⟩ := ok_bind h
        refine cl_vi (w2 := fun (_ : Unit) => w_X12_rests cy a0 gg gvn gdn v1 v3) (As := [.int x1]) (rest := []) ⟨hx, hb, hml, hown, hts⟩ (c_X5_firstOf l dC dI cy (fun k => a0 (k + 68)) v3 x1 H.size v7 hv8) (cwV 1 hts gX12_rests_X5_firstOf rfl rfl rfl (by decide +kernel) ⟨Nat.le_of_ble_eq_true rfl, Nat.le_of_ble_eq_true rfl⟩) (va_recv hK hP (ci := 3) (q0 := 30) rfl rfl) cl_blind (cl_pre hK hP hD [30, 31, 32, 33, 34, 35, 36, 37, 38, 39] (by decide) rfl) hP hD hS hA [30, 31, 32, 33, 34, 35, 36, 37, 38, 39] rfl rfl hl.1 rfl (lv_room (Nat.le_of_ble_eq_true rfl)) dX12_rests_74 ⟨Nat.le_of_ble_eq_true rfl, Nat.le_of_ble_eq_true rfl⟩ ⟨rfl, rfl⟩ (fun _ => updR [30, 31, 32, 33, 34, 35, 36, 37, 38, 39] rfl) (fun r u H locs hw hP hD hS => ?_)
        have hw := hw.symm
        subst hw
        have hP : va_P (dC, dI) vwCl (w_X12_rests cy a0 gg gvn gdn v1 v3) H := hP
        have hD : va_D A (w_X12_rests cy a0 gg gvn gdn v1 v3) := hD
        refine vx_ret ?_
        refine W.widen (k := 2) (n := 12) (by decide) (by decide) ?_
        exact W.iret (v := v7) hx hb hr (fun t ht hW => by rw [hqq]; have hh := Option.some.inj h; exact ⟨⟨v7, ((v1, v3)), rfl, ⟨fst_of hh, snd_of hh⟩, by rw [ht]; exact hP, va_K.moved hW.alike hK⟩, hS.F ht⟩) hS.2.2 dX12_rests_77
      · rw [if_pos c6] at h
        refine vx_throwS (XC := xx) (text := "no row rests") (names := ["java/lang/RuntimeException", "java/lang/Exception"]) hx hb hl9 hown (by decide) (by decide) lk4 lk5 (hX.tx 247 "no row rests" (by decide)) (ex_at165 gd165 hX) (by decide +kernel) hX.us hX.ss hS (by rw [hml]; exact hl.1) dX12_rests_59 dX12_rests_62 dX12_rests_63 dX12_rests_65 dX12_rests_68 (fun x9 hx9 => (htab x9 hx9).elim) (Nat.le_of_ble_eq_true rfl) (Nat.le_of_ble_eq_true rfl) (Nat.le_of_ble_eq_true rfl) (Nat.le_of_ble_eq_true rfl) hlocks (fun t h1 h2 h3 => by rw [hxx]; have hh := Option.some.inj h; exact ⟨((v1, v3)), snd_of hh, ⟨exE_1 (fst_of hh).symm, ex_po hP hK h1 h3⟩, ex_F hS h2 h3⟩) hS.2.2 (by decide) (by decide)
    · rw [if_pos c5] at h
      refine lv_aload_n hx hb dX12_rests_41 rfl (lv_at hl 0 rfl) ?_
      refine va_get (D := (dC, dI)) (ci := 10) (v := .ref (a0 68)) (C := RX12) (T := TX12) (N := 17) hx hb hts in_X12 hown hK hP 0 rfl rfl 14 (by decide) lk2 (fun _ h9 => h9) rfl dX12_rests_42 ?_
      refine va_get (D := (dC, dI)) (ci := 3) (v := .int v3.1) (C := RX5) (T := TX5) (N := 7) hx hb hts in_X5 hown hK hP 30 rfl rfl 0 (by decide) lk3 (fun _ h9 => h9) rfl dX12_rests_45 ?_
      refine vx_ret ?_
      refine W.widen (k := 2) (n := 12) (by decide) (by decide) ?_
      exact W.iret (v := v3.1) hx hb hr (fun t ht hW => by rw [hqq]; have hh := Option.some.inj h; exact ⟨⟨v3.1, ((v1, v3)), rfl, ⟨fst_of hh, snd_of hh⟩, by rw [ht]; exact hP, va_K.moved hW.alike hK⟩, hS.F ht⟩) hS.2.2 dX12_rests_48
  obtain ⟨H, hH⟩ : ∃ H : Heap, H = s.heap := ⟨_, rfl⟩
  obtain ⟨locs, hlocs⟩ : ∃ locs : List Loc, locs = [] := ⟨_, rfl⟩
  have hS : va_S A s.heap H locs := by rw [hH, hlocs]; exact hS
  rw [← hH] at hP
  suffices hg : W p l e rm_X12_rests s m aa below meth c H locs 0 0 (vx_MQ below qq xx aa s 2 12 A) (F0 m 0 ls []) by subst hH; subst hlocs; exact hg
  unfold p_X12_rests at h
  refine lv_iload_n hx hb dX12_rests_0 rfl (lv_at hl 1 rfl) ?_
  refine lv_iconst (v := (-1 : Int32)) hx hb dX12_rests_1 (by decide) ?_
  refine lv_icmp_eq (tgt := 10) hx hb dX12_rests_2 (by decide) (fun c1 => ?_) (fun c1 => ?_)
  · rw [if_pos c1] at h
    refine W.widen (k := 1) (n := 6) (by decide) (by decide) ?_
    exact c10 () gne ggm x1 H locs ls h hP hD hS (lv_sub hl [0, 1] rfl)
  · rw [if_neg c1] at h
    refine lv_aload_n hx hb dX12_rests_5 rfl (lv_at hl 0 rfl) ?_
    refine lv_iload_n hx hb dX12_rests_6 rfl (lv_at hl 1 rfl) ?_
    obtain ⟨v2, hv3, h⟩ := ok_bind h
    refine cx_vv (w2 := fun (_ : Unit) => w_X12_rests cy a0 gg gvn gdn gne ggm) (w2x := fun (_ : Unit) => w_X12_rests cy a0 gg gvn gdn gne ggm) (As := [.int x1]) (rest := []) ⟨hx, hb, hml, hown, hts⟩ (c_X12_needOwner l dC dI cy z hl9 a0 gg gvn x1 H.size v2 hv3) (cwV 1 hts gX12_rests_X12_needOwner rfl rfl rfl (by decide +kernel) ⟨Nat.le_of_ble_eq_true rfl, Nat.le_of_ble_eq_true rfl⟩) (va_recv hK hP (ci := 10) (q0 := 0) rfl rfl) cl_blindS (cl_preS hK hP hD hS hA hX [0, 1, 7, 8, 9, 10, 11] (by decide) rfl) hP hD hS hA [0, 1, 7, 8, 9, 10, 11] rfl rfl hl.1 rfl (lv_room (Nat.le_of_ble_eq_true rfl)) dX12_rests_7 ⟨Nat.le_of_ble_eq_true rfl, Nat.le_of_ble_eq_true rfl⟩ (cells' := 1) (slots' := 6) ⟨rfl, rfl⟩ (fun _ => updR [0, 1, 7, 8, 9, 10, 11] rfl) (fun _ => updR [0, 1, 7, 8, 9, 10, 11] rfl) (fun E ce q9 u H locs hw hE hP hD hS hc1 hc2 hc3 => ?_) (fun u H locs hw hP hD hS => ?_)
    · subst hw
      have hP : va_P (dC, dI) vwCl (w_X12_rests cy a0 gg gvn gdn gne ggm) H := hP
      obtain ⟨hE1, hE2⟩ := exE_pass hE h
      exact vx_out (fun x9 hx9 => (htab x9 hx9).elim) hlocks hc1 hc2 hc3 (fun t h1 h2 => by rw [hxx]; exact ⟨_, hE2.symm, ⟨hE1, by rw [h1]; exact hP, va_K.moved h2 hK⟩, hS.F h1⟩) hS.2.2 (by decide) (by decide)
    obtain ⟨hw1, hw2⟩ := hw
    subst hw2
    rw [← hw1] at h
    dsimp only [xb] at h
    have hP : va_P (dC, dI) vwCl (w_X12_rests cy a0 gg gvn gdn gne ggm) H := hP
    have hD : va_D A (w_X12_rests cy a0 gg gvn gdn gne ggm) := hD
    exact c10 () gne ggm x1 H locs ls h hP hD hS (lv_sub hl [0, 1] rfl)

abbrev w_X12_leastBase (cy : Nat → ClassId)   : va_W := []
abbrev rm_X12_leastBase : Room := { frames := 0, cells := 0, slots := 0, locals := 0 }
def p_X12_leastBase_2 : Nat → Int32 → Int32 → Option (Int32)
  | 0, _, _ => none
  | n + 1, x0, x1 => (if (30 : Int32) ≤ x1 then some (-1 : Int32) else (if ((x0 >>> (x1 &&& 31)) &&& (1 : Int32)) = (0 : Int32) then p_X12_leastBase_2 n x0 (x1 + (1 : Int32)) else some (x1 + (2 : Int32))))
def p_X12_leastBase  (x0 : Int32) : Option (Int32) := p_X12_leastBase_2 fu x0 (0 : Int32)
set_option maxHeartbeats 1000000 in
set_option maxRecDepth 100000 in
theorem c_X12_leastBase (l : Launch) (dC : Nat → ClassId) (dI : Nat → Nat → Nat) (cy : Nat → ClassId)   (x0 : Int32) (sz : Nat) (R0 : Int32) (h : p_X12_leastBase x0 = some R0) : Met l yX12_leastBase wsX12_leastBase rm_X12_leastBase (va_Pc [.int x0] (prC dC dI cy (w_X12_leastBase cy  ) sz)) (va_Qi (fun (r : Int32) (_ : Unit) => r = R0) (fun (_ : Unit) t => poC dC dI cy (w_X12_leastBase cy  ) t) (va_A (w_X12_leastBase cy  ) sz)) 0 0 (va_A (w_X12_leastBase cy  ) sz) := by
  refine Met.ofW (cc := cX12_leastBase) (maxL := 2) (ret := (some .int)) (by decide) rfl ?_
  intro p e s m aa below meth c s₁ B hml hv
  obtain ⟨haa, hsz, hP, hK, hD0⟩ := hv
  have hx := B.exec
  have hb := B.bytes
  have hr := B.returns
  have hts := atoms_spec (ws := wsX12_leastBase) B.pre
  have hown : s.vm.findClass RX12 = some m.cls := findClass_of_methodNamed B.named
  have hlocks := B.notSynchronized
  subst hsz
  have hD := hD0.self (sz := s.heap.size)
  obtain ⟨qq, hqq⟩ : ∃ qq, qq = (va_Qi (fun (r : Int32) (_ : Unit) => r = R0) (fun (_ : Unit) t => poC dC dI cy (w_X12_leastBase cy  ) t) (va_A (w_X12_leastBase cy  ) s.heap.size)) := ⟨_, rfl⟩
  rw [← hqq]
  generalize hAe : va_A (w_X12_leastBase cy  ) s.heap.size = A at hD hqq ⊢
  have hA : ∀ q : Nat, s.heap.size ≤ q → A q := fun q h => by rw [← hAe]; exact Or.inr h
  have hS : va_S A s.heap s.heap [] := va_S.rf
  have hl := lv_entry ([.int x0]) (n := 2) (Nat.le_of_ble_eq_true rfl)
  have hE : entryFrame m aa 2 = F0 m 0 ((lg_sl ([.int x0]) ++ List.replicate (2 - (lg_sl ([.int x0])).length) Slot.unset).toArray) [] := by rw [haa]; exact lg_entry_eq m _ 2
  refine W.eq hE ?_
  generalize (lg_sl ([.int x0]) ++ List.replicate (2 - (lg_sl ([.int x0])).length) Slot.unset).toArray = ls at hl ⊢
  have hl : lv_has ls 2 [(0, .int x0)] := hl
  change W p l e rm_X12_leastBase s m aa below meth c s.heap [] 0 0 (MQ below qq aa s 0 0 A) (F0 m 0 ls [])
  have hS0 := hS
  have c2 : ∀ (n : Nat), ∀ (x0 : Int32) (x1 : Int32) (H : Heap) (locs : List Loc) (ls : Array Slot), p_X12_leastBase_2 n x0 x1 = some R0 → va_P (dC, dI) vwCl (w_X12_leastBase cy  ) H → va_D A (w_X12_leastBase cy  ) → va_S A s.heap H locs → lv_has ls 2 [(0, .int x0), (1, .int x1)] → W p l e rm_X12_leastBase s m aa below meth c H locs 0 0 (MQ below qq aa s 0 0 A) (F0 m 2 ls []) := by
    intro  n
    induction n with
    | zero => intro x0 x1 H locs ls h; exact no_some h
    | succ n ih =>
      intro x0 x1 H locs ls h hP hD hS hl
      rw [p_X12_leastBase_2.eq_2] at h
      refine lv_iload_n hx hb dX12_leastBase_2 rfl (lv_at hl 1 rfl) ?_
      refine lv_bipush (v := (30 : Int32)) hx hb dX12_leastBase_3 (by decide) ?_
      refine lv_icmp_ge (tgt := 26) hx hb dX12_leastBase_5 (by decide) (fun c1 => ?_) (fun c1 => ?_)
      · rw [if_pos c1] at h
        refine lv_iconst (v := (-1 : Int32)) hx hb dX12_leastBase_26 (by decide) ?_
        exact W.iret (v := (-1 : Int32)) hx hb hr (fun t ht hW => by rw [hqq]; have hh := Option.some.inj h; exact ⟨⟨(-1 : Int32), (()), rfl, Option.some.inj h, by rw [ht]; exact hP, va_K.moved hW.alike hK⟩, hS.F ht⟩) hS.2.2 dX12_leastBase_27
      · rw [if_neg c1] at h
        refine lv_iload_n hx hb dX12_leastBase_8 rfl (lv_at hl 0 rfl) ?_
        refine lv_iload_n hx hb dX12_leastBase_9 rfl (lv_at hl 1 rfl) ?_
        refine lv_ishr hx hb dX12_leastBase_10 ?_
        refine lv_iconst (v := (1 : Int32)) hx hb dX12_leastBase_11 (by decide) ?_
        refine lv_iand hx hb dX12_leastBase_12 ?_
        refine lv_if_eq (tgt := 20) hx hb dX12_leastBase_13 (by decide) (fun c2 => ?_) (fun c2 => ?_)
        · rw [if_pos c2] at h
          refine lv_iinc (v := (x1 + (1 : Int32))) (lv' := [(1, .int (x1 + (1 : Int32))), (0, .int x0)]) hx hb dX12_leastBase_20 hl (k := 1) rfl rfl (by decide) rfl (fun ls hl => ?_)
          refine lv_goto (tgt := 2) hx hb dX12_leastBase_23 (by decide) ?_
          exact ih x0 (x1 + (1 : Int32)) H locs ls h hP hD hS (lv_sub hl [1, 0] rfl)
        · rw [if_neg c2] at h
          refine lv_iload_n hx hb dX12_leastBase_16 rfl (lv_at hl 1 rfl) ?_
          refine lv_iconst (v := (2 : Int32)) hx hb dX12_leastBase_17 (by decide) ?_
          refine lv_iadd hx hb dX12_leastBase_18 ?_
          exact W.iret (v := (x1 + (2 : Int32))) hx hb hr (fun t ht hW => by rw [hqq]; have hh := Option.some.inj h; exact ⟨⟨(x1 + (2 : Int32)), (()), rfl, Option.some.inj h, by rw [ht]; exact hP, va_K.moved hW.alike hK⟩, hS.F ht⟩) hS.2.2 dX12_leastBase_19
  obtain ⟨H, hH⟩ : ∃ H : Heap, H = s.heap := ⟨_, rfl⟩
  obtain ⟨locs, hlocs⟩ : ∃ locs : List Loc, locs = [] := ⟨_, rfl⟩
  have hS : va_S A s.heap H locs := by rw [hH, hlocs]; exact hS
  rw [← hH] at hP
  suffices hg : W p l e rm_X12_leastBase s m aa below meth c H locs 0 0 (MQ below qq aa s 0 0 A) (F0 m 0 ls []) by subst hH; subst hlocs; exact hg
  unfold p_X12_leastBase at h
  refine lv_iconst (v := (0 : Int32)) hx hb dX12_leastBase_0 (by decide) ?_
  refine lv_istore_n (lv' := [(1, .int (0 : Int32)), (0, .int x0)]) hx hb dX12_leastBase_1 rfl hl (by decide) rfl (fun ls hl => ?_)
  exact c2 fu x0 (0 : Int32) H locs ls h hP hD hS (lv_sub hl [1, 0] rfl)

abbrev w_X12_power (cy : Nat → ClassId)   : va_W := []
abbrev rm_X12_power : Room := { frames := 0, cells := 0, slots := 0, locals := 0 }
def p_X12_power_4 : Nat → Int32 → Int32 → Int32 → Int32 → Option (Int32)
  | 0, _, _, _, _ => none
  | n + 1, x0, x1, x2, x3 => (if x1 ≤ x3 then some x2 else p_X12_power_4 n x0 x1 (x2 * x0) (x3 + (1 : Int32)))
def p_X12_power  (x0 : Int32) (x1 : Int32) : Option (Int32) := p_X12_power_4 fu x0 x1 (1 : Int32) (0 : Int32)
set_option maxHeartbeats 1000000 in
set_option maxRecDepth 100000 in
theorem c_X12_power (l : Launch) (dC : Nat → ClassId) (dI : Nat → Nat → Nat) (cy : Nat → ClassId)   (x0 : Int32) (x1 : Int32) (sz : Nat) (R0 : Int32) (h : p_X12_power x0 x1 = some R0) : Met l yX12_power wsX12_power rm_X12_power (va_Pc [.int x0, .int x1] (prC dC dI cy (w_X12_power cy  ) sz)) (va_Qi (fun (r : Int32) (_ : Unit) => r = R0) (fun (_ : Unit) t => poC dC dI cy (w_X12_power cy  ) t) (va_A (w_X12_power cy  ) sz)) 0 0 (va_A (w_X12_power cy  ) sz) := by
  refine Met.ofW (cc := cX12_power) (maxL := 4) (ret := (some .int)) (by decide) rfl ?_
  intro p e s m aa below meth c s₁ B hml hv
  obtain ⟨haa, hsz, hP, hK, hD0⟩ := hv
  have hx := B.exec
  have hb := B.bytes
  have hr := B.returns
  have hts := atoms_spec (ws := wsX12_power) B.pre
  have hown : s.vm.findClass RX12 = some m.cls := findClass_of_methodNamed B.named
  have hlocks := B.notSynchronized
  subst hsz
  have hD := hD0.self (sz := s.heap.size)
  obtain ⟨qq, hqq⟩ : ∃ qq, qq = (va_Qi (fun (r : Int32) (_ : Unit) => r = R0) (fun (_ : Unit) t => poC dC dI cy (w_X12_power cy  ) t) (va_A (w_X12_power cy  ) s.heap.size)) := ⟨_, rfl⟩
  rw [← hqq]
  generalize hAe : va_A (w_X12_power cy  ) s.heap.size = A at hD hqq ⊢
  have hA : ∀ q : Nat, s.heap.size ≤ q → A q := fun q h => by rw [← hAe]; exact Or.inr h
  have hS : va_S A s.heap s.heap [] := va_S.rf
  have hl := lv_entry ([.int x0, .int x1]) (n := 4) (Nat.le_of_ble_eq_true rfl)
  have hE : entryFrame m aa 4 = F0 m 0 ((lg_sl ([.int x0, .int x1]) ++ List.replicate (4 - (lg_sl ([.int x0, .int x1])).length) Slot.unset).toArray) [] := by rw [haa]; exact lg_entry_eq m _ 4
  refine W.eq hE ?_
  generalize (lg_sl ([.int x0, .int x1]) ++ List.replicate (4 - (lg_sl ([.int x0, .int x1])).length) Slot.unset).toArray = ls at hl ⊢
  have hl : lv_has ls 4 [(0, .int x0), (1, .int x1)] := hl
  change W p l e rm_X12_power s m aa below meth c s.heap [] 0 0 (MQ below qq aa s 0 0 A) (F0 m 0 ls [])
  have hS0 := hS
  have c4 : ∀ (n : Nat), ∀ (x0 : Int32) (x1 : Int32) (x2 : Int32) (x3 : Int32) (H : Heap) (locs : List Loc) (ls : Array Slot), p_X12_power_4 n x0 x1 x2 x3 = some R0 → va_P (dC, dI) vwCl (w_X12_power cy  ) H → va_D A (w_X12_power cy  ) → va_S A s.heap H locs → lv_has ls 4 [(0, .int x0), (1, .int x1), (2, .int x2), (3, .int x3)] → W p l e rm_X12_power s m aa below meth c H locs 0 0 (MQ below qq aa s 0 0 A) (F0 m 4 ls []) := by
    intro  n
    induction n with
    | zero => intro x0 x1 x2 x3 H locs ls h; exact no_some h
    | succ n ih =>
      intro x0 x1 x2 x3 H locs ls h hP hD hS hl
      rw [p_X12_power_4.eq_2] at h
      refine lv_iload_n hx hb dX12_power_4 rfl (lv_at hl 3 rfl) ?_
      refine lv_iload_n hx hb dX12_power_5 rfl (lv_at hl 1 rfl) ?_
      refine lv_icmp_ge (tgt := 19) hx hb dX12_power_6 (by decide) (fun c1 => ?_) (fun c1 => ?_)
      · rw [if_pos c1] at h
        refine lv_iload_n hx hb dX12_power_19 rfl (lv_at hl 2 rfl) ?_
        exact W.iret (v := x2) hx hb hr (fun t ht hW => by rw [hqq]; have hh := Option.some.inj h; exact ⟨⟨x2, (()), rfl, Option.some.inj h, by rw [ht]; exact hP, va_K.moved hW.alike hK⟩, hS.F ht⟩) hS.2.2 dX12_power_20
      · rw [if_neg c1] at h
        refine lv_iload_n hx hb dX12_power_9 rfl (lv_at hl 2 rfl) ?_
        refine lv_iload_n hx hb dX12_power_10 rfl (lv_at hl 0 rfl) ?_
        refine lv_imul hx hb dX12_power_11 ?_
        refine lv_istore_n (lv' := [(2, .int (x2 * x0)), (0, .int x0), (1, .int x1), (3, .int x3)]) hx hb dX12_power_12 rfl hl (by decide) rfl (fun ls hl => ?_)
        refine lv_iinc (v := (x3 + (1 : Int32))) (lv' := [(3, .int (x3 + (1 : Int32))), (2, .int (x2 * x0)), (0, .int x0), (1, .int x1)]) hx hb dX12_power_13 hl (k := 3) rfl rfl (by decide) rfl (fun ls hl => ?_)
        refine lv_goto (tgt := 4) hx hb dX12_power_16 (by decide) ?_
        exact ih x0 x1 (x2 * x0) (x3 + (1 : Int32)) H locs ls h hP hD hS (lv_sub hl [2, 3, 1, 0] rfl)
  obtain ⟨H, hH⟩ : ∃ H : Heap, H = s.heap := ⟨_, rfl⟩
  obtain ⟨locs, hlocs⟩ : ∃ locs : List Loc, locs = [] := ⟨_, rfl⟩
  have hS : va_S A s.heap H locs := by rw [hH, hlocs]; exact hS
  rw [← hH] at hP
  suffices hg : W p l e rm_X12_power s m aa below meth c H locs 0 0 (MQ below qq aa s 0 0 A) (F0 m 0 ls []) by subst hH; subst hlocs; exact hg
  unfold p_X12_power at h
  refine lv_iconst (v := (1 : Int32)) hx hb dX12_power_0 (by decide) ?_
  refine lv_istore_n (lv' := [(2, .int (1 : Int32)), (0, .int x0), (1, .int x1)]) hx hb dX12_power_1 rfl hl (by decide) rfl (fun ls hl => ?_)
  refine lv_iconst (v := (0 : Int32)) hx hb dX12_power_2 (by decide) ?_
  refine lv_istore_n (lv' := [(3, .int (0 : Int32)), (2, .int (1 : Int32)), (0, .int x0), (1, .int x1)]) hx hb dX12_power_3 rfl hl (by decide) rfl (fun ls hl => ?_)
  exact c4 fu x0 x1 (1 : Int32) (0 : Int32) H locs ls h hP hD hS (lv_sub hl [2, 3, 1, 0] rfl)

abbrev w_X12_dividedUp (cy : Nat → ClassId)   : va_W := []
abbrev rm_X12_dividedUp : Room := { frames := 0, cells := 0, slots := 0, locals := 0 }
def p_X12_dividedUp  (x0 : Int32) (x1 : Int32) : Option (Int32) := (if (1 : Int32) ≤ x1 then (if ¬ x1 = 0 then some (((x0 + x1) - (1 : Int32)) / x1) else none) else some (0 : Int32))
set_option maxHeartbeats 1000000 in
set_option maxRecDepth 100000 in
theorem c_X12_dividedUp (l : Launch) (dC : Nat → ClassId) (dI : Nat → Nat → Nat) (cy : Nat → ClassId)   (x0 : Int32) (x1 : Int32) (sz : Nat) (R0 : Int32) (h : p_X12_dividedUp x0 x1 = some R0) : Met l yX12_dividedUp wsX12_dividedUp rm_X12_dividedUp (va_Pc [.int x0, .int x1] (prC dC dI cy (w_X12_dividedUp cy  ) sz)) (va_Qi (fun (r : Int32) (_ : Unit) => r = R0) (fun (_ : Unit) t => poC dC dI cy (w_X12_dividedUp cy  ) t) (va_A (w_X12_dividedUp cy  ) sz)) 0 0 (va_A (w_X12_dividedUp cy  ) sz) := by
  refine Met.ofW (cc := cX12_dividedUp) (maxL := 2) (ret := (some .int)) (by decide) rfl ?_
  intro p e s m aa below meth c s₁ B hml hv
  obtain ⟨haa, hsz, hP, hK, hD0⟩ := hv
  have hx := B.exec
  have hb := B.bytes
  have hr := B.returns
  have hts := atoms_spec (ws := wsX12_dividedUp) B.pre
  have hown : s.vm.findClass RX12 = some m.cls := findClass_of_methodNamed B.named
  have hlocks := B.notSynchronized
  subst hsz
  have hD := hD0.self (sz := s.heap.size)
  obtain ⟨qq, hqq⟩ : ∃ qq, qq = (va_Qi (fun (r : Int32) (_ : Unit) => r = R0) (fun (_ : Unit) t => poC dC dI cy (w_X12_dividedUp cy  ) t) (va_A (w_X12_dividedUp cy  ) s.heap.size)) := ⟨_, rfl⟩
  rw [← hqq]
  generalize hAe : va_A (w_X12_dividedUp cy  ) s.heap.size = A at hD hqq ⊢
  have hA : ∀ q : Nat, s.heap.size ≤ q → A q := fun q h => by rw [← hAe]; exact Or.inr h
  have hS : va_S A s.heap s.heap [] := va_S.rf
  have hl := lv_entry ([.int x0, .int x1]) (n := 2) (Nat.le_of_ble_eq_true rfl)
  have hE : entryFrame m aa 2 = F0 m 0 ((lg_sl ([.int x0, .int x1]) ++ List.replicate (2 - (lg_sl ([.int x0, .int x1])).length) Slot.unset).toArray) [] := by rw [haa]; exact lg_entry_eq m _ 2
  refine W.eq hE ?_
  generalize (lg_sl ([.int x0, .int x1]) ++ List.replicate (2 - (lg_sl ([.int x0, .int x1])).length) Slot.unset).toArray = ls at hl ⊢
  have hl : lv_has ls 2 [(0, .int x0), (1, .int x1)] := hl
  change W p l e rm_X12_dividedUp s m aa below meth c s.heap [] 0 0 (MQ below qq aa s 0 0 A) (F0 m 0 ls [])
  have hS0 := hS
  obtain ⟨H, hH⟩ : ∃ H : Heap, H = s.heap := ⟨_, rfl⟩
  obtain ⟨locs, hlocs⟩ : ∃ locs : List Loc, locs = [] := ⟨_, rfl⟩
  have hS : va_S A s.heap H locs := by rw [hH, hlocs]; exact hS
  rw [← hH] at hP
  suffices hg : W p l e rm_X12_dividedUp s m aa below meth c H locs 0 0 (MQ below qq aa s 0 0 A) (F0 m 0 ls []) by subst hH; subst hlocs; exact hg
  unfold p_X12_dividedUp at h
  refine lv_iload_n hx hb dX12_dividedUp_0 rfl (lv_at hl 1 rfl) ?_
  refine lv_iconst (v := (1 : Int32)) hx hb dX12_dividedUp_1 (by decide) ?_
  refine lv_icmp_ge (tgt := 9) hx hb dX12_dividedUp_2 (by decide) (fun c1 => ?_) (fun c1 => ?_)
  · rw [if_pos c1] at h
    refine lv_iload_n hx hb dX12_dividedUp_9 rfl (lv_at hl 0 rfl) ?_
    refine lv_iload_n hx hb dX12_dividedUp_10 rfl (lv_at hl 1 rfl) ?_
    refine lv_iadd hx hb dX12_dividedUp_11 ?_
    refine lv_iconst (v := (1 : Int32)) hx hb dX12_dividedUp_12 (by decide) ?_
    refine lv_isub hx hb dX12_dividedUp_13 ?_
    refine lv_iload_n hx hb dX12_dividedUp_14 rfl (lv_at hl 1 rfl) ?_
    obtain ⟨hz2, h⟩ := ok_if h
    refine lv_idiv hx hb dX12_dividedUp_15 hz2 ?_
    exact W.iret (v := (((x0 + x1) - (1 : Int32)) / x1)) hx hb hr (fun t ht hW => by rw [hqq]; have hh := Option.some.inj h; exact ⟨⟨(((x0 + x1) - (1 : Int32)) / x1), (()), rfl, Option.some.inj h, by rw [ht]; exact hP, va_K.moved hW.alike hK⟩, hS.F ht⟩) hS.2.2 dX12_dividedUp_16
  · rw [if_neg c1] at h
    refine lv_iconst (v := (0 : Int32)) hx hb dX12_dividedUp_5 (by decide) ?_
    refine lv_goto (tgt := 16) hx hb dX12_dividedUp_6 (by decide) ?_
    exact W.iret (v := (0 : Int32)) hx hb hr (fun t ht hW => by rw [hqq]; have hh := Option.some.inj h; exact ⟨⟨(0 : Int32), (()), rfl, Option.some.inj h, by rw [ht]; exact hP, va_K.moved hW.alike hK⟩, hS.F ht⟩) hS.2.2 dX12_dividedUp_16

abbrev w_X12_alike (cy : Nat → ClassId) (a0 : Nat → Nat)  : va_W := []
abbrev rm_X12_alike : Room := { frames := 6, cells := 1, slots := 6, locals := 90 }
def p_X12_alike_62  (x1 : Int32) (x3 : Int32) (t0 : Int32) : Option ((Int32 ⊕ Nat) × (Unit)) := ((p_X12_power x3 t0).bind fun v1 => ((p_X12_dividedUp x1 (v1 - (1 : Int32))).bind fun v3 => some (Sum.inl v3, ())))
def p_X12_alike  (x1 : Int32) (x2 : Int32) : Option ((Int32 ⊕ Nat) × (Unit)) := (if x1 < (1 : Int32) then some (Sum.inr 2, ()) else (if x1 ≤ (9999 : Int32) then (if x2 ≤ (0 : Int32) then some (Sum.inr 2, ()) else (if (x2 >>> ((30 : Int32) &&& 31)) = (0 : Int32) then ((p_X12_leastBase x2).bind fun v5 => ((p_J6_bitCount_0f7a4 x2).bind fun v7 => (if v7 = (1 : Int32) then p_X12_alike_62 x1 v5 (5 : Int32) else p_X12_alike_62 x1 v5 (1 : Int32)))) else some (Sum.inr 2, ()))) else some (Sum.inr 2, ())))
set_option maxHeartbeats 1000000 in
set_option maxRecDepth 100000 in
theorem c_X12_alike (l : Launch) (dC : Nat → ClassId) (dI : Nat → Nat → Nat) (cy : Nat → ClassId) (z : Nat → Nat) (hl9 : l.stackTraces = false) (a0 : Nat → Nat)  (x1 : Int32) (x2 : Int32) (sz : Nat) (R0 : (Int32 ⊕ Nat) × (Unit)) (h : p_X12_alike x1 x2 = some R0) : vx_Met l yX12_alike wsX12_alike rm_X12_alike (va_Pc [.ref (a0 0), .int x1, .int x2] (prS dC dI cy z (w_X12_alike cy a0 ) sz)) (va_Qi (fun (r : Int32) (u : Unit) => Sum.inl r = R0.1 ∧ u = R0.2) (fun (_ : Unit) t => poC dC dI cy (w_X12_alike cy a0 ) t) (va_A (w_X12_alike cy a0 ) sz)) (vx_X (fun (u : Unit) => u = R0.2) (fun E (_ : Unit) t => exE E R0.1 ∧ poC dC dI cy (w_X12_alike cy a0 ) t) (va_A (w_X12_alike cy a0 ) sz)) 1 6 (va_A (w_X12_alike cy a0 ) sz) := by
  refine vx_ofW (cc := cX12_alike) (maxL := 5) (ret := (some .int)) (by decide) rfl ?_
  intro p e s m aa below meth c s₁ B hml htab hv
  obtain ⟨haa, ⟨hsz, hP, hK, hD0⟩, hX⟩ := hv
  have hx := B.exec
  have hb := B.bytes
  have hr := B.returns
  have hts := atoms_spec (ws := wsX12_alike) B.pre
  have hown : s.vm.findClass RX12 = some m.cls := findClass_of_methodNamed B.named
  have hlocks := B.notSynchronized
  subst hsz
  have hD := hD0.self (sz := s.heap.size)
  obtain ⟨qq, hqq⟩ : ∃ qq, qq = (va_Qi (fun (r : Int32) (u : Unit) => Sum.inl r = R0.1 ∧ u = R0.2) (fun (_ : Unit) t => poC dC dI cy (w_X12_alike cy a0 ) t) (va_A (w_X12_alike cy a0 ) s.heap.size)) := ⟨_, rfl⟩
  obtain ⟨xx, hxx⟩ : ∃ xx, xx = (vx_X (fun (u : Unit) => u = R0.2) (fun E (_ : Unit) t => exE E R0.1 ∧ poC dC dI cy (w_X12_alike cy a0 ) t) (va_A (w_X12_alike cy a0 ) s.heap.size)) := ⟨_, rfl⟩
  rw [← hqq, ← hxx]
  generalize hAe : va_A (w_X12_alike cy a0 ) s.heap.size = A at hD hqq hxx hX ⊢
  have hA : ∀ q : Nat, s.heap.size ≤ q → A q := fun q h => by rw [← hAe]; exact Or.inr h
  have hS : va_S A s.heap s.heap [] := va_S.rf
  have hl := lv_entry ([.ref (a0 0), .int x1, .int x2]) (n := 5) (Nat.le_of_ble_eq_true rfl)
  have hE : entryFrame m aa 5 = F0 m 0 ((lg_sl ([.ref (a0 0), .int x1, .int x2]) ++ List.replicate (5 - (lg_sl ([.ref (a0 0), .int x1, .int x2])).length) Slot.unset).toArray) [] := by rw [haa]; exact lg_entry_eq m _ 5
  refine W.eq hE ?_
  generalize (lg_sl ([.ref (a0 0), .int x1, .int x2]) ++ List.replicate (5 - (lg_sl ([.ref (a0 0), .int x1, .int x2])).length) Slot.unset).toArray = ls at hl ⊢
  have hl : lv_has ls 5 [(0, .ref (a0 0)), (1, .int x1), (2, .int x2)] := hl
  change W p l e rm_X12_alike s m aa below meth c s.heap [] 0 0 (vx_MQ below qq xx aa s 1 6 A) (F0 m 0 ls [])
  have hS0 := hS
  have lk0 := hts (.classLink RX12 252 "java/lang/IllegalArgumentException") (by decide +kernel)
  have lk1 := hts (.initialized "java/lang/IllegalArgumentException") (by decide +kernel)
  have gd256 : ∀ w ∈ (vx_atS RX12 256 "java/lang/IllegalArgumentException" ["java/lang/RuntimeException", "java/lang/Exception"]).filter goodWord, w.before aa s = true := fun w hw => hts w ((show ∀ w ∈ (vx_atS RX12 256 "java/lang/IllegalArgumentException" ["java/lang/RuntimeException", "java/lang/Exception"]).filter goodWord, w ∈ wsX12_alike by decide +kernel) w hw)
  have c62 : ∀ (_u : Unit), ∀ (x1 : Int32) (x3 : Int32) (t0 : Int32) (H : Heap) (locs : List Loc) (ls : Array Slot), p_X12_alike_62 x1 x3 t0 = some R0 → va_P (dC, dI) vwCl (w_X12_alike cy a0 ) H → va_D A (w_X12_alike cy a0 ) → va_S A s.heap H locs → lv_has ls 5 [(1, .int x1), (3, .int x3)] → W p l e rm_X12_alike s m aa below meth c H locs 0 0 (vx_MQ below qq xx aa s 1 6 A) (F0 m 62 ls [.int t0]) := by
    intro _ x1 x3 t0 H locs ls h hP hD hS hl
    unfold p_X12_alike_62 at h
    refine lv_istore (lv' := [(4, .int t0), (1, .int x1), (3, .int x3)]) hx hb dX12_alike_62 hl (by decide) rfl (fun ls hl => ?_)
    refine lv_iload_n hx hb dX12_alike_64 rfl (lv_at hl 1 rfl) ?_
    refine lv_iload_n hx hb dX12_alike_65 rfl (lv_at hl 2 rfl) ?_
    refine lv_iload hx hb dX12_alike_66 (lv_at hl 0 rfl) ?_
    obtain ⟨v1, hv2, h⟩ := ok_bind h
    refine cl_si (w2 := fun (_ : Unit) => w_X12_alike cy a0 ) (As := [.int x3, .int t0]) (rest := [.int x1]) ⟨hx, hb, hml, hown, hts⟩ (c_X12_power l dC dI cy  x3 t0 H.size v1 hv2) (va_cwS 2 hts gX12_alike_X12_power rfl rfl rfl (by decide +kernel) ⟨Nat.le_of_ble_eq_true rfl, Nat.le_of_ble_eq_true rfl⟩) cl_blind (cl_pre hK hP hD [] (by decide) rfl) hP hD hS hA [] rfl rfl hl.1 rfl (lv_room (Nat.le_of_ble_eq_true rfl)) dX12_alike_68 ⟨Nat.le_of_ble_eq_true rfl, Nat.le_of_ble_eq_true rfl⟩ ⟨rfl, rfl⟩ (fun _ => updR [] rfl) (fun r u H locs hw hP hD hS => ?_)
    have hw := hw.symm
    subst hw
    have hP : va_P (dC, dI) vwCl (w_X12_alike cy a0 ) H := hP
    have hD : va_D A (w_X12_alike cy a0 ) := hD
    refine lv_iconst (v := (1 : Int32)) hx hb dX12_alike_71 (by decide) ?_
    refine lv_isub hx hb dX12_alike_72 ?_
    obtain ⟨v3, hv4, h⟩ := ok_bind h
    refine cl_si (w2 := fun (_ : Unit) => w_X12_alike cy a0 ) (As := [.int x1, .int (v1 - (1 : Int32))]) (rest := []) ⟨hx, hb, hml, hown, hts⟩ (c_X12_dividedUp l dC dI cy  x1 (v1 - (1 : Int32)) H.size v3 hv4) (va_cwS 2 hts gX12_alike_X12_dividedUp rfl rfl rfl (by decide +kernel) ⟨Nat.le_of_ble_eq_true rfl, Nat.le_of_ble_eq_true rfl⟩) cl_blind (cl_pre hK hP hD [] (by decide) rfl) hP hD hS hA [] rfl rfl hl.1 rfl (lv_room (Nat.le_of_ble_eq_true rfl)) dX12_alike_73 ⟨Nat.le_of_ble_eq_true rfl, Nat.le_of_ble_eq_true rfl⟩ ⟨rfl, rfl⟩ (fun _ => updR [] rfl) (fun r u H locs hw hP hD hS => ?_)
    have hw := hw.symm
    subst hw
    have hP : va_P (dC, dI) vwCl (w_X12_alike cy a0 ) H := hP
    have hD : va_D A (w_X12_alike cy a0 ) := hD
    refine vx_ret ?_
    refine W.widen (k := 1) (n := 6) (by decide) (by decide) ?_
    exact W.iret (v := v3) hx hb hr (fun t ht hW => by rw [hqq]; have hh := Option.some.inj h; exact ⟨⟨v3, (()), rfl, ⟨fst_of hh, snd_of hh⟩, by rw [ht]; exact hP, va_K.moved hW.alike hK⟩, hS.F ht⟩) hS.2.2 dX12_alike_76
  obtain ⟨H, hH⟩ : ∃ H : Heap, H = s.heap := ⟨_, rfl⟩
  obtain ⟨locs, hlocs⟩ : ∃ locs : List Loc, locs = [] := ⟨_, rfl⟩
  have hS : va_S A s.heap H locs := by rw [hH, hlocs]; exact hS
  rw [← hH] at hP
  suffices hg : W p l e rm_X12_alike s m aa below meth c H locs 0 0 (vx_MQ below qq xx aa s 1 6 A) (F0 m 0 ls []) by subst hH; subst hlocs; exact hg
  unfold p_X12_alike at h
  refine lv_iload_n hx hb dX12_alike_0 rfl (lv_at hl 1 rfl) ?_
  refine lv_iconst (v := (1 : Int32)) hx hb dX12_alike_1 (by decide) ?_
  refine lv_icmp_lt (tgt := 12) hx hb dX12_alike_2 (by decide) (fun c1 => ?_) (fun c1 => ?_)
  · rw [if_pos c1] at h
    refine vx_throwS (XC := xx) (text := "no such debt") (names := ["java/lang/RuntimeException", "java/lang/Exception"]) hx hb hl9 hown (by decide) (by decide) lk0 lk1 (hX.tx 254 "no such debt" (by decide)) (ex_at256 gd256 hX) (by decide +kernel) hX.us hX.ss hS (by rw [hml]; exact hl.1) dX12_alike_12 dX12_alike_15 dX12_alike_16 dX12_alike_18 dX12_alike_21 (fun x9 hx9 => (htab x9 hx9).elim) (Nat.le_of_ble_eq_true rfl) (Nat.le_of_ble_eq_true rfl) (Nat.le_of_ble_eq_true rfl) (Nat.le_of_ble_eq_true rfl) hlocks (fun t h1 h2 h3 => by rw [hxx]; have hh := Option.some.inj h; exact ⟨(()), snd_of hh, ⟨exE_2 (fst_of hh).symm, ex_po hP hK h1 h3⟩, ex_F hS h2 h3⟩) hS.2.2 (by decide) (by decide)
  · rw [if_neg c1] at h
    refine lv_iload_n hx hb dX12_alike_5 rfl (lv_at hl 1 rfl) ?_
    refine lv_sipush (v := (9999 : Int32)) hx hb dX12_alike_6 (by decide) ?_
    refine lv_icmp_le (tgt := 22) hx hb dX12_alike_9 (by decide) (fun c2 => ?_) (fun c2 => ?_)
    · rw [if_pos c2] at h
      refine lv_iload_n hx hb dX12_alike_22 rfl (lv_at hl 2 rfl) ?_
      refine lv_if_le (tgt := 33) hx hb dX12_alike_23 (by decide) (fun c3 => ?_) (fun c3 => ?_)
      · rw [if_pos c3] at h
        refine vx_throwSW (XC := xx) (text := "no such bases") (names := ["java/lang/RuntimeException", "java/lang/Exception"]) hx hb hl9 hown (by decide) (by decide) lk0 lk1 (hX.tx 257 "no such bases" (by decide)) (ex_at256 gd256 hX) (by decide +kernel) hX.us hX.ss hS (by rw [hml]; exact hl.1) dX12_alike_33 dX12_alike_36 dX12_alike_37 dX12_alike_40 dX12_alike_43 (fun x9 hx9 => (htab x9 hx9).elim) (Nat.le_of_ble_eq_true rfl) (Nat.le_of_ble_eq_true rfl) (Nat.le_of_ble_eq_true rfl) (Nat.le_of_ble_eq_true rfl) hlocks (fun t h1 h2 h3 => by rw [hxx]; have hh := Option.some.inj h; exact ⟨(()), snd_of hh, ⟨exE_2 (fst_of hh).symm, ex_po hP hK h1 h3⟩, ex_F hS h2 h3⟩) hS.2.2 (by decide) (by decide)
      · rw [if_neg c3] at h
        refine lv_iload_n hx hb dX12_alike_26 rfl (lv_at hl 2 rfl) ?_
        refine lv_bipush (v := (30 : Int32)) hx hb dX12_alike_27 (by decide) ?_
        refine lv_ishr hx hb dX12_alike_29 ?_
        refine lv_if_eq (tgt := 44) hx hb dX12_alike_30 (by decide) (fun c4 => ?_) (fun c4 => ?_)
        · rw [if_pos c4] at h
          refine lv_iload_n hx hb dX12_alike_44 rfl (lv_at hl 2 rfl) ?_
          obtain ⟨v5, hv6, h⟩ := ok_bind h
          refine cl_si (w2 := fun (_ : Unit) => w_X12_alike cy a0 ) (As := [.int x2]) (rest := []) ⟨hx, hb, hml, hown, hts⟩ (c_X12_leastBase l dC dI cy  x2 H.size v5 hv6) (va_cwS 1 hts gX12_alike_X12_leastBase rfl rfl rfl (by decide +kernel) ⟨Nat.le_of_ble_eq_true rfl, Nat.le_of_ble_eq_true rfl⟩) cl_blind (cl_pre hK hP hD [] (by decide) rfl) hP hD hS hA [] rfl rfl hl.1 rfl (lv_room (Nat.le_of_ble_eq_true rfl)) dX12_alike_45 ⟨Nat.le_of_ble_eq_true rfl, Nat.le_of_ble_eq_true rfl⟩ ⟨rfl, rfl⟩ (fun _ => updR [] rfl) (fun r u H locs hw hP hD hS => ?_)
          have hw := hw.symm
          subst hw
          have hP : va_P (dC, dI) vwCl (w_X12_alike cy a0 ) H := hP
          have hD : va_D A (w_X12_alike cy a0 ) := hD
          refine lv_istore_n (lv' := [(3, .int v5), (0, .ref (a0 0)), (1, .int x1), (2, .int x2)]) hx hb dX12_alike_48 rfl hl (by decide) rfl (fun ls hl => ?_)
          refine lv_iload_n hx hb dX12_alike_49 rfl (lv_at hl 3 rfl) ?_
          obtain ⟨v7, hv8, h⟩ := ok_bind h
          refine cl_si (w2 := fun (_ : Unit) => w_X12_alike cy a0 ) (As := [.int x2]) (rest := []) ⟨hx, hb, hml, hown, hts⟩ (c_J6_bitCount_0f7a4 l dC dI cy  x2 H.size v7 hv8) (va_cwS 1 hts gX12_alike_J6_bitCount_0f7a4 rfl rfl rfl (by decide +kernel) ⟨Nat.le_of_ble_eq_true rfl, Nat.le_of_ble_eq_true rfl⟩) cl_blind (cl_pre hK hP hD [] (by decide) rfl) hP hD hS hA [] rfl rfl hl.1 rfl (lv_room (Nat.le_of_ble_eq_true rfl)) dX12_alike_50 ⟨Nat.le_of_ble_eq_true rfl, Nat.le_of_ble_eq_true rfl⟩ ⟨rfl, rfl⟩ (fun _ => updR [] rfl) (fun r u H locs hw hP hD hS => ?_)
          have hw := hw.symm
          subst hw
          have hP : va_P (dC, dI) vwCl (w_X12_alike cy a0 ) H := hP
          have hD : va_D A (w_X12_alike cy a0 ) := hD
          refine lv_iconst (v := (1 : Int32)) hx hb dX12_alike_53 (by decide) ?_
          refine lv_icmp_ne (tgt := 61) hx hb dX12_alike_54 (by decide) (fun c9 => ?_) (fun c9 => ?_)
          · rw [if_neg c9] at h
            refine lv_iconst (v := (1 : Int32)) hx hb dX12_alike_61 (by decide) ?_
            exact c62 () x1 v5 (1 : Int32) H locs ls h hP hD hS (lv_sub hl [2, 0] rfl)
          · rw [if_pos c9] at h
            refine lv_iconst (v := (5 : Int32)) hx hb dX12_alike_57 (by decide) ?_
            refine lv_goto (tgt := 62) hx hb dX12_alike_58 (by decide) ?_
            exact c62 () x1 v5 (5 : Int32) H locs ls h hP hD hS (lv_sub hl [2, 0] rfl)
        · rw [if_neg c4] at h
          refine vx_throwSW (XC := xx) (text := "no such bases") (names := ["java/lang/RuntimeException", "java/lang/Exception"]) hx hb hl9 hown (by decide) (by decide) lk0 lk1 (hX.tx 257 "no such bases" (by decide)) (ex_at256 gd256 hX) (by decide +kernel) hX.us hX.ss hS (by rw [hml]; exact hl.1) dX12_alike_33 dX12_alike_36 dX12_alike_37 dX12_alike_40 dX12_alike_43 (fun x9 hx9 => (htab x9 hx9).elim) (Nat.le_of_ble_eq_true rfl) (Nat.le_of_ble_eq_true rfl) (Nat.le_of_ble_eq_true rfl) (Nat.le_of_ble_eq_true rfl) hlocks (fun t h1 h2 h3 => by rw [hxx]; have hh := Option.some.inj h; exact ⟨(()), snd_of hh, ⟨exE_2 (fst_of hh).symm, ex_po hP hK h1 h3⟩, ex_F hS h2 h3⟩) hS.2.2 (by decide) (by decide)
    · rw [if_neg c2] at h
      refine vx_throwS (XC := xx) (text := "no such debt") (names := ["java/lang/RuntimeException", "java/lang/Exception"]) hx hb hl9 hown (by decide) (by decide) lk0 lk1 (hX.tx 254 "no such debt" (by decide)) (ex_at256 gd256 hX) (by decide +kernel) hX.us hX.ss hS (by rw [hml]; exact hl.1) dX12_alike_12 dX12_alike_15 dX12_alike_16 dX12_alike_18 dX12_alike_21 (fun x9 hx9 => (htab x9 hx9).elim) (Nat.le_of_ble_eq_true rfl) (Nat.le_of_ble_eq_true rfl) (Nat.le_of_ble_eq_true rfl) (Nat.le_of_ble_eq_true rfl) hlocks (fun t h1 h2 h3 => by rw [hxx]; have hh := Option.some.inj h; exact ⟨(()), snd_of hh, ⟨exE_2 (fst_of hh).symm, ex_po hP hK h1 h3⟩, ex_F hS h2 h3⟩) hS.2.2 (by decide) (by decide)

abbrev w_X12_hedge (cy : Nat → ClassId) (a0 : Nat → Nat) (gg : Int32 × Int32 × Int32 × Int32 × Int32 × Int32) (gvn : Int32 × Int32 × (Nat → Int32) × (Nat → Int32) × (Nat → Int32) × (Nat → Int32) × (Nat → Int32)) (gdn : Int32 × Int32 × (Nat → Int32) × (Nat → Int32) × (Nat → Int32) × (Nat → Int32)) (gne : (Nat → Nat → Int32) × (Nat → Nat → Int64)) : va_W := [(a0 0, .inr (10, [.ref (a0 1), .int (gg.1), .int (gg.2.1), .int (gg.2.2.1), .int (gg.2.2.2.1), .int (gg.2.2.2.2.1), .ref (a0 2), .ref (a0 17), .ref (a0 32), .int (gg.2.2.2.2.2), .ref (a0 47), .ref (a0 48), .ref (a0 49), .ref (a0 50), .ref (a0 68), .ref (a0 78), .ref (a0 80)])), (a0 2, .inr (7, [.int (gvn.1), .int (gvn.2.1), .ref (a0 3), .ref (a0 8), .ref (a0 12), .ref (a0 13), .ref (a0 14), .ref (a0 15), .ref (a0 16)])), (a0 3, .inr (2, [.int (gdn.1), .int (gdn.2.1), .ref (a0 4), .ref (a0 5), .ref (a0 6), .ref (a0 7)])), (a0 4, .inl (cy 1, 10, .inl (gdn.2.2.1))), (a0 5, .inl (cy 1, 10, .inl (gdn.2.2.2.1))), (a0 6, .inl (cy 1, 10, .inl (gdn.2.2.2.2.1))), (a0 7, .inl (cy 1, 50, .inl (gdn.2.2.2.2.2))), (a0 12, .inl (cy 1, 5, .inl (gvn.2.2.1))), (a0 13, .inl (cy 1, 5, .inl (gvn.2.2.2.1))), (a0 14, .inl (cy 1, 5, .inl (gvn.2.2.2.2.1))), (a0 15, .inl (cy 1, 5, .inl (gvn.2.2.2.2.2.1))), (a0 16, .inl (cy 1, 5, .inl (gvn.2.2.2.2.2.2))), (a0 50, .inr (4, [.ref (a0 51), .ref (a0 62)])), (a0 51, .inl (cy 3, 10, .inr (.inr (.inr (.inr (fun i => some (a0 (52 + i)))))))), (a0 52, .inl (cy 1, 41, .inl (gne.1 0))), (a0 53, .inl (cy 1, 41, .inl (gne.1 1))), (a0 54, .inl (cy 1, 41, .inl (gne.1 2))), (a0 55, .inl (cy 1, 41, .inl (gne.1 3))), (a0 56, .inl (cy 1, 41, .inl (gne.1 4))), (a0 57, .inl (cy 1, 41, .inl (gne.1 5))), (a0 58, .inl (cy 1, 41, .inl (gne.1 6))), (a0 59, .inl (cy 1, 41, .inl (gne.1 7))), (a0 60, .inl (cy 1, 41, .inl (gne.1 8))), (a0 61, .inl (cy 1, 41, .inl (gne.1 9))), (a0 62, .inl (cy 4, 5, .inr (.inr (.inr (.inr (fun i => some (a0 (63 + i)))))))), (a0 63, .inl (cy 2, 41, .inr (.inl (gne.2 0)))), (a0 64, .inl (cy 2, 41, .inr (.inl (gne.2 1)))), (a0 65, .inl (cy 2, 41, .inr (.inl (gne.2 2)))), (a0 66, .inl (cy 2, 41, .inr (.inl (gne.2 3)))), (a0 67, .inl (cy 2, 41, .inr (.inl (gne.2 4))))]
abbrev rm_X12_hedge : Room := { frames := 7, cells := 2, slots := 12, locals := 116 }
def p_X12_hedge_110 (k40 : ((Nat → Nat → Int32) × (Nat → Nat → Int64)) → Int32 → Int32 → Int32 → Int32 → Int32 → Int32 → Int32 → Option ((Int32 ⊕ Nat) × (((Nat → Nat → Int32) × (Nat → Nat → Int64))))) (gg : Int32 × Int32 × Int32 × Int32 × Int32 × Int32) (gvn : Int32 × Int32 × (Nat → Int32) × (Nat → Int32) × (Nat → Int32) × (Nat → Int32) × (Nat → Int32)) (gdn : Int32 × Int32 × (Nat → Int32) × (Nat → Int32) × (Nat → Int32) × (Nat → Int32))  (gne : (Nat → Nat → Int32) × (Nat → Nat → Int64)) (x1 : Int32) (x2 : Int32) (x3 : Int32) (x4 : Int32) (x5 : Int32) (x6 : Int32) (x7 : Int32) : Option ((Int32 ⊕ Nat) × (((Nat → Nat → Int32) × (Nat → Nat → Int64)))) := k40 gne x1 x2 x3 x4 x5 x6 (x7 + (1 : Int32))
def p_X12_hedge_72 (k40 : ((Nat → Nat → Int32) × (Nat → Nat → Int64)) → Int32 → Int32 → Int32 → Int32 → Int32 → Int32 → Int32 → Option ((Int32 ⊕ Nat) × (((Nat → Nat → Int32) × (Nat → Nat → Int64))))) (gg : Int32 × Int32 × Int32 × Int32 × Int32 × Int32) (gvn : Int32 × Int32 × (Nat → Int32) × (Nat → Int32) × (Nat → Int32) × (Nat → Int32) × (Nat → Int32)) (gdn : Int32 × Int32 × (Nat → Int32) × (Nat → Int32) × (Nat → Int32) × (Nat → Int32))  (gne : (Nat → Nat → Int32) × (Nat → Nat → Int64)) (x1 : Int32) (x2 : Int32) (x3 : Int32) (x4 : Int32) (x5 : Int32) (x6 : Int32) (x7 : Int32) (t0 : Int32) : Option ((Int32 ⊕ Nat) × (((Nat → Nat → Int32) × (Nat → Nat → Int64)))) := (if (x7 &&& (x5 ^^^ (-1 : Int32))) = (0 : Int32) then (if t0 = (0 : Int32) then p_X12_hedge_110 k40 gg gvn gdn gne x1 x2 x3 x4 x5 x6 x7 else ((p_X6_standsAlike gne x1 x7 x4 x2 x3).bind fun v3 => (if v3 = (0 : Int32) then p_X12_hedge_110 k40 gg gvn gdn gne x1 x2 x3 x4 x5 x6 x7 else p_X12_hedge_110 k40 gg gvn gdn gne x1 x2 x3 x4 x5 x7 x7))) else p_X12_hedge_110 k40 gg gvn gdn gne x1 x2 x3 x4 x5 x6 x7)
def p_X12_hedge_67 (k40 : ((Nat → Nat → Int32) × (Nat → Nat → Int64)) → Int32 → Int32 → Int32 → Int32 → Int32 → Int32 → Int32 → Option ((Int32 ⊕ Nat) × (((Nat → Nat → Int32) × (Nat → Nat → Int64))))) (gg : Int32 × Int32 × Int32 × Int32 × Int32 × Int32) (gvn : Int32 × Int32 × (Nat → Int32) × (Nat → Int32) × (Nat → Int32) × (Nat → Int32) × (Nat → Int32)) (gdn : Int32 × Int32 × (Nat → Int32) × (Nat → Int32) × (Nat → Int32) × (Nat → Int32))  (gne : (Nat → Nat → Int32) × (Nat → Nat → Int64)) (x1 : Int32) (x2 : Int32) (x3 : Int32) (x4 : Int32) (x5 : Int32) (x6 : Int32) (x7 : Int32) : Option ((Int32 ⊕ Nat) × (((Nat → Nat → Int32) × (Nat → Nat → Int64)))) := p_X12_hedge_72 k40 gg gvn gdn gne x1 x2 x3 x4 x5 x6 x7 (1 : Int32)
def p_X12_hedge_40 (gg : Int32 × Int32 × Int32 × Int32 × Int32 × Int32) (gvn : Int32 × Int32 × (Nat → Int32) × (Nat → Int32) × (Nat → Int32) × (Nat → Int32) × (Nat → Int32)) (gdn : Int32 × Int32 × (Nat → Int32) × (Nat → Int32) × (Nat → Int32) × (Nat → Int32)) : Nat → ((Nat → Nat → Int32) × (Nat → Nat → Int64)) → Int32 → Int32 → Int32 → Int32 → Int32 → Int32 → Int32 → Option ((Int32 ⊕ Nat) × (((Nat → Nat → Int32) × (Nat → Nat → Int64))))
  | 0, _, _, _, _, _, _, _, _ => none
  | n + 1, gne, x1, x2, x3, x4, x5, x6, x7 => (if (1024 : Int32) ≤ x7 then some (Sum.inl x6, gne) else (if x6 = (-1 : Int32) then p_X12_hedge_67 (p_X12_hedge_40 gg gvn gdn n) gg gvn gdn gne x1 x2 x3 x4 x5 x6 x7 else ((p_J6_bitCount_0f7a4 x7).bind fun v3 => ((p_J6_bitCount_0f7a4 x6).bind fun v5 => (if v5 ≤ v3 then p_X12_hedge_72 (p_X12_hedge_40 gg gvn gdn n) gg gvn gdn gne x1 x2 x3 x4 x5 x6 x7 (0 : Int32) else p_X12_hedge_67 (p_X12_hedge_40 gg gvn gdn n) gg gvn gdn gne x1 x2 x3 x4 x5 x6 x7)))))
def p_X12_hedge (gg : Int32 × Int32 × Int32 × Int32 × Int32 × Int32) (gvn : Int32 × Int32 × (Nat → Int32) × (Nat → Int32) × (Nat → Int32) × (Nat → Int32) × (Nat → Int32)) (gdn : Int32 × Int32 × (Nat → Int32) × (Nat → Int32) × (Nat → Int32) × (Nat → Int32)) (gne : (Nat → Nat → Int32) × (Nat → Nat → Int64)) (x1 : Int32) (x2 : Int32) (x3 : Int32) (x4 : Int32) : Option ((Int32 ⊕ Nat) × (((Nat → Nat → Int32) × (Nat → Nat → Int64)))) := ((p_X12_needOwner gg gvn x1).bind fun v1 => xb v1.1 (fun _r => ((p_X12_needBases x2 x3).bind fun v3 => xb v3.1 (fun _r => ((p_X6_fill gne gvn gdn).bind fun v5 => ((p_X4_bitsWithout gdn x1).bind fun v7 => p_X12_hedge_40 gg gvn gdn fu v5 x1 x2 x3 x4 v7 (-1 : Int32) (0 : Int32)))) (fun k => some (Sum.inr k, gne)))) (fun k => some (Sum.inr k, gne)))
set_option maxHeartbeats 1000000 in
set_option maxRecDepth 100000 in
theorem c_X12_hedge (l : Launch) (dC : Nat → ClassId) (dI : Nat → Nat → Nat) (cy : Nat → ClassId) (z : Nat → Nat) (hl9 : l.stackTraces = false) (a0 : Nat → Nat) (gg : Int32 × Int32 × Int32 × Int32 × Int32 × Int32) (gvn : Int32 × Int32 × (Nat → Int32) × (Nat → Int32) × (Nat → Int32) × (Nat → Int32) × (Nat → Int32)) (gdn : Int32 × Int32 × (Nat → Int32) × (Nat → Int32) × (Nat → Int32) × (Nat → Int32)) (gne : (Nat → Nat → Int32) × (Nat → Nat → Int64)) (x1 : Int32) (x2 : Int32) (x3 : Int32) (x4 : Int32) (sz : Nat) (R0 : (Int32 ⊕ Nat) × (((Nat → Nat → Int32) × (Nat → Nat → Int64)))) (h : p_X12_hedge gg gvn gdn gne x1 x2 x3 x4 = some R0) : vx_Met l yX12_hedge wsX12_hedge rm_X12_hedge (va_Pc [.ref (a0 0), .int x1, .int x2, .int x3, .int x4] (prS dC dI cy z (w_X12_hedge cy a0 gg gvn gdn gne) sz)) (va_Qi (fun (r : Int32) (u : ((Nat → Nat → Int32) × (Nat → Nat → Int64))) => Sum.inl r = R0.1 ∧ u = R0.2) (fun (u : ((Nat → Nat → Int32) × (Nat → Nat → Int64))) t => poC dC dI cy (w_X12_hedge cy a0 gg gvn gdn u) t) (va_A (w_X12_hedge cy a0 gg gvn gdn gne) sz)) (vx_X (fun (u : ((Nat → Nat → Int32) × (Nat → Nat → Int64))) => u = R0.2) (fun E (u : ((Nat → Nat → Int32) × (Nat → Nat → Int64))) t => exE E R0.1 ∧ poC dC dI cy (w_X12_hedge cy a0 gg gvn gdn u) t) (va_A (w_X12_hedge cy a0 gg gvn gdn gne) sz)) 2 12 (va_A (w_X12_hedge cy a0 gg gvn gdn gne) sz) := by
  refine vx_ofW (cc := cX12_hedge) (maxL := 9) (ret := (some .int)) (by decide) rfl ?_
  intro p e s m aa below meth c s₁ B hml htab hv
  obtain ⟨haa, ⟨hsz, hP, hK, hD0⟩, hX⟩ := hv
  have hx := B.exec
  have hb := B.bytes
  have hr := B.returns
  have hts := atoms_spec (ws := wsX12_hedge) B.pre
  have hown : s.vm.findClass RX12 = some m.cls := findClass_of_methodNamed B.named
  have hlocks := B.notSynchronized
  subst hsz
  have hD := hD0.self (sz := s.heap.size)
  obtain ⟨qq, hqq⟩ : ∃ qq, qq = (va_Qi (fun (r : Int32) (u : ((Nat → Nat → Int32) × (Nat → Nat → Int64))) => Sum.inl r = R0.1 ∧ u = R0.2) (fun (u : ((Nat → Nat → Int32) × (Nat → Nat → Int64))) t => poC dC dI cy (w_X12_hedge cy a0 gg gvn gdn u) t) (va_A (w_X12_hedge cy a0 gg gvn gdn gne) s.heap.size)) := ⟨_, rfl⟩
  obtain ⟨xx, hxx⟩ : ∃ xx, xx = (vx_X (fun (u : ((Nat → Nat → Int32) × (Nat → Nat → Int64))) => u = R0.2) (fun E (u : ((Nat → Nat → Int32) × (Nat → Nat → Int64))) t => exE E R0.1 ∧ poC dC dI cy (w_X12_hedge cy a0 gg gvn gdn u) t) (va_A (w_X12_hedge cy a0 gg gvn gdn gne) s.heap.size)) := ⟨_, rfl⟩
  rw [← hqq, ← hxx]
  generalize hAe : va_A (w_X12_hedge cy a0 gg gvn gdn gne) s.heap.size = A at hD hqq hxx hX ⊢
  have hA : ∀ q : Nat, s.heap.size ≤ q → A q := fun q h => by rw [← hAe]; exact Or.inr h
  have hS : va_S A s.heap s.heap [] := va_S.rf
  have hl := lv_entry ([.ref (a0 0), .int x1, .int x2, .int x3, .int x4]) (n := 9) (Nat.le_of_ble_eq_true rfl)
  have hE : entryFrame m aa 9 = F0 m 0 ((lg_sl ([.ref (a0 0), .int x1, .int x2, .int x3, .int x4]) ++ List.replicate (9 - (lg_sl ([.ref (a0 0), .int x1, .int x2, .int x3, .int x4])).length) Slot.unset).toArray) [] := by rw [haa]; exact lg_entry_eq m _ 9
  refine W.eq hE ?_
  generalize (lg_sl ([.ref (a0 0), .int x1, .int x2, .int x3, .int x4]) ++ List.replicate (9 - (lg_sl ([.ref (a0 0), .int x1, .int x2, .int x3, .int x4])).length) Slot.unset).toArray = ls at hl ⊢
  have hl : lv_has ls 9 [(0, .ref (a0 0)), (1, .int x1), (2, .int x2), (3, .int x3), (4, .int x4)] := hl
  change W p l e rm_X12_hedge s m aa below meth c s.heap [] 0 0 (vx_MQ below qq xx aa s 2 12 A) (F0 m 0 ls [])
  have hS0 := hS
  have lk0 := hts (.fieldLink RX12 58 "GoatDoors" "nets" "LGoatDoors$Nets;") (by decide +kernel)
  have lk1 := hts (.fieldLink RX12 20 "GoatDoors" "now" "LGoatDoors$Village;") (by decide +kernel)
  have lk2 := hts (.fieldLink RX12 130 "GoatDoors$Village" "doors" "LGoatDoors$Doors;") (by decide +kernel)
  have in_X12 : ∀ w ∈ wsX120, w ∈ wsX12_hedge := by decide +kernel
  have in_X9 : ∀ w ∈ wsX90, w ∈ wsX12_hedge := by decide +kernel
  have c110 : ∀ (k40 : ((Nat → Nat → Int32) × (Nat → Nat → Int64)) → Int32 → Int32 → Int32 → Int32 → Int32 → Int32 → Int32 → Option ((Int32 ⊕ Nat) × (((Nat → Nat → Int32) × (Nat → Nat → Int64))))) (hk40 : ∀ (gne : (Nat → Nat → Int32) × (Nat → Nat → Int64)) (x1 : Int32) (x2 : Int32) (x3 : Int32) (x4 : Int32) (x5 : Int32) (x6 : Int32) (x7 : Int32) (H : Heap) (locs : List Loc) (ls : Array Slot), k40 gne x1 x2 x3 x4 x5 x6 x7 = some R0 → va_P (dC, dI) vwCl (w_X12_hedge cy a0 gg gvn gdn gne) H → va_D A (w_X12_hedge cy a0 gg gvn gdn gne) → va_S A s.heap H locs → lv_has ls 9 [(0, .ref (a0 0)), (1, .int x1), (2, .int x2), (3, .int x3), (4, .int x4), (5, .int x5), (6, .int x6), (7, .int x7)] → W p l e rm_X12_hedge s m aa below meth c H locs 2 12 (vx_MQ below qq xx aa s 2 12 A) (F0 m 40 ls [])), ∀ (gne : (Nat → Nat → Int32) × (Nat → Nat → Int64)) (x1 : Int32) (x2 : Int32) (x3 : Int32) (x4 : Int32) (x5 : Int32) (x6 : Int32) (x7 : Int32) (H : Heap) (locs : List Loc) (ls : Array Slot), p_X12_hedge_110 k40 gg gvn gdn gne x1 x2 x3 x4 x5 x6 x7 = some R0 → va_P (dC, dI) vwCl (w_X12_hedge cy a0 gg gvn gdn gne) H → va_D A (w_X12_hedge cy a0 gg gvn gdn gne) → va_S A s.heap H locs → lv_has ls 9 [(0, .ref (a0 0)), (1, .int x1), (2, .int x2), (3, .int x3), (4, .int x4), (5, .int x5), (6, .int x6), (7, .int x7)] → W p l e rm_X12_hedge s m aa below meth c H locs 2 12 (vx_MQ below qq xx aa s 2 12 A) (F0 m 110 ls []) := by
    intro k40 hk40 gne x1 x2 x3 x4 x5 x6 x7 H locs ls h hP hD hS hl
    unfold p_X12_hedge_110 at h
    refine lv_iinc (v := (x7 + (1 : Int32))) (lv' := [(7, .int (x7 + (1 : Int32))), (0, .ref (a0 0)), (1, .int x1), (2, .int x2), (3, .int x3), (4, .int x4), (5, .int x5), (6, .int x6)]) hx hb dX12_hedge_110 hl (k := 7) rfl rfl (by decide) rfl (fun ls hl => ?_)
    refine lv_goto (tgt := 40) hx hb dX12_hedge_113 (by decide) ?_
    exact hk40 gne x1 x2 x3 x4 x5 x6 (x7 + (1 : Int32)) H locs ls h hP hD hS (lv_sub hl [1, 2, 3, 4, 5, 6, 7, 0] rfl)
  have c72 : ∀ (k40 : ((Nat → Nat → Int32) × (Nat → Nat → Int64)) → Int32 → Int32 → Int32 → Int32 → Int32 → Int32 → Int32 → Option ((Int32 ⊕ Nat) × (((Nat → Nat → Int32) × (Nat → Nat → Int64))))) (hk40 : ∀ (gne : (Nat → Nat → Int32) × (Nat → Nat → Int64)) (x1 : Int32) (x2 : Int32) (x3 : Int32) (x4 : Int32) (x5 : Int32) (x6 : Int32) (x7 : Int32) (H : Heap) (locs : List Loc) (ls : Array Slot), k40 gne x1 x2 x3 x4 x5 x6 x7 = some R0 → va_P (dC, dI) vwCl (w_X12_hedge cy a0 gg gvn gdn gne) H → va_D A (w_X12_hedge cy a0 gg gvn gdn gne) → va_S A s.heap H locs → lv_has ls 9 [(0, .ref (a0 0)), (1, .int x1), (2, .int x2), (3, .int x3), (4, .int x4), (5, .int x5), (6, .int x6), (7, .int x7)] → W p l e rm_X12_hedge s m aa below meth c H locs 2 12 (vx_MQ below qq xx aa s 2 12 A) (F0 m 40 ls [])), ∀ (gne : (Nat → Nat → Int32) × (Nat → Nat → Int64)) (x1 : Int32) (x2 : Int32) (x3 : Int32) (x4 : Int32) (x5 : Int32) (x6 : Int32) (x7 : Int32) (t0 : Int32) (H : Heap) (locs : List Loc) (ls : Array Slot), p_X12_hedge_72 k40 gg gvn gdn gne x1 x2 x3 x4 x5 x6 x7 t0 = some R0 → va_P (dC, dI) vwCl (w_X12_hedge cy a0 gg gvn gdn gne) H → va_D A (w_X12_hedge cy a0 gg gvn gdn gne) → va_S A s.heap H locs → lv_has ls 9 [(0, .ref (a0 0)), (1, .int x1), (2, .int x2), (3, .int x3), (4, .int x4), (5, .int x5), (6, .int x6), (7, .int x7)] → W p l e rm_X12_hedge s m aa below meth c H locs 2 12 (vx_MQ below qq xx aa s 2 12 A) (F0 m 72 ls [.int t0]) := by
    intro k40 hk40 gne x1 x2 x3 x4 x5 x6 x7 t0 H locs ls h hP hD hS hl
    unfold p_X12_hedge_72 at h
    refine lv_istore (lv' := [(8, .int t0), (0, .ref (a0 0)), (1, .int x1), (2, .int x2), (3, .int x3), (4, .int x4), (5, .int x5), (6, .int x6), (7, .int x7)]) hx hb dX12_hedge_72 hl (by decide) rfl (fun ls hl => ?_)
    refine lv_iload hx hb dX12_hedge_74 (lv_at hl 8 rfl) ?_
    refine lv_iload hx hb dX12_hedge_76 (lv_at hl 6 rfl) ?_
    refine lv_iconst (v := (-1 : Int32)) hx hb dX12_hedge_78 (by decide) ?_
    refine lv_ixor hx hb dX12_hedge_79 ?_
    refine lv_iand hx hb dX12_hedge_80 ?_
    refine lv_if_ne (tgt := 110) hx hb dX12_hedge_81 (by decide) (fun c1 => ?_) (fun c1 => ?_)
    · rw [if_neg c1] at h
      exact c110 k40 hk40 gne x1 x2 x3 x4 x5 x6 x7 H locs ls h hP hD hS (lv_sub hl [1, 2, 3, 4, 5, 6, 7, 8] rfl)
    · rw [if_pos c1] at h
      refine lv_iload hx hb dX12_hedge_84 (lv_at hl 0 rfl) ?_
      refine lv_if_eq (tgt := 110) hx hb dX12_hedge_86 (by decide) (fun c2 => ?_) (fun c2 => ?_)
      · rw [if_pos c2] at h
        exact c110 k40 hk40 gne x1 x2 x3 x4 x5 x6 x7 H locs ls h hP hD hS (lv_sub hl [1, 2, 3, 4, 5, 6, 7, 8] rfl)
      · rw [if_neg c2] at h
        refine lv_aload_n hx hb dX12_hedge_89 rfl (lv_at hl 1 rfl) ?_
        refine va_get (D := (dC, dI)) (ci := 10) (v := .ref (a0 50)) (C := RX12) (T := TX12) (N := 17) hx hb hts in_X12 hown hK hP 0 rfl rfl 13 (by decide) lk0 (fun _ h9 => h9) rfl dX12_hedge_90 ?_
        refine lv_iload_n hx hb dX12_hedge_93 rfl (lv_at hl 2 rfl) ?_
        refine lv_iload hx hb dX12_hedge_94 (lv_at hl 8 rfl) ?_
        refine lv_iload hx hb dX12_hedge_96 (lv_at hl 5 rfl) ?_
        refine lv_iload_n hx hb dX12_hedge_98 rfl (lv_at hl 3 rfl) ?_
        refine lv_iload_n hx hb dX12_hedge_99 rfl (lv_at hl 4 rfl) ?_
        obtain ⟨v3, hv4, h⟩ := ok_bind h
        refine cl_vi (w2 := fun (_ : Unit) => w_X12_hedge cy a0 gg gvn gdn gne) (As := [.int x1, .int x7, .int x4, .int x2, .int x3]) (rest := []) ⟨hx, hb, hml, hown, hts⟩ (c_X6_standsAlike l dC dI cy (fun k => a0 (k + 50)) gne x1 x7 x4 x2 x3 H.size v3 hv4) (cwV 5 hts gX12_hedge_X6_standsAlike rfl rfl rfl (by decide +kernel) ⟨Nat.le_of_ble_eq_true rfl, Nat.le_of_ble_eq_true rfl⟩) (va_recv hK hP (ci := 4) (q0 := 12) rfl rfl) cl_blind (cl_pre hK hP hD [12, 13, 14, 15, 16, 17, 18, 19, 20, 21, 22, 23, 24, 25, 26, 27, 28, 29] (by decide) rfl) hP hD hS hA [12, 13, 14, 15, 16, 17, 18, 19, 20, 21, 22, 23, 24, 25, 26, 27, 28, 29] rfl rfl hl.1 rfl (lv_room (Nat.le_of_ble_eq_true rfl)) dX12_hedge_100 ⟨Nat.le_of_ble_eq_true rfl, Nat.le_of_ble_eq_true rfl⟩ ⟨rfl, rfl⟩ (fun _ => updR [12, 13, 14, 15, 16, 17, 18, 19, 20, 21, 22, 23, 24, 25, 26, 27, 28, 29] rfl) (fun r u H locs hw hP hD hS => ?_)
        have hw := hw.symm
        subst hw
        have hP : va_P (dC, dI) vwCl (w_X12_hedge cy a0 gg gvn gdn gne) H := hP
        have hD : va_D A (w_X12_hedge cy a0 gg gvn gdn gne) := hD
        refine lv_if_eq (tgt := 110) hx hb dX12_hedge_103 (by decide) (fun c5 => ?_) (fun c5 => ?_)
        · rw [if_pos c5] at h
          exact c110 k40 hk40 gne x1 x2 x3 x4 x5 x6 x7 H locs ls h hP hD hS (lv_sub hl [1, 2, 3, 4, 5, 6, 7, 8] rfl)
        · rw [if_neg c5] at h
          refine lv_iload hx hb dX12_hedge_106 (lv_at hl 8 rfl) ?_
          refine lv_istore (lv' := [(6, .int x7), (8, .int t0), (0, .ref (a0 0)), (1, .int x1), (2, .int x2), (3, .int x3), (4, .int x4), (5, .int x5), (7, .int x7)]) hx hb dX12_hedge_108 hl (by decide) rfl (fun ls hl => ?_)
          exact c110 k40 hk40 gne x1 x2 x3 x4 x5 x7 x7 H locs ls h hP hD hS (lv_sub hl [2, 3, 4, 5, 6, 7, 0, 8] rfl)
  have c67 : ∀ (k40 : ((Nat → Nat → Int32) × (Nat → Nat → Int64)) → Int32 → Int32 → Int32 → Int32 → Int32 → Int32 → Int32 → Option ((Int32 ⊕ Nat) × (((Nat → Nat → Int32) × (Nat → Nat → Int64))))) (hk40 : ∀ (gne : (Nat → Nat → Int32) × (Nat → Nat → Int64)) (x1 : Int32) (x2 : Int32) (x3 : Int32) (x4 : Int32) (x5 : Int32) (x6 : Int32) (x7 : Int32) (H : Heap) (locs : List Loc) (ls : Array Slot), k40 gne x1 x2 x3 x4 x5 x6 x7 = some R0 → va_P (dC, dI) vwCl (w_X12_hedge cy a0 gg gvn gdn gne) H → va_D A (w_X12_hedge cy a0 gg gvn gdn gne) → va_S A s.heap H locs → lv_has ls 9 [(0, .ref (a0 0)), (1, .int x1), (2, .int x2), (3, .int x3), (4, .int x4), (5, .int x5), (6, .int x6), (7, .int x7)] → W p l e rm_X12_hedge s m aa below meth c H locs 2 12 (vx_MQ below qq xx aa s 2 12 A) (F0 m 40 ls [])), ∀ (gne : (Nat → Nat → Int32) × (Nat → Nat → Int64)) (x1 : Int32) (x2 : Int32) (x3 : Int32) (x4 : Int32) (x5 : Int32) (x6 : Int32) (x7 : Int32) (H : Heap) (locs : List Loc) (ls : Array Slot), p_X12_hedge_67 k40 gg gvn gdn gne x1 x2 x3 x4 x5 x6 x7 = some R0 → va_P (dC, dI) vwCl (w_X12_hedge cy a0 gg gvn gdn gne) H → va_D A (w_X12_hedge cy a0 gg gvn gdn gne) → va_S A s.heap H locs → lv_has ls 9 [(0, .ref (a0 0)), (1, .int x1), (2, .int x2), (3, .int x3), (4, .int x4), (5, .int x5), (6, .int x6), (7, .int x7)] → W p l e rm_X12_hedge s m aa below meth c H locs 2 12 (vx_MQ below qq xx aa s 2 12 A) (F0 m 67 ls []) := by
    intro k40 hk40 gne x1 x2 x3 x4 x5 x6 x7 H locs ls h hP hD hS hl
    unfold p_X12_hedge_67 at h
    refine lv_iconst (v := (1 : Int32)) hx hb dX12_hedge_67 (by decide) ?_
    refine lv_goto (tgt := 72) hx hb dX12_hedge_68 (by decide) ?_
    exact c72 k40 hk40 gne x1 x2 x3 x4 x5 x6 x7 (1 : Int32) H locs ls h hP hD hS (lv_sub hl [0, 1, 2, 3, 4, 5, 6, 7] rfl)
  have c40 : ∀ (n : Nat), ∀ (gne : (Nat → Nat → Int32) × (Nat → Nat → Int64)) (x1 : Int32) (x2 : Int32) (x3 : Int32) (x4 : Int32) (x5 : Int32) (x6 : Int32) (x7 : Int32) (H : Heap) (locs : List Loc) (ls : Array Slot), p_X12_hedge_40 gg gvn gdn n gne x1 x2 x3 x4 x5 x6 x7 = some R0 → va_P (dC, dI) vwCl (w_X12_hedge cy a0 gg gvn gdn gne) H → va_D A (w_X12_hedge cy a0 gg gvn gdn gne) → va_S A s.heap H locs → lv_has ls 9 [(0, .ref (a0 0)), (1, .int x1), (2, .int x2), (3, .int x3), (4, .int x4), (5, .int x5), (6, .int x6), (7, .int x7)] → W p l e rm_X12_hedge s m aa below meth c H locs 2 12 (vx_MQ below qq xx aa s 2 12 A) (F0 m 40 ls []) := by
    intro  n
    induction n with
    | zero => intro gne x1 x2 x3 x4 x5 x6 x7 H locs ls h; exact no_some h
    | succ n ih =>
      intro gne x1 x2 x3 x4 x5 x6 x7 H locs ls h hP hD hS hl
      rw [p_X12_hedge_40.eq_2] at h
      refine lv_iload hx hb dX12_hedge_40 (lv_at hl 7 rfl) ?_
      refine lv_sipush (v := (1024 : Int32)) hx hb dX12_hedge_42 (by decide) ?_
      refine lv_icmp_ge (tgt := 116) hx hb dX12_hedge_45 (by decide) (fun c1 => ?_) (fun c1 => ?_)
      · rw [if_pos c1] at h
        refine lv_iload hx hb dX12_hedge_116 (lv_at hl 6 rfl) ?_
        refine vx_ret ?_
        exact W.iret (v := x6) hx hb hr (fun t ht hW => by rw [hqq]; have hh := Option.some.inj h; exact ⟨⟨x6, (gne), rfl, ⟨fst_of hh, snd_of hh⟩, by rw [ht]; exact hP, va_K.moved hW.alike hK⟩, hS.F ht⟩) hS.2.2 dX12_hedge_118
      · rw [if_neg c1] at h
        refine lv_iload hx hb dX12_hedge_48 (lv_at hl 6 rfl) ?_
        refine lv_iconst (v := (-1 : Int32)) hx hb dX12_hedge_50 (by decide) ?_
        refine lv_icmp_eq (tgt := 67) hx hb dX12_hedge_51 (by decide) (fun c2 => ?_) (fun c2 => ?_)
        · rw [if_pos c2] at h
          exact c67 (p_X12_hedge_40 gg gvn gdn n) ih gne x1 x2 x3 x4 x5 x6 x7 H locs ls h hP hD hS (lv_sub hl [0, 1, 2, 3, 4, 5, 6, 7] rfl)
        · rw [if_neg c2] at h
          refine lv_iload hx hb dX12_hedge_54 (lv_at hl 7 rfl) ?_
          obtain ⟨v3, hv4, h⟩ := ok_bind h
          refine cl_si (w2 := fun (_ : Unit) => w_X12_hedge cy a0 gg gvn gdn gne) (As := [.int x7]) (rest := []) ⟨hx, hb, hml, hown, hts⟩ (c_J6_bitCount_0f7a4 l dC dI cy  x7 H.size v3 hv4) (va_cwS 1 hts gX12_hedge_J6_bitCount_0f7a4 rfl rfl rfl (by decide +kernel) ⟨Nat.le_of_ble_eq_true rfl, Nat.le_of_ble_eq_true rfl⟩) cl_blind (cl_pre hK hP hD [] (by decide) rfl) hP hD hS hA [] rfl rfl hl.1 rfl (lv_room (Nat.le_of_ble_eq_true rfl)) dX12_hedge_56 ⟨Nat.le_of_ble_eq_true rfl, Nat.le_of_ble_eq_true rfl⟩ ⟨rfl, rfl⟩ (fun _ => updR [] rfl) (fun r u H locs hw hP hD hS => ?_)
          have hw := hw.symm
          subst hw
          have hP : va_P (dC, dI) vwCl (w_X12_hedge cy a0 gg gvn gdn gne) H := hP
          have hD : va_D A (w_X12_hedge cy a0 gg gvn gdn gne) := hD
          refine lv_iload hx hb dX12_hedge_59 (lv_at hl 6 rfl) ?_
          obtain ⟨v5, hv6, h⟩ := ok_bind h
          refine cl_si (w2 := fun (_ : Unit) => w_X12_hedge cy a0 gg gvn gdn gne) (As := [.int x6]) (rest := [.int v3]) ⟨hx, hb, hml, hown, hts⟩ (c_J6_bitCount_0f7a4 l dC dI cy  x6 H.size v5 hv6) (va_cwS 1 hts gX12_hedge_J6_bitCount_0f7a4 rfl rfl rfl (by decide +kernel) ⟨Nat.le_of_ble_eq_true rfl, Nat.le_of_ble_eq_true rfl⟩) cl_blind (cl_pre hK hP hD [] (by decide) rfl) hP hD hS hA [] rfl rfl hl.1 rfl (lv_room (Nat.le_of_ble_eq_true rfl)) dX12_hedge_61 ⟨Nat.le_of_ble_eq_true rfl, Nat.le_of_ble_eq_true rfl⟩ ⟨rfl, rfl⟩ (fun _ => updR [] rfl) (fun r u H locs hw hP hD hS => ?_)
          have hw := hw.symm
          subst hw
          have hP : va_P (dC, dI) vwCl (w_X12_hedge cy a0 gg gvn gdn gne) H := hP
          have hD : va_D A (w_X12_hedge cy a0 gg gvn gdn gne) := hD
          refine lv_icmp_ge (tgt := 71) hx hb dX12_hedge_64 (by decide) (fun c7 => ?_) (fun c7 => ?_)
          · rw [if_pos c7] at h
            refine lv_iconst (v := (0 : Int32)) hx hb dX12_hedge_71 (by decide) ?_
            exact c72 (p_X12_hedge_40 gg gvn gdn n) ih gne x1 x2 x3 x4 x5 x6 x7 (0 : Int32) H locs ls h hP hD hS (lv_sub hl [0, 1, 2, 3, 4, 5, 6, 7] rfl)
          · rw [if_neg c7] at h
            exact c67 (p_X12_hedge_40 gg gvn gdn n) ih gne x1 x2 x3 x4 x5 x6 x7 H locs ls h hP hD hS (lv_sub hl [0, 1, 2, 3, 4, 5, 6, 7] rfl)
  obtain ⟨H, hH⟩ : ∃ H : Heap, H = s.heap := ⟨_, rfl⟩
  obtain ⟨locs, hlocs⟩ : ∃ locs : List Loc, locs = [] := ⟨_, rfl⟩
  have hS : va_S A s.heap H locs := by rw [hH, hlocs]; exact hS
  rw [← hH] at hP
  suffices hg : W p l e rm_X12_hedge s m aa below meth c H locs 0 0 (vx_MQ below qq xx aa s 2 12 A) (F0 m 0 ls []) by subst hH; subst hlocs; exact hg
  unfold p_X12_hedge at h
  refine lv_aload_n hx hb dX12_hedge_0 rfl (lv_at hl 0 rfl) ?_
  refine lv_iload_n hx hb dX12_hedge_1 rfl (lv_at hl 1 rfl) ?_
  obtain ⟨v1, hv2, h⟩ := ok_bind h
  refine cx_vv (w2 := fun (_ : Unit) => w_X12_hedge cy a0 gg gvn gdn gne) (w2x := fun (_ : Unit) => w_X12_hedge cy a0 gg gvn gdn gne) (As := [.int x1]) (rest := []) ⟨hx, hb, hml, hown, hts⟩ (c_X12_needOwner l dC dI cy z hl9 a0 gg gvn x1 H.size v1 hv2) (cwV 1 hts gX12_hedge_X12_needOwner rfl rfl rfl (by decide +kernel) ⟨Nat.le_of_ble_eq_true rfl, Nat.le_of_ble_eq_true rfl⟩) (va_recv hK hP (ci := 10) (q0 := 0) rfl rfl) cl_blindS (cl_preS hK hP hD hS hA hX [0, 1, 7, 8, 9, 10, 11] (by decide) rfl) hP hD hS hA [0, 1, 7, 8, 9, 10, 11] rfl rfl hl.1 rfl (lv_room (Nat.le_of_ble_eq_true rfl)) dX12_hedge_2 ⟨Nat.le_of_ble_eq_true rfl, Nat.le_of_ble_eq_true rfl⟩ (cells' := 1) (slots' := 6) ⟨rfl, rfl⟩ (fun _ => updR [0, 1, 7, 8, 9, 10, 11] rfl) (fun _ => updR [0, 1, 7, 8, 9, 10, 11] rfl) (fun E ce q9 u H locs hw hE hP hD hS hc1 hc2 hc3 => ?_) (fun u H locs hw hP hD hS => ?_)
  · subst hw
    have hP : va_P (dC, dI) vwCl (w_X12_hedge cy a0 gg gvn gdn gne) H := hP
    obtain ⟨hE1, hE2⟩ := exE_pass hE h
    exact vx_out (fun x9 hx9 => (htab x9 hx9).elim) hlocks hc1 hc2 hc3 (fun t h1 h2 => by rw [hxx]; exact ⟨_, hE2.symm, ⟨hE1, by rw [h1]; exact hP, va_K.moved h2 hK⟩, hS.F h1⟩) hS.2.2 (by decide) (by decide)
  obtain ⟨hw1, hw2⟩ := hw
  subst hw2
  rw [← hw1] at h
  dsimp only [xb] at h
  have hP : va_P (dC, dI) vwCl (w_X12_hedge cy a0 gg gvn gdn gne) H := hP
  have hD : va_D A (w_X12_hedge cy a0 gg gvn gdn gne) := hD
  refine lv_iload_n hx hb dX12_hedge_5 rfl (lv_at hl 2 rfl) ?_
  refine lv_iload_n hx hb dX12_hedge_6 rfl (lv_at hl 3 rfl) ?_
  obtain ⟨v3, hv4, h⟩ := ok_bind h
  refine cx_sv (w2 := fun (_ : Unit) => w_X12_hedge cy a0 gg gvn gdn gne) (w2x := fun (_ : Unit) => w_X12_hedge cy a0 gg gvn gdn gne) (As := [.int x2, .int x3]) (rest := []) ⟨hx, hb, hml, hown, hts⟩ (c_X12_needBases l dC dI cy z hl9  x2 x3 H.size v3 hv4) (va_cwS 2 hts gX12_hedge_X12_needBases rfl rfl rfl (by decide +kernel) ⟨Nat.le_of_ble_eq_true rfl, Nat.le_of_ble_eq_true rfl⟩) cl_blindS (cl_preS hK hP hD hS hA hX [] (by decide) rfl) hP hD hS hA [] rfl rfl hl.1 rfl (lv_room (Nat.le_of_ble_eq_true rfl)) dX12_hedge_7 ⟨Nat.le_of_ble_eq_true rfl, Nat.le_of_ble_eq_true rfl⟩ (cells' := 2) (slots' := 12) ⟨rfl, rfl⟩ (fun _ => updR [] rfl) (fun _ => updR [] rfl) (fun E ce q9 u H locs hw hE hP hD hS hc1 hc2 hc3 => ?_) (fun u H locs hw hP hD hS => ?_)
  · subst hw
    have hP : va_P (dC, dI) vwCl (w_X12_hedge cy a0 gg gvn gdn gne) H := hP
    obtain ⟨hE1, hE2⟩ := exE_pass hE h
    exact vx_out (fun x9 hx9 => (htab x9 hx9).elim) hlocks hc1 hc2 hc3 (fun t h1 h2 => by rw [hxx]; exact ⟨_, hE2.symm, ⟨hE1, by rw [h1]; exact hP, va_K.moved h2 hK⟩, hS.F h1⟩) hS.2.2 (by decide) (by decide)
  obtain ⟨hw1, hw2⟩ := hw
  subst hw2
  rw [← hw1] at h
  dsimp only [xb] at h
  have hP : va_P (dC, dI) vwCl (w_X12_hedge cy a0 gg gvn gdn gne) H := hP
  have hD : va_D A (w_X12_hedge cy a0 gg gvn gdn gne) := hD
  refine lv_aload_n hx hb dX12_hedge_10 rfl (lv_at hl 0 rfl) ?_
  refine va_get (D := (dC, dI)) (ci := 10) (v := .ref (a0 50)) (C := RX12) (T := TX12) (N := 17) hx hb hts in_X12 hown hK hP 0 rfl rfl 13 (by decide) lk0 (fun _ h9 => h9) rfl dX12_hedge_11 ?_
  refine lv_aload_n hx hb dX12_hedge_14 rfl (lv_at hl 0 rfl) ?_
  refine va_get (D := (dC, dI)) (ci := 10) (v := .ref (a0 2)) (C := RX12) (T := TX12) (N := 17) hx hb hts in_X12 hown hK hP 0 rfl rfl 6 (by decide) lk1 (fun _ h9 => h9) rfl dX12_hedge_15 ?_
  obtain ⟨v5, hv6, h⟩ := ok_bind h
  refine cl_vv (w2 := fun (u : ((Nat → Nat → Int32) × (Nat → Nat → Int64))) => w_X12_hedge cy a0 gg gvn gdn u) (As := [.ref (a0 2)]) (rest := []) ⟨hx, hb, hml, hown, hts⟩ (c_X6_fill l dC dI cy (fun k => a0 (k + 50)) (fun k => a0 (k + 2)) gne gvn gdn H.size v5 hv6) (cwV 1 hts gX12_hedge_X6_fill rfl rfl rfl (by decide +kernel) ⟨Nat.le_of_ble_eq_true rfl, Nat.le_of_ble_eq_true rfl⟩) (va_recv hK hP (ci := 4) (q0 := 12) rfl rfl) cl_blind (cl_pre hK hP hD [12, 13, 14, 15, 16, 17, 18, 19, 20, 21, 22, 23, 24, 25, 26, 27, 28, 29, 1, 2, 3, 4, 5, 6, 7, 8, 9, 10, 11] (by decide) rfl) hP hD hS hA [12, 13, 14, 15, 16, 17, 18, 19, 20, 21, 22, 23, 24, 25, 26, 27, 28, 29, 1, 2, 3, 4, 5, 6, 7, 8, 9, 10, 11] rfl rfl hl.1 rfl (lv_room (Nat.le_of_ble_eq_true rfl)) dX12_hedge_18 ⟨Nat.le_of_ble_eq_true rfl, Nat.le_of_ble_eq_true rfl⟩ ⟨rfl, rfl⟩ (fun _ => updM [12, 13, 14, 15, 16, 17, 18, 19, 20, 21, 22, 23, 24, 25, 26, 27, 28, 29, 1, 2, 3, 4, 5, 6, 7, 8, 9, 10, 11] [0] 30 rfl rfl rfl rfl (by decide +kernel) (by decide +kernel) rfl) (fun u H locs hw hP hD hS => ?_)
  have hw := hw.symm
  subst hw
  have hP : va_P (dC, dI) vwCl (w_X12_hedge cy a0 gg gvn gdn v5) H := hP
  have hD : va_D A (w_X12_hedge cy a0 gg gvn gdn v5) := hD
  refine lv_aload_n hx hb dX12_hedge_21 rfl (lv_at hl 0 rfl) ?_
  refine va_get (D := (dC, dI)) (ci := 10) (v := .ref (a0 2)) (C := RX12) (T := TX12) (N := 17) hx hb hts in_X12 hown hK hP 0 rfl rfl 6 (by decide) lk1 (fun _ h9 => h9) rfl dX12_hedge_22 ?_
  refine va_get (D := (dC, dI)) (ci := 7) (v := .ref (a0 3)) (C := RX9) (T := TX9) (N := 9) hx hb hts in_X9 hown hK hP 1 rfl rfl 2 (by decide) lk2 (fun _ h9 => h9) rfl dX12_hedge_25 ?_
  refine lv_iload_n hx hb dX12_hedge_28 rfl (lv_at hl 1 rfl) ?_
  obtain ⟨v7, hv8, h⟩ := ok_bind h
  refine cl_vi (w2 := fun (_ : Unit) => w_X12_hedge cy a0 gg gvn gdn v5) (As := [.int x1]) (rest := []) ⟨hx, hb, hml, hown, hts⟩ (c_X4_bitsWithout l dC dI cy (fun k => a0 (k + 3)) gdn x1 H.size v7 hv8) (cwV 1 hts gX12_hedge_X4_bitsWithout rfl rfl rfl (by decide +kernel) ⟨Nat.le_of_ble_eq_true rfl, Nat.le_of_ble_eq_true rfl⟩) (va_recv hK hP (ci := 2) (q0 := 2) rfl rfl) cl_blind (cl_pre hK hP hD [2, 3, 4, 5, 6] (by decide) rfl) hP hD hS hA [2, 3, 4, 5, 6] rfl rfl hl.1 rfl (lv_room (Nat.le_of_ble_eq_true rfl)) dX12_hedge_29 ⟨Nat.le_of_ble_eq_true rfl, Nat.le_of_ble_eq_true rfl⟩ ⟨rfl, rfl⟩ (fun _ => updR [2, 3, 4, 5, 6] rfl) (fun r u H locs hw hP hD hS => ?_)
  have hw := hw.symm
  subst hw
  have hP : va_P (dC, dI) vwCl (w_X12_hedge cy a0 gg gvn gdn v5) H := hP
  have hD : va_D A (w_X12_hedge cy a0 gg gvn gdn v5) := hD
  refine lv_istore (lv' := [(5, .int v7), (0, .ref (a0 0)), (1, .int x1), (2, .int x2), (3, .int x3), (4, .int x4)]) hx hb dX12_hedge_32 hl (by decide) rfl (fun ls hl => ?_)
  refine lv_iconst (v := (-1 : Int32)) hx hb dX12_hedge_34 (by decide) ?_
  refine lv_istore (lv' := [(6, .int (-1 : Int32)), (5, .int v7), (0, .ref (a0 0)), (1, .int x1), (2, .int x2), (3, .int x3), (4, .int x4)]) hx hb dX12_hedge_35 hl (by decide) rfl (fun ls hl => ?_)
  refine lv_iconst (v := (0 : Int32)) hx hb dX12_hedge_37 (by decide) ?_
  refine lv_istore (lv' := [(7, .int (0 : Int32)), (6, .int (-1 : Int32)), (5, .int v7), (0, .ref (a0 0)), (1, .int x1), (2, .int x2), (3, .int x3), (4, .int x4)]) hx hb dX12_hedge_38 hl (by decide) rfl (fun ls hl => ?_)
  exact c40 fu v5 x1 x2 x3 x4 v7 (-1 : Int32) (0 : Int32) H locs ls h hP hD hS (lv_sub hl [3, 4, 5, 6, 7, 2, 1, 0] rfl)

abbrev w_X12_areOwedApart (cy : Nat → ClassId) (a0 : Nat → Nat) (gg : Int32 × Int32 × Int32 × Int32 × Int32 × Int32) (gvn : Int32 × Int32 × (Nat → Int32) × (Nat → Int32) × (Nat → Int32) × (Nat → Int32) × (Nat → Int32)) (gdn : Int32 × Int32 × (Nat → Int32) × (Nat → Int32) × (Nat → Int32) × (Nat → Int32)) : va_W := [(a0 0, .inr (10, [.ref (a0 1), .int (gg.1), .int (gg.2.1), .int (gg.2.2.1), .int (gg.2.2.2.1), .int (gg.2.2.2.2.1), .ref (a0 2), .ref (a0 17), .ref (a0 32), .int (gg.2.2.2.2.2), .ref (a0 47), .ref (a0 48), .ref (a0 49), .ref (a0 50), .ref (a0 68), .ref (a0 78), .ref (a0 80)])), (a0 2, .inr (7, [.int (gvn.1), .int (gvn.2.1), .ref (a0 3), .ref (a0 8), .ref (a0 12), .ref (a0 13), .ref (a0 14), .ref (a0 15), .ref (a0 16)])), (a0 3, .inr (2, [.int (gdn.1), .int (gdn.2.1), .ref (a0 4), .ref (a0 5), .ref (a0 6), .ref (a0 7)])), (a0 4, .inl (cy 1, 10, .inl (gdn.2.2.1))), (a0 5, .inl (cy 1, 10, .inl (gdn.2.2.2.1))), (a0 6, .inl (cy 1, 10, .inl (gdn.2.2.2.2.1))), (a0 7, .inl (cy 1, 50, .inl (gdn.2.2.2.2.2))), (a0 12, .inl (cy 1, 5, .inl (gvn.2.2.1))), (a0 13, .inl (cy 1, 5, .inl (gvn.2.2.2.1))), (a0 14, .inl (cy 1, 5, .inl (gvn.2.2.2.2.1))), (a0 15, .inl (cy 1, 5, .inl (gvn.2.2.2.2.2.1))), (a0 16, .inl (cy 1, 5, .inl (gvn.2.2.2.2.2.2)))]
abbrev rm_X12_areOwedApart : Room := { frames := 2, cells := 0, slots := 0, locals := 42 }
def p_X12_areOwedApart (gg : Int32 × Int32 × Int32 × Int32 × Int32 × Int32) (gvn : Int32 × Int32 × (Nat → Int32) × (Nat → Int32) × (Nat → Int32) × (Nat → Int32) × (Nat → Int32)) (gdn : Int32 × Int32 × (Nat → Int32) × (Nat → Int32) × (Nat → Int32) × (Nat → Int32)) (x1 : Int32) (x2 : Int32) : Option (Int32) := ((p_X4_has gdn x1).bind fun v1 => (if v1 = (0 : Int32) then some (0 : Int32) else ((p_X4_has gdn x2).bind fun v4 => (if v4 = (0 : Int32) then some (0 : Int32) else ((p_X4_lenderOf gdn x1).bind fun v7 => ((p_X4_lenderOf gdn x2).bind fun v9 => (if v7 = v9 then some (0 : Int32) else some (1 : Int32))))))))
set_option maxHeartbeats 1000000 in
set_option maxRecDepth 100000 in
theorem c_X12_areOwedApart (l : Launch) (dC : Nat → ClassId) (dI : Nat → Nat → Nat) (cy : Nat → ClassId) (a0 : Nat → Nat) (gg : Int32 × Int32 × Int32 × Int32 × Int32 × Int32) (gvn : Int32 × Int32 × (Nat → Int32) × (Nat → Int32) × (Nat → Int32) × (Nat → Int32) × (Nat → Int32)) (gdn : Int32 × Int32 × (Nat → Int32) × (Nat → Int32) × (Nat → Int32) × (Nat → Int32)) (x1 : Int32) (x2 : Int32) (sz : Nat) (R0 : Int32) (h : p_X12_areOwedApart gg gvn gdn x1 x2 = some R0) : Met l yX12_areOwedApart wsX12_areOwedApart rm_X12_areOwedApart (va_Pc [.ref (a0 0), .int x1, .int x2] (prC dC dI cy (w_X12_areOwedApart cy a0 gg gvn gdn) sz)) (va_Qi (fun (r : Int32) (_ : Unit) => r = R0) (fun (_ : Unit) t => poC dC dI cy (w_X12_areOwedApart cy a0 gg gvn gdn) t) (va_A (w_X12_areOwedApart cy a0 gg gvn gdn) sz)) 0 0 (va_A (w_X12_areOwedApart cy a0 gg gvn gdn) sz) := by
  refine Met.ofW (cc := cX12_areOwedApart) (maxL := 3) (ret := (some .boolean)) (by decide) rfl ?_
  intro p e s m aa below meth c s₁ B hml hv
  obtain ⟨haa, hsz, hP, hK, hD0⟩ := hv
  have hx := B.exec
  have hb := B.bytes
  have hr := B.returns
  have hts := atoms_spec (ws := wsX12_areOwedApart) B.pre
  have hown : s.vm.findClass RX12 = some m.cls := findClass_of_methodNamed B.named
  have hlocks := B.notSynchronized
  subst hsz
  have hD := hD0.self (sz := s.heap.size)
  obtain ⟨qq, hqq⟩ : ∃ qq, qq = (va_Qi (fun (r : Int32) (_ : Unit) => r = R0) (fun (_ : Unit) t => poC dC dI cy (w_X12_areOwedApart cy a0 gg gvn gdn) t) (va_A (w_X12_areOwedApart cy a0 gg gvn gdn) s.heap.size)) := ⟨_, rfl⟩
  rw [← hqq]
  generalize hAe : va_A (w_X12_areOwedApart cy a0 gg gvn gdn) s.heap.size = A at hD hqq ⊢
  have hA : ∀ q : Nat, s.heap.size ≤ q → A q := fun q h => by rw [← hAe]; exact Or.inr h
  have hS : va_S A s.heap s.heap [] := va_S.rf
  have hl := lv_entry ([.ref (a0 0), .int x1, .int x2]) (n := 3) (Nat.le_of_ble_eq_true rfl)
  have hE : entryFrame m aa 3 = F0 m 0 ((lg_sl ([.ref (a0 0), .int x1, .int x2]) ++ List.replicate (3 - (lg_sl ([.ref (a0 0), .int x1, .int x2])).length) Slot.unset).toArray) [] := by rw [haa]; exact lg_entry_eq m _ 3
  refine W.eq hE ?_
  generalize (lg_sl ([.ref (a0 0), .int x1, .int x2]) ++ List.replicate (3 - (lg_sl ([.ref (a0 0), .int x1, .int x2])).length) Slot.unset).toArray = ls at hl ⊢
  have hl : lv_has ls 3 [(0, .ref (a0 0)), (1, .int x1), (2, .int x2)] := hl
  change W p l e rm_X12_areOwedApart s m aa below meth c s.heap [] 0 0 (MQ below qq aa s 0 0 A) (F0 m 0 ls [])
  have hS0 := hS
  have lk0 := hts (.fieldLink RX12 20 "GoatDoors" "now" "LGoatDoors$Village;") (by decide +kernel)
  have lk1 := hts (.fieldLink RX12 130 "GoatDoors$Village" "doors" "LGoatDoors$Doors;") (by decide +kernel)
  have in_X12 : ∀ w ∈ wsX120, w ∈ wsX12_areOwedApart := by decide +kernel
  have in_X9 : ∀ w ∈ wsX90, w ∈ wsX12_areOwedApart := by decide +kernel
  obtain ⟨H, hH⟩ : ∃ H : Heap, H = s.heap := ⟨_, rfl⟩
  obtain ⟨locs, hlocs⟩ : ∃ locs : List Loc, locs = [] := ⟨_, rfl⟩
  have hS : va_S A s.heap H locs := by rw [hH, hlocs]; exact hS
  rw [← hH] at hP
  suffices hg : W p l e rm_X12_areOwedApart s m aa below meth c H locs 0 0 (MQ below qq aa s 0 0 A) (F0 m 0 ls []) by subst hH; subst hlocs; exact hg
  unfold p_X12_areOwedApart at h
  refine lv_aload_n hx hb dX12_areOwedApart_0 rfl (lv_at hl 0 rfl) ?_
  refine va_get (D := (dC, dI)) (ci := 10) (v := .ref (a0 2)) (C := RX12) (T := TX12) (N := 17) hx hb hts in_X12 hown hK hP 0 rfl rfl 6 (by decide) lk0 (fun _ h9 => h9) rfl dX12_areOwedApart_1 ?_
  refine va_get (D := (dC, dI)) (ci := 7) (v := .ref (a0 3)) (C := RX9) (T := TX9) (N := 9) hx hb hts in_X9 hown hK hP 1 rfl rfl 2 (by decide) lk1 (fun _ h9 => h9) rfl dX12_areOwedApart_4 ?_
  refine lv_iload_n hx hb dX12_areOwedApart_7 rfl (lv_at hl 1 rfl) ?_
  obtain ⟨v1, hv2, h⟩ := ok_bind h
  refine cl_vi (w2 := fun (_ : Unit) => w_X12_areOwedApart cy a0 gg gvn gdn) (As := [.int x1]) (rest := []) ⟨hx, hb, hml, hown, hts⟩ (c_X4_has l dC dI cy (fun k => a0 (k + 3)) gdn x1 H.size v1 hv2) (cwV 1 hts gX12_areOwedApart_X4_has rfl rfl rfl (by decide +kernel) ⟨Nat.le_of_ble_eq_true rfl, Nat.le_of_ble_eq_true rfl⟩) (va_recv hK hP (ci := 2) (q0 := 2) rfl rfl) cl_blind (cl_pre hK hP hD [2, 3, 4, 5, 6] (by decide) rfl) hP hD hS hA [2, 3, 4, 5, 6] rfl rfl hl.1 rfl (lv_room (Nat.le_of_ble_eq_true rfl)) dX12_areOwedApart_8 ⟨Nat.le_of_ble_eq_true rfl, Nat.le_of_ble_eq_true rfl⟩ ⟨rfl, rfl⟩ (fun _ => updR [2, 3, 4, 5, 6] rfl) (fun r u H locs hw hP hD hS => ?_)
  have hw := hw.symm
  subst hw
  have hP : va_P (dC, dI) vwCl (w_X12_areOwedApart cy a0 gg gvn gdn) H := hP
  have hD : va_D A (w_X12_areOwedApart cy a0 gg gvn gdn) := hD
  refine lv_if_eq (tgt := 57) hx hb dX12_areOwedApart_11 (by decide) (fun c3 => ?_) (fun c3 => ?_)
  · rw [if_pos c3] at h
    refine lv_iconst (v := (0 : Int32)) hx hb dX12_areOwedApart_57 (by decide) ?_
    exact W.zret (v := (0 : Int32)) (ty := .boolean) hx hb hr rfl (fun t ht hW => by rw [hqq]; have hh := Option.some.inj h; exact ⟨⟨(0 : Int32), (()), rfl, Option.some.inj h, by rw [ht]; exact hP, va_K.moved hW.alike hK⟩, hS.F ht⟩) hS.2.2 dX12_areOwedApart_58
  · rw [if_neg c3] at h
    refine lv_aload_n hx hb dX12_areOwedApart_14 rfl (lv_at hl 0 rfl) ?_
    refine va_get (D := (dC, dI)) (ci := 10) (v := .ref (a0 2)) (C := RX12) (T := TX12) (N := 17) hx hb hts in_X12 hown hK hP 0 rfl rfl 6 (by decide) lk0 (fun _ h9 => h9) rfl dX12_areOwedApart_15 ?_
    refine va_get (D := (dC, dI)) (ci := 7) (v := .ref (a0 3)) (C := RX9) (T := TX9) (N := 9) hx hb hts in_X9 hown hK hP 1 rfl rfl 2 (by decide) lk1 (fun _ h9 => h9) rfl dX12_areOwedApart_18 ?_
    refine lv_iload_n hx hb dX12_areOwedApart_21 rfl (lv_at hl 2 rfl) ?_
    obtain ⟨v4, hv5, h⟩ := ok_bind h
    refine cl_vi (w2 := fun (_ : Unit) => w_X12_areOwedApart cy a0 gg gvn gdn) (As := [.int x2]) (rest := []) ⟨hx, hb, hml, hown, hts⟩ (c_X4_has l dC dI cy (fun k => a0 (k + 3)) gdn x2 H.size v4 hv5) (cwV 1 hts gX12_areOwedApart_X4_has rfl rfl rfl (by decide +kernel) ⟨Nat.le_of_ble_eq_true rfl, Nat.le_of_ble_eq_true rfl⟩) (va_recv hK hP (ci := 2) (q0 := 2) rfl rfl) cl_blind (cl_pre hK hP hD [2, 3, 4, 5, 6] (by decide) rfl) hP hD hS hA [2, 3, 4, 5, 6] rfl rfl hl.1 rfl (lv_room (Nat.le_of_ble_eq_true rfl)) dX12_areOwedApart_22 ⟨Nat.le_of_ble_eq_true rfl, Nat.le_of_ble_eq_true rfl⟩ ⟨rfl, rfl⟩ (fun _ => updR [2, 3, 4, 5, 6] rfl) (fun r u H locs hw hP hD hS => ?_)
    have hw := hw.symm
    subst hw
    have hP : va_P (dC, dI) vwCl (w_X12_areOwedApart cy a0 gg gvn gdn) H := hP
    have hD : va_D A (w_X12_areOwedApart cy a0 gg gvn gdn) := hD
    refine lv_if_eq (tgt := 57) hx hb dX12_areOwedApart_25 (by decide) (fun c6 => ?_) (fun c6 => ?_)
    · rw [if_pos c6] at h
      refine lv_iconst (v := (0 : Int32)) hx hb dX12_areOwedApart_57 (by decide) ?_
      exact W.zret (v := (0 : Int32)) (ty := .boolean) hx hb hr rfl (fun t ht hW => by rw [hqq]; have hh := Option.some.inj h; exact ⟨⟨(0 : Int32), (()), rfl, Option.some.inj h, by rw [ht]; exact hP, va_K.moved hW.alike hK⟩, hS.F ht⟩) hS.2.2 dX12_areOwedApart_58
    · rw [if_neg c6] at h
      refine lv_aload_n hx hb dX12_areOwedApart_28 rfl (lv_at hl 0 rfl) ?_
      refine va_get (D := (dC, dI)) (ci := 10) (v := .ref (a0 2)) (C := RX12) (T := TX12) (N := 17) hx hb hts in_X12 hown hK hP 0 rfl rfl 6 (by decide) lk0 (fun _ h9 => h9) rfl dX12_areOwedApart_29 ?_
      refine va_get (D := (dC, dI)) (ci := 7) (v := .ref (a0 3)) (C := RX9) (T := TX9) (N := 9) hx hb hts in_X9 hown hK hP 1 rfl rfl 2 (by decide) lk1 (fun _ h9 => h9) rfl dX12_areOwedApart_32 ?_
      refine lv_iload_n hx hb dX12_areOwedApart_35 rfl (lv_at hl 1 rfl) ?_
      obtain ⟨v7, hv8, h⟩ := ok_bind h
      refine cl_vi (w2 := fun (_ : Unit) => w_X12_areOwedApart cy a0 gg gvn gdn) (As := [.int x1]) (rest := []) ⟨hx, hb, hml, hown, hts⟩ (c_X4_lenderOf l dC dI cy (fun k => a0 (k + 3)) gdn x1 H.size v7 hv8) (cwV 1 hts gX12_areOwedApart_X4_lenderOf rfl rfl rfl (by decide +kernel) ⟨Nat.le_of_ble_eq_true rfl, Nat.le_of_ble_eq_true rfl⟩) (va_recv hK hP (ci := 2) (q0 := 2) rfl rfl) cl_blind (cl_pre hK hP hD [2, 3, 4, 5, 6] (by decide) rfl) hP hD hS hA [2, 3, 4, 5, 6] rfl rfl hl.1 rfl (lv_room (Nat.le_of_ble_eq_true rfl)) dX12_areOwedApart_36 ⟨Nat.le_of_ble_eq_true rfl, Nat.le_of_ble_eq_true rfl⟩ ⟨rfl, rfl⟩ (fun _ => updR [2, 3, 4, 5, 6] rfl) (fun r u H locs hw hP hD hS => ?_)
      have hw := hw.symm
      subst hw
      have hP : va_P (dC, dI) vwCl (w_X12_areOwedApart cy a0 gg gvn gdn) H := hP
      have hD : va_D A (w_X12_areOwedApart cy a0 gg gvn gdn) := hD
      refine lv_aload_n hx hb dX12_areOwedApart_39 rfl (lv_at hl 0 rfl) ?_
      refine va_get (D := (dC, dI)) (ci := 10) (v := .ref (a0 2)) (C := RX12) (T := TX12) (N := 17) hx hb hts in_X12 hown hK hP 0 rfl rfl 6 (by decide) lk0 (fun _ h9 => h9) rfl dX12_areOwedApart_40 ?_
      refine va_get (D := (dC, dI)) (ci := 7) (v := .ref (a0 3)) (C := RX9) (T := TX9) (N := 9) hx hb hts in_X9 hown hK hP 1 rfl rfl 2 (by decide) lk1 (fun _ h9 => h9) rfl dX12_areOwedApart_43 ?_
      refine lv_iload_n hx hb dX12_areOwedApart_46 rfl (lv_at hl 2 rfl) ?_
      obtain ⟨v9, hv10, h⟩ := ok_bind h
      refine cl_vi (w2 := fun (_ : Unit) => w_X12_areOwedApart cy a0 gg gvn gdn) (As := [.int x2]) (rest := [.int v7]) ⟨hx, hb, hml, hown, hts⟩ (c_X4_lenderOf l dC dI cy (fun k => a0 (k + 3)) gdn x2 H.size v9 hv10) (cwV 1 hts gX12_areOwedApart_X4_lenderOf rfl rfl rfl (by decide +kernel) ⟨Nat.le_of_ble_eq_true rfl, Nat.le_of_ble_eq_true rfl⟩) (va_recv hK hP (ci := 2) (q0 := 2) rfl rfl) cl_blind (cl_pre hK hP hD [2, 3, 4, 5, 6] (by decide) rfl) hP hD hS hA [2, 3, 4, 5, 6] rfl rfl hl.1 rfl (lv_room (Nat.le_of_ble_eq_true rfl)) dX12_areOwedApart_47 ⟨Nat.le_of_ble_eq_true rfl, Nat.le_of_ble_eq_true rfl⟩ ⟨rfl, rfl⟩ (fun _ => updR [2, 3, 4, 5, 6] rfl) (fun r u H locs hw hP hD hS => ?_)
      have hw := hw.symm
      subst hw
      have hP : va_P (dC, dI) vwCl (w_X12_areOwedApart cy a0 gg gvn gdn) H := hP
      have hD : va_D A (w_X12_areOwedApart cy a0 gg gvn gdn) := hD
      refine lv_icmp_eq (tgt := 57) hx hb dX12_areOwedApart_50 (by decide) (fun c11 => ?_) (fun c11 => ?_)
      · rw [if_pos c11] at h
        refine lv_iconst (v := (0 : Int32)) hx hb dX12_areOwedApart_57 (by decide) ?_
        exact W.zret (v := (0 : Int32)) (ty := .boolean) hx hb hr rfl (fun t ht hW => by rw [hqq]; have hh := Option.some.inj h; exact ⟨⟨(0 : Int32), (()), rfl, Option.some.inj h, by rw [ht]; exact hP, va_K.moved hW.alike hK⟩, hS.F ht⟩) hS.2.2 dX12_areOwedApart_58
      · rw [if_neg c11] at h
        refine lv_iconst (v := (1 : Int32)) hx hb dX12_areOwedApart_53 (by decide) ?_
        refine lv_goto (tgt := 58) hx hb dX12_areOwedApart_54 (by decide) ?_
        exact W.zret (v := (1 : Int32)) (ty := .boolean) hx hb hr rfl (fun t ht hW => by rw [hqq]; have hh := Option.some.inj h; exact ⟨⟨(1 : Int32), (()), rfl, Option.some.inj h, by rw [ht]; exact hP, va_K.moved hW.alike hK⟩, hS.F ht⟩) hS.2.2 dX12_areOwedApart_58

abbrev w_X12_eases (cy : Nat → ClassId) (a0 : Nat → Nat) (gg : Int32 × Int32 × Int32 × Int32 × Int32 × Int32) (gvn : Int32 × Int32 × (Nat → Int32) × (Nat → Int32) × (Nat → Int32) × (Nat → Int32) × (Nat → Int32)) (gdn : Int32 × Int32 × (Nat → Int32) × (Nat → Int32) × (Nat → Int32) × (Nat → Int32)) (gne : (Nat → Nat → Int32) × (Nat → Nat → Int64)) : va_W := [(a0 0, .inr (10, [.ref (a0 1), .int (gg.1), .int (gg.2.1), .int (gg.2.2.1), .int (gg.2.2.2.1), .int (gg.2.2.2.2.1), .ref (a0 2), .ref (a0 17), .ref (a0 32), .int (gg.2.2.2.2.2), .ref (a0 47), .ref (a0 48), .ref (a0 49), .ref (a0 50), .ref (a0 68), .ref (a0 78), .ref (a0 80)])), (a0 2, .inr (7, [.int (gvn.1), .int (gvn.2.1), .ref (a0 3), .ref (a0 8), .ref (a0 12), .ref (a0 13), .ref (a0 14), .ref (a0 15), .ref (a0 16)])), (a0 3, .inr (2, [.int (gdn.1), .int (gdn.2.1), .ref (a0 4), .ref (a0 5), .ref (a0 6), .ref (a0 7)])), (a0 4, .inl (cy 1, 10, .inl (gdn.2.2.1))), (a0 5, .inl (cy 1, 10, .inl (gdn.2.2.2.1))), (a0 6, .inl (cy 1, 10, .inl (gdn.2.2.2.2.1))), (a0 7, .inl (cy 1, 50, .inl (gdn.2.2.2.2.2))), (a0 12, .inl (cy 1, 5, .inl (gvn.2.2.1))), (a0 13, .inl (cy 1, 5, .inl (gvn.2.2.2.1))), (a0 14, .inl (cy 1, 5, .inl (gvn.2.2.2.2.1))), (a0 15, .inl (cy 1, 5, .inl (gvn.2.2.2.2.2.1))), (a0 16, .inl (cy 1, 5, .inl (gvn.2.2.2.2.2.2))), (a0 50, .inr (4, [.ref (a0 51), .ref (a0 62)])), (a0 51, .inl (cy 3, 10, .inr (.inr (.inr (.inr (fun i => some (a0 (52 + i)))))))), (a0 52, .inl (cy 1, 41, .inl (gne.1 0))), (a0 53, .inl (cy 1, 41, .inl (gne.1 1))), (a0 54, .inl (cy 1, 41, .inl (gne.1 2))), (a0 55, .inl (cy 1, 41, .inl (gne.1 3))), (a0 56, .inl (cy 1, 41, .inl (gne.1 4))), (a0 57, .inl (cy 1, 41, .inl (gne.1 5))), (a0 58, .inl (cy 1, 41, .inl (gne.1 6))), (a0 59, .inl (cy 1, 41, .inl (gne.1 7))), (a0 60, .inl (cy 1, 41, .inl (gne.1 8))), (a0 61, .inl (cy 1, 41, .inl (gne.1 9))), (a0 62, .inl (cy 4, 5, .inr (.inr (.inr (.inr (fun i => some (a0 (63 + i)))))))), (a0 63, .inl (cy 2, 41, .inr (.inl (gne.2 0)))), (a0 64, .inl (cy 2, 41, .inr (.inl (gne.2 1)))), (a0 65, .inl (cy 2, 41, .inr (.inl (gne.2 2)))), (a0 66, .inl (cy 2, 41, .inr (.inl (gne.2 3)))), (a0 67, .inl (cy 2, 41, .inr (.inl (gne.2 4))))]
abbrev rm_X12_eases : Room := { frames := 4, cells := 0, slots := 0, locals := 101 }
def p_X12_eases (gg : Int32 × Int32 × Int32 × Int32 × Int32 × Int32) (gvn : Int32 × Int32 × (Nat → Int32) × (Nat → Int32) × (Nat → Int32) × (Nat → Int32) × (Nat → Int32)) (gdn : Int32 × Int32 × (Nat → Int32) × (Nat → Int32) × (Nat → Int32) × (Nat → Int32)) (gne : (Nat → Nat → Int32) × (Nat → Nat → Int64)) (x1 : Int32) (x2 : Int32) (x3 : Int32) (x4 : Int32) : Option (Int32) := ((p_X4_lenderOf gdn x2).bind fun v1 => ((p_X4_debtorOf gdn x1).bind fun v3 => (if v3 = v1 then some (0 : Int32) else ((p_X6_spanWith gne v1 x2 x1 x3 x4).bind fun v6 => ((p_X6_spanOf gne v1 x3 x4).bind fun v8 => (if (0 : Int32) ≤ (lg_cmp v6 v8) then some (0 : Int32) else some (1 : Int32)))))))
set_option maxHeartbeats 1000000 in
set_option maxRecDepth 100000 in
theorem c_X12_eases (l : Launch) (dC : Nat → ClassId) (dI : Nat → Nat → Nat) (cy : Nat → ClassId) (a0 : Nat → Nat) (gg : Int32 × Int32 × Int32 × Int32 × Int32 × Int32) (gvn : Int32 × Int32 × (Nat → Int32) × (Nat → Int32) × (Nat → Int32) × (Nat → Int32) × (Nat → Int32)) (gdn : Int32 × Int32 × (Nat → Int32) × (Nat → Int32) × (Nat → Int32) × (Nat → Int32)) (gne : (Nat → Nat → Int32) × (Nat → Nat → Int64)) (x1 : Int32) (x2 : Int32) (x3 : Int32) (x4 : Int32) (sz : Nat) (R0 : Int32) (h : p_X12_eases gg gvn gdn gne x1 x2 x3 x4 = some R0) : Met l yX12_eases wsX12_eases rm_X12_eases (va_Pc [.ref (a0 0), .int x1, .int x2, .int x3, .int x4] (prC dC dI cy (w_X12_eases cy a0 gg gvn gdn gne) sz)) (va_Qi (fun (r : Int32) (_ : Unit) => r = R0) (fun (_ : Unit) t => poC dC dI cy (w_X12_eases cy a0 gg gvn gdn gne) t) (va_A (w_X12_eases cy a0 gg gvn gdn gne) sz)) 0 0 (va_A (w_X12_eases cy a0 gg gvn gdn gne) sz) := by
  refine Met.ofW (cc := cX12_eases) (maxL := 6) (ret := (some .boolean)) (by decide) rfl ?_
  intro p e s m aa below meth c s₁ B hml hv
  obtain ⟨haa, hsz, hP, hK, hD0⟩ := hv
  have hx := B.exec
  have hb := B.bytes
  have hr := B.returns
  have hts := atoms_spec (ws := wsX12_eases) B.pre
  have hown : s.vm.findClass RX12 = some m.cls := findClass_of_methodNamed B.named
  have hlocks := B.notSynchronized
  subst hsz
  have hD := hD0.self (sz := s.heap.size)
  obtain ⟨qq, hqq⟩ : ∃ qq, qq = (va_Qi (fun (r : Int32) (_ : Unit) => r = R0) (fun (_ : Unit) t => poC dC dI cy (w_X12_eases cy a0 gg gvn gdn gne) t) (va_A (w_X12_eases cy a0 gg gvn gdn gne) s.heap.size)) := ⟨_, rfl⟩
  rw [← hqq]
  generalize hAe : va_A (w_X12_eases cy a0 gg gvn gdn gne) s.heap.size = A at hD hqq ⊢
  have hA : ∀ q : Nat, s.heap.size ≤ q → A q := fun q h => by rw [← hAe]; exact Or.inr h
  have hS : va_S A s.heap s.heap [] := va_S.rf
  have hl := lv_entry ([.ref (a0 0), .int x1, .int x2, .int x3, .int x4]) (n := 6) (Nat.le_of_ble_eq_true rfl)
  have hE : entryFrame m aa 6 = F0 m 0 ((lg_sl ([.ref (a0 0), .int x1, .int x2, .int x3, .int x4]) ++ List.replicate (6 - (lg_sl ([.ref (a0 0), .int x1, .int x2, .int x3, .int x4])).length) Slot.unset).toArray) [] := by rw [haa]; exact lg_entry_eq m _ 6
  refine W.eq hE ?_
  generalize (lg_sl ([.ref (a0 0), .int x1, .int x2, .int x3, .int x4]) ++ List.replicate (6 - (lg_sl ([.ref (a0 0), .int x1, .int x2, .int x3, .int x4])).length) Slot.unset).toArray = ls at hl ⊢
  have hl : lv_has ls 6 [(0, .ref (a0 0)), (1, .int x1), (2, .int x2), (3, .int x3), (4, .int x4)] := hl
  change W p l e rm_X12_eases s m aa below meth c s.heap [] 0 0 (MQ below qq aa s 0 0 A) (F0 m 0 ls [])
  have hS0 := hS
  have lk0 := hts (.fieldLink RX12 20 "GoatDoors" "now" "LGoatDoors$Village;") (by decide +kernel)
  have lk1 := hts (.fieldLink RX12 130 "GoatDoors$Village" "doors" "LGoatDoors$Doors;") (by decide +kernel)
  have lk2 := hts (.fieldLink RX12 58 "GoatDoors" "nets" "LGoatDoors$Nets;") (by decide +kernel)
  have in_X12 : ∀ w ∈ wsX120, w ∈ wsX12_eases := by decide +kernel
  have in_X9 : ∀ w ∈ wsX90, w ∈ wsX12_eases := by decide +kernel
  obtain ⟨H, hH⟩ : ∃ H : Heap, H = s.heap := ⟨_, rfl⟩
  obtain ⟨locs, hlocs⟩ : ∃ locs : List Loc, locs = [] := ⟨_, rfl⟩
  have hS : va_S A s.heap H locs := by rw [hH, hlocs]; exact hS
  rw [← hH] at hP
  suffices hg : W p l e rm_X12_eases s m aa below meth c H locs 0 0 (MQ below qq aa s 0 0 A) (F0 m 0 ls []) by subst hH; subst hlocs; exact hg
  unfold p_X12_eases at h
  refine lv_aload_n hx hb dX12_eases_0 rfl (lv_at hl 0 rfl) ?_
  refine va_get (D := (dC, dI)) (ci := 10) (v := .ref (a0 2)) (C := RX12) (T := TX12) (N := 17) hx hb hts in_X12 hown hK hP 0 rfl rfl 6 (by decide) lk0 (fun _ h9 => h9) rfl dX12_eases_1 ?_
  refine va_get (D := (dC, dI)) (ci := 7) (v := .ref (a0 3)) (C := RX9) (T := TX9) (N := 9) hx hb hts in_X9 hown hK hP 1 rfl rfl 2 (by decide) lk1 (fun _ h9 => h9) rfl dX12_eases_4 ?_
  refine lv_iload_n hx hb dX12_eases_7 rfl (lv_at hl 2 rfl) ?_
  obtain ⟨v1, hv2, h⟩ := ok_bind h
  refine cl_vi (w2 := fun (_ : Unit) => w_X12_eases cy a0 gg gvn gdn gne) (As := [.int x2]) (rest := []) ⟨hx, hb, hml, hown, hts⟩ (c_X4_lenderOf l dC dI cy (fun k => a0 (k + 3)) gdn x2 H.size v1 hv2) (cwV 1 hts gX12_eases_X4_lenderOf rfl rfl rfl (by decide +kernel) ⟨Nat.le_of_ble_eq_true rfl, Nat.le_of_ble_eq_true rfl⟩) (va_recv hK hP (ci := 2) (q0 := 2) rfl rfl) cl_blind (cl_pre hK hP hD [2, 3, 4, 5, 6] (by decide) rfl) hP hD hS hA [2, 3, 4, 5, 6] rfl rfl hl.1 rfl (lv_room (Nat.le_of_ble_eq_true rfl)) dX12_eases_8 ⟨Nat.le_of_ble_eq_true rfl, Nat.le_of_ble_eq_true rfl⟩ ⟨rfl, rfl⟩ (fun _ => updR [2, 3, 4, 5, 6] rfl) (fun r u H locs hw hP hD hS => ?_)
  have hw := hw.symm
  subst hw
  have hP : va_P (dC, dI) vwCl (w_X12_eases cy a0 gg gvn gdn gne) H := hP
  have hD : va_D A (w_X12_eases cy a0 gg gvn gdn gne) := hD
  refine lv_istore (lv' := [(5, .int v1), (0, .ref (a0 0)), (1, .int x1), (2, .int x2), (3, .int x3), (4, .int x4)]) hx hb dX12_eases_11 hl (by decide) rfl (fun ls hl => ?_)
  refine lv_aload_n hx hb dX12_eases_13 rfl (lv_at hl 1 rfl) ?_
  refine va_get (D := (dC, dI)) (ci := 10) (v := .ref (a0 2)) (C := RX12) (T := TX12) (N := 17) hx hb hts in_X12 hown hK hP 0 rfl rfl 6 (by decide) lk0 (fun _ h9 => h9) rfl dX12_eases_14 ?_
  refine va_get (D := (dC, dI)) (ci := 7) (v := .ref (a0 3)) (C := RX9) (T := TX9) (N := 9) hx hb hts in_X9 hown hK hP 1 rfl rfl 2 (by decide) lk1 (fun _ h9 => h9) rfl dX12_eases_17 ?_
  refine lv_iload_n hx hb dX12_eases_20 rfl (lv_at hl 2 rfl) ?_
  obtain ⟨v3, hv4, h⟩ := ok_bind h
  refine cl_vi (w2 := fun (_ : Unit) => w_X12_eases cy a0 gg gvn gdn gne) (As := [.int x1]) (rest := []) ⟨hx, hb, hml, hown, hts⟩ (c_X4_debtorOf l dC dI cy (fun k => a0 (k + 3)) gdn x1 H.size v3 hv4) (cwV 1 hts gX12_eases_X4_debtorOf rfl rfl rfl (by decide +kernel) ⟨Nat.le_of_ble_eq_true rfl, Nat.le_of_ble_eq_true rfl⟩) (va_recv hK hP (ci := 2) (q0 := 2) rfl rfl) cl_blind (cl_pre hK hP hD [2, 3, 4, 5, 6] (by decide) rfl) hP hD hS hA [2, 3, 4, 5, 6] rfl rfl hl.1 rfl (lv_room (Nat.le_of_ble_eq_true rfl)) dX12_eases_21 ⟨Nat.le_of_ble_eq_true rfl, Nat.le_of_ble_eq_true rfl⟩ ⟨rfl, rfl⟩ (fun _ => updR [2, 3, 4, 5, 6] rfl) (fun r u H locs hw hP hD hS => ?_)
  have hw := hw.symm
  subst hw
  have hP : va_P (dC, dI) vwCl (w_X12_eases cy a0 gg gvn gdn gne) H := hP
  have hD : va_D A (w_X12_eases cy a0 gg gvn gdn gne) := hD
  refine lv_iload hx hb dX12_eases_24 (lv_at hl 0 rfl) ?_
  refine lv_icmp_eq (tgt := 63) hx hb dX12_eases_26 (by decide) (fun c5 => ?_) (fun c5 => ?_)
  · rw [if_pos c5] at h
    refine lv_iconst (v := (0 : Int32)) hx hb dX12_eases_63 (by decide) ?_
    exact W.zret (v := (0 : Int32)) (ty := .boolean) hx hb hr rfl (fun t ht hW => by rw [hqq]; have hh := Option.some.inj h; exact ⟨⟨(0 : Int32), (()), rfl, Option.some.inj h, by rw [ht]; exact hP, va_K.moved hW.alike hK⟩, hS.F ht⟩) hS.2.2 dX12_eases_64
  · rw [if_neg c5] at h
    refine lv_aload_n hx hb dX12_eases_29 rfl (lv_at hl 1 rfl) ?_
    refine va_get (D := (dC, dI)) (ci := 10) (v := .ref (a0 50)) (C := RX12) (T := TX12) (N := 17) hx hb hts in_X12 hown hK hP 0 rfl rfl 13 (by decide) lk2 (fun _ h9 => h9) rfl dX12_eases_30 ?_
    refine lv_iload hx hb dX12_eases_33 (lv_at hl 0 rfl) ?_
    refine lv_iload_n hx hb dX12_eases_35 rfl (lv_at hl 3 rfl) ?_
    refine lv_iload_n hx hb dX12_eases_36 rfl (lv_at hl 2 rfl) ?_
    refine lv_iload_n hx hb dX12_eases_37 rfl (lv_at hl 4 rfl) ?_
    refine lv_iload hx hb dX12_eases_38 (lv_at hl 5 rfl) ?_
    obtain ⟨v6, hv7, h⟩ := ok_bind h
    refine cl_vl (w2 := fun (_ : Unit) => w_X12_eases cy a0 gg gvn gdn gne) (As := [.int v1, .int x2, .int x1, .int x3, .int x4]) (rest := []) ⟨hx, hb, hml, hown, hts⟩ (c_X6_spanWith l dC dI cy (fun k => a0 (k + 50)) gne v1 x2 x1 x3 x4 H.size v6 hv7) (cwV 5 hts gX12_eases_X6_spanWith rfl rfl rfl (by decide +kernel) ⟨Nat.le_of_ble_eq_true rfl, Nat.le_of_ble_eq_true rfl⟩) (va_recv hK hP (ci := 4) (q0 := 12) rfl rfl) cl_blind (cl_pre hK hP hD [12, 13, 14, 15, 16, 17, 18, 19, 20, 21, 22, 23, 24, 25, 26, 27, 28, 29] (by decide) rfl) hP hD hS hA [12, 13, 14, 15, 16, 17, 18, 19, 20, 21, 22, 23, 24, 25, 26, 27, 28, 29] rfl rfl hl.1 rfl (lv_room (Nat.le_of_ble_eq_true rfl)) dX12_eases_40 ⟨Nat.le_of_ble_eq_true rfl, Nat.le_of_ble_eq_true rfl⟩ ⟨rfl, rfl⟩ (fun _ => updR [12, 13, 14, 15, 16, 17, 18, 19, 20, 21, 22, 23, 24, 25, 26, 27, 28, 29] rfl) (fun r u H locs hw hP hD hS => ?_)
    have hw := hw.symm
    subst hw
    have hP : va_P (dC, dI) vwCl (w_X12_eases cy a0 gg gvn gdn gne) H := hP
    have hD : va_D A (w_X12_eases cy a0 gg gvn gdn gne) := hD
    refine lv_aload_n hx hb dX12_eases_43 rfl (lv_at hl 1 rfl) ?_
    refine va_get (D := (dC, dI)) (ci := 10) (v := .ref (a0 50)) (C := RX12) (T := TX12) (N := 17) hx hb hts in_X12 hown hK hP 0 rfl rfl 13 (by decide) lk2 (fun _ h9 => h9) rfl dX12_eases_44 ?_
    refine lv_iload hx hb dX12_eases_47 (lv_at hl 0 rfl) ?_
    refine lv_iload_n hx hb dX12_eases_49 rfl (lv_at hl 4 rfl) ?_
    refine lv_iload hx hb dX12_eases_50 (lv_at hl 5 rfl) ?_
    obtain ⟨v8, hv9, h⟩ := ok_bind h
    refine cl_vl (w2 := fun (_ : Unit) => w_X12_eases cy a0 gg gvn gdn gne) (As := [.int v1, .int x3, .int x4]) (rest := [.long v6]) ⟨hx, hb, hml, hown, hts⟩ (c_X6_spanOf l dC dI cy (fun k => a0 (k + 50)) gne v1 x3 x4 H.size v8 hv9) (cwV 3 hts gX12_eases_X6_spanOf rfl rfl rfl (by decide +kernel) ⟨Nat.le_of_ble_eq_true rfl, Nat.le_of_ble_eq_true rfl⟩) (va_recv hK hP (ci := 4) (q0 := 12) rfl rfl) cl_blind (cl_pre hK hP hD [12, 13, 14, 15, 16, 17, 18, 19, 20, 21, 22, 23, 24, 25, 26, 27, 28, 29] (by decide) rfl) hP hD hS hA [12, 13, 14, 15, 16, 17, 18, 19, 20, 21, 22, 23, 24, 25, 26, 27, 28, 29] rfl rfl hl.1 rfl (lv_room (Nat.le_of_ble_eq_true rfl)) dX12_eases_52 ⟨Nat.le_of_ble_eq_true rfl, Nat.le_of_ble_eq_true rfl⟩ ⟨rfl, rfl⟩ (fun _ => updR [12, 13, 14, 15, 16, 17, 18, 19, 20, 21, 22, 23, 24, 25, 26, 27, 28, 29] rfl) (fun r u H locs hw hP hD hS => ?_)
    have hw := hw.symm
    subst hw
    have hP : va_P (dC, dI) vwCl (w_X12_eases cy a0 gg gvn gdn gne) H := hP
    have hD : va_D A (w_X12_eases cy a0 gg gvn gdn gne) := hD
    refine W.lcmp hx hb dX12_eases_55 ?_
    refine lv_if_ge (tgt := 63) hx hb dX12_eases_56 (by decide) (fun c10 => ?_) (fun c10 => ?_)
    · rw [if_pos c10] at h
      refine lv_iconst (v := (0 : Int32)) hx hb dX12_eases_63 (by decide) ?_
      exact W.zret (v := (0 : Int32)) (ty := .boolean) hx hb hr rfl (fun t ht hW => by rw [hqq]; have hh := Option.some.inj h; exact ⟨⟨(0 : Int32), (()), rfl, Option.some.inj h, by rw [ht]; exact hP, va_K.moved hW.alike hK⟩, hS.F ht⟩) hS.2.2 dX12_eases_64
    · rw [if_neg c10] at h
      refine lv_iconst (v := (1 : Int32)) hx hb dX12_eases_59 (by decide) ?_
      refine lv_goto (tgt := 64) hx hb dX12_eases_60 (by decide) ?_
      exact W.zret (v := (1 : Int32)) (ty := .boolean) hx hb hr rfl (fun t ht hW => by rw [hqq]; have hh := Option.some.inj h; exact ⟨⟨(1 : Int32), (()), rfl, Option.some.inj h, by rw [ht]; exact hP, va_K.moved hW.alike hK⟩, hS.F ht⟩) hS.2.2 dX12_eases_64

abbrev w_X12_isSaferRing (cy : Nat → ClassId) (a0 : Nat → Nat) (gg : Int32 × Int32 × Int32 × Int32 × Int32 × Int32) (gvn : Int32 × Int32 × (Nat → Int32) × (Nat → Int32) × (Nat → Int32) × (Nat → Int32) × (Nat → Int32)) (gdn : Int32 × Int32 × (Nat → Int32) × (Nat → Int32) × (Nat → Int32) × (Nat → Int32)) (gne : (Nat → Nat → Int32) × (Nat → Nat → Int64)) : va_W := [(a0 0, .inr (10, [.ref (a0 1), .int (gg.1), .int (gg.2.1), .int (gg.2.2.1), .int (gg.2.2.2.1), .int (gg.2.2.2.2.1), .ref (a0 2), .ref (a0 17), .ref (a0 32), .int (gg.2.2.2.2.2), .ref (a0 47), .ref (a0 48), .ref (a0 49), .ref (a0 50), .ref (a0 68), .ref (a0 78), .ref (a0 80)])), (a0 2, .inr (7, [.int (gvn.1), .int (gvn.2.1), .ref (a0 3), .ref (a0 8), .ref (a0 12), .ref (a0 13), .ref (a0 14), .ref (a0 15), .ref (a0 16)])), (a0 3, .inr (2, [.int (gdn.1), .int (gdn.2.1), .ref (a0 4), .ref (a0 5), .ref (a0 6), .ref (a0 7)])), (a0 4, .inl (cy 1, 10, .inl (gdn.2.2.1))), (a0 5, .inl (cy 1, 10, .inl (gdn.2.2.2.1))), (a0 6, .inl (cy 1, 10, .inl (gdn.2.2.2.2.1))), (a0 7, .inl (cy 1, 50, .inl (gdn.2.2.2.2.2))), (a0 12, .inl (cy 1, 5, .inl (gvn.2.2.1))), (a0 13, .inl (cy 1, 5, .inl (gvn.2.2.2.1))), (a0 14, .inl (cy 1, 5, .inl (gvn.2.2.2.2.1))), (a0 15, .inl (cy 1, 5, .inl (gvn.2.2.2.2.2.1))), (a0 16, .inl (cy 1, 5, .inl (gvn.2.2.2.2.2.2))), (a0 50, .inr (4, [.ref (a0 51), .ref (a0 62)])), (a0 51, .inl (cy 3, 10, .inr (.inr (.inr (.inr (fun i => some (a0 (52 + i)))))))), (a0 52, .inl (cy 1, 41, .inl (gne.1 0))), (a0 53, .inl (cy 1, 41, .inl (gne.1 1))), (a0 54, .inl (cy 1, 41, .inl (gne.1 2))), (a0 55, .inl (cy 1, 41, .inl (gne.1 3))), (a0 56, .inl (cy 1, 41, .inl (gne.1 4))), (a0 57, .inl (cy 1, 41, .inl (gne.1 5))), (a0 58, .inl (cy 1, 41, .inl (gne.1 6))), (a0 59, .inl (cy 1, 41, .inl (gne.1 7))), (a0 60, .inl (cy 1, 41, .inl (gne.1 8))), (a0 61, .inl (cy 1, 41, .inl (gne.1 9))), (a0 62, .inl (cy 4, 5, .inr (.inr (.inr (.inr (fun i => some (a0 (63 + i)))))))), (a0 63, .inl (cy 2, 41, .inr (.inl (gne.2 0)))), (a0 64, .inl (cy 2, 41, .inr (.inl (gne.2 1)))), (a0 65, .inl (cy 2, 41, .inr (.inl (gne.2 2)))), (a0 66, .inl (cy 2, 41, .inr (.inl (gne.2 3)))), (a0 67, .inl (cy 2, 41, .inr (.inl (gne.2 4))))]
abbrev rm_X12_isSaferRing : Room := { frames := 5, cells := 0, slots := 0, locals := 126 }
def p_X12_isSaferRing (gg : Int32 × Int32 × Int32 × Int32 × Int32 × Int32) (gvn : Int32 × Int32 × (Nat → Int32) × (Nat → Int32) × (Nat → Int32) × (Nat → Int32) × (Nat → Int32)) (gdn : Int32 × Int32 × (Nat → Int32) × (Nat → Int32) × (Nat → Int32) × (Nat → Int32)) (gne : (Nat → Nat → Int32) × (Nat → Nat → Int64)) (x1 : Int32) (x2 : Int32) (x3 : Int32) (x4 : Int32) (x5 : Int32) : Option (Int32) := ((p_X12_areOwedApart gg gvn gdn x1 x2).bind fun v1 => (if v1 = (0 : Int32) then some (0 : Int32) else ((p_X12_areOwedApart gg gvn gdn x2 x3).bind fun v4 => (if v4 = (0 : Int32) then some (0 : Int32) else ((p_X12_areOwedApart gg gvn gdn x3 x1).bind fun v7 => (if v7 = (0 : Int32) then some (0 : Int32) else ((p_X12_eases gg gvn gdn gne x1 x2 x4 x5).bind fun v10 => (if v10 = (0 : Int32) then some (0 : Int32) else ((p_X12_eases gg gvn gdn gne x2 x3 x4 x5).bind fun v13 => (if v13 = (0 : Int32) then some (0 : Int32) else ((p_X12_eases gg gvn gdn gne x3 x1 x4 x5).bind fun v16 => (if v16 = (0 : Int32) then some (0 : Int32) else some (1 : Int32)))))))))))))
set_option maxHeartbeats 1000000 in
set_option maxRecDepth 100000 in
theorem c_X12_isSaferRing (l : Launch) (dC : Nat → ClassId) (dI : Nat → Nat → Nat) (cy : Nat → ClassId) (a0 : Nat → Nat) (gg : Int32 × Int32 × Int32 × Int32 × Int32 × Int32) (gvn : Int32 × Int32 × (Nat → Int32) × (Nat → Int32) × (Nat → Int32) × (Nat → Int32) × (Nat → Int32)) (gdn : Int32 × Int32 × (Nat → Int32) × (Nat → Int32) × (Nat → Int32) × (Nat → Int32)) (gne : (Nat → Nat → Int32) × (Nat → Nat → Int64)) (x1 : Int32) (x2 : Int32) (x3 : Int32) (x4 : Int32) (x5 : Int32) (sz : Nat) (R0 : Int32) (h : p_X12_isSaferRing gg gvn gdn gne x1 x2 x3 x4 x5 = some R0) : Met l yX12_isSaferRing wsX12_isSaferRing rm_X12_isSaferRing (va_Pc [.ref (a0 0), .int x1, .int x2, .int x3, .int x4, .int x5] (prC dC dI cy (w_X12_isSaferRing cy a0 gg gvn gdn gne) sz)) (va_Qi (fun (r : Int32) (_ : Unit) => r = R0) (fun (_ : Unit) t => poC dC dI cy (w_X12_isSaferRing cy a0 gg gvn gdn gne) t) (va_A (w_X12_isSaferRing cy a0 gg gvn gdn gne) sz)) 0 0 (va_A (w_X12_isSaferRing cy a0 gg gvn gdn gne) sz) := by
  refine Met.ofW (cc := cX12_isSaferRing) (maxL := 6) (ret := (some .boolean)) (by decide) rfl ?_
  intro p e s m aa below meth c s₁ B hml hv
  obtain ⟨haa, hsz, hP, hK, hD0⟩ := hv
  have hx := B.exec
  have hb := B.bytes
  have hr := B.returns
  have hts := atoms_spec (ws := wsX12_isSaferRing) B.pre
  have hown : s.vm.findClass RX12 = some m.cls := findClass_of_methodNamed B.named
  have hlocks := B.notSynchronized
  subst hsz
  have hD := hD0.self (sz := s.heap.size)
  obtain ⟨qq, hqq⟩ : ∃ qq, qq = (va_Qi (fun (r : Int32) (_ : Unit) => r = R0) (fun (_ : Unit) t => poC dC dI cy (w_X12_isSaferRing cy a0 gg gvn gdn gne) t) (va_A (w_X12_isSaferRing cy a0 gg gvn gdn gne) s.heap.size)) := ⟨_, rfl⟩
  rw [← hqq]
  generalize hAe : va_A (w_X12_isSaferRing cy a0 gg gvn gdn gne) s.heap.size = A at hD hqq ⊢
  have hA : ∀ q : Nat, s.heap.size ≤ q → A q := fun q h => by rw [← hAe]; exact Or.inr h
  have hS : va_S A s.heap s.heap [] := va_S.rf
  have hl := lv_entry ([.ref (a0 0), .int x1, .int x2, .int x3, .int x4, .int x5]) (n := 6) (Nat.le_of_ble_eq_true rfl)
  have hE : entryFrame m aa 6 = F0 m 0 ((lg_sl ([.ref (a0 0), .int x1, .int x2, .int x3, .int x4, .int x5]) ++ List.replicate (6 - (lg_sl ([.ref (a0 0), .int x1, .int x2, .int x3, .int x4, .int x5])).length) Slot.unset).toArray) [] := by rw [haa]; exact lg_entry_eq m _ 6
  refine W.eq hE ?_
  generalize (lg_sl ([.ref (a0 0), .int x1, .int x2, .int x3, .int x4, .int x5]) ++ List.replicate (6 - (lg_sl ([.ref (a0 0), .int x1, .int x2, .int x3, .int x4, .int x5])).length) Slot.unset).toArray = ls at hl ⊢
  have hl : lv_has ls 6 [(0, .ref (a0 0)), (1, .int x1), (2, .int x2), (3, .int x3), (4, .int x4), (5, .int x5)] := hl
  change W p l e rm_X12_isSaferRing s m aa below meth c s.heap [] 0 0 (MQ below qq aa s 0 0 A) (F0 m 0 ls [])
  have hS0 := hS
  obtain ⟨H, hH⟩ : ∃ H : Heap, H = s.heap := ⟨_, rfl⟩
  obtain ⟨locs, hlocs⟩ : ∃ locs : List Loc, locs = [] := ⟨_, rfl⟩
  have hS : va_S A s.heap H locs := by rw [hH, hlocs]; exact hS
  rw [← hH] at hP
  suffices hg : W p l e rm_X12_isSaferRing s m aa below meth c H locs 0 0 (MQ below qq aa s 0 0 A) (F0 m 0 ls []) by subst hH; subst hlocs; exact hg
  unfold p_X12_isSaferRing at h
  refine lv_aload_n hx hb dX12_isSaferRing_0 rfl (lv_at hl 0 rfl) ?_
  refine lv_iload_n hx hb dX12_isSaferRing_1 rfl (lv_at hl 1 rfl) ?_
  refine lv_iload_n hx hb dX12_isSaferRing_2 rfl (lv_at hl 2 rfl) ?_
  obtain ⟨v1, hv2, h⟩ := ok_bind h
  refine cl_vi (w2 := fun (_ : Unit) => w_X12_isSaferRing cy a0 gg gvn gdn gne) (As := [.int x1, .int x2]) (rest := []) ⟨hx, hb, hml, hown, hts⟩ (c_X12_areOwedApart l dC dI cy a0 gg gvn gdn x1 x2 H.size v1 hv2) (cwV 2 hts gX12_isSaferRing_X12_areOwedApart rfl rfl rfl (by decide +kernel) ⟨Nat.le_of_ble_eq_true rfl, Nat.le_of_ble_eq_true rfl⟩) (va_recv hK hP (ci := 10) (q0 := 0) rfl rfl) cl_blind (cl_pre hK hP hD [0, 1, 2, 3, 4, 5, 6, 7, 8, 9, 10, 11] (by decide) rfl) hP hD hS hA [0, 1, 2, 3, 4, 5, 6, 7, 8, 9, 10, 11] rfl rfl hl.1 rfl (lv_room (Nat.le_of_ble_eq_true rfl)) dX12_isSaferRing_3 ⟨Nat.le_of_ble_eq_true rfl, Nat.le_of_ble_eq_true rfl⟩ ⟨rfl, rfl⟩ (fun _ => updR [0, 1, 2, 3, 4, 5, 6, 7, 8, 9, 10, 11] rfl) (fun r u H locs hw hP hD hS => ?_)
  have hw := hw.symm
  subst hw
  have hP : va_P (dC, dI) vwCl (w_X12_isSaferRing cy a0 gg gvn gdn gne) H := hP
  have hD : va_D A (w_X12_isSaferRing cy a0 gg gvn gdn gne) := hD
  refine lv_if_eq (tgt := 70) hx hb dX12_isSaferRing_6 (by decide) (fun c3 => ?_) (fun c3 => ?_)
  · rw [if_pos c3] at h
    refine lv_iconst (v := (0 : Int32)) hx hb dX12_isSaferRing_70 (by decide) ?_
    exact W.zret (v := (0 : Int32)) (ty := .boolean) hx hb hr rfl (fun t ht hW => by rw [hqq]; have hh := Option.some.inj h; exact ⟨⟨(0 : Int32), (()), rfl, Option.some.inj h, by rw [ht]; exact hP, va_K.moved hW.alike hK⟩, hS.F ht⟩) hS.2.2 dX12_isSaferRing_71
  · rw [if_neg c3] at h
    refine lv_aload_n hx hb dX12_isSaferRing_9 rfl (lv_at hl 0 rfl) ?_
    refine lv_iload_n hx hb dX12_isSaferRing_10 rfl (lv_at hl 2 rfl) ?_
    refine lv_iload_n hx hb dX12_isSaferRing_11 rfl (lv_at hl 3 rfl) ?_
    obtain ⟨v4, hv5, h⟩ := ok_bind h
    refine cl_vi (w2 := fun (_ : Unit) => w_X12_isSaferRing cy a0 gg gvn gdn gne) (As := [.int x2, .int x3]) (rest := []) ⟨hx, hb, hml, hown, hts⟩ (c_X12_areOwedApart l dC dI cy a0 gg gvn gdn x2 x3 H.size v4 hv5) (cwV 2 hts gX12_isSaferRing_X12_areOwedApart rfl rfl rfl (by decide +kernel) ⟨Nat.le_of_ble_eq_true rfl, Nat.le_of_ble_eq_true rfl⟩) (va_recv hK hP (ci := 10) (q0 := 0) rfl rfl) cl_blind (cl_pre hK hP hD [0, 1, 2, 3, 4, 5, 6, 7, 8, 9, 10, 11] (by decide) rfl) hP hD hS hA [0, 1, 2, 3, 4, 5, 6, 7, 8, 9, 10, 11] rfl rfl hl.1 rfl (lv_room (Nat.le_of_ble_eq_true rfl)) dX12_isSaferRing_12 ⟨Nat.le_of_ble_eq_true rfl, Nat.le_of_ble_eq_true rfl⟩ ⟨rfl, rfl⟩ (fun _ => updR [0, 1, 2, 3, 4, 5, 6, 7, 8, 9, 10, 11] rfl) (fun r u H locs hw hP hD hS => ?_)
    have hw := hw.symm
    subst hw
    have hP : va_P (dC, dI) vwCl (w_X12_isSaferRing cy a0 gg gvn gdn gne) H := hP
    have hD : va_D A (w_X12_isSaferRing cy a0 gg gvn gdn gne) := hD
    refine lv_if_eq (tgt := 70) hx hb dX12_isSaferRing_15 (by decide) (fun c6 => ?_) (fun c6 => ?_)
    · rw [if_pos c6] at h
      refine lv_iconst (v := (0 : Int32)) hx hb dX12_isSaferRing_70 (by decide) ?_
      exact W.zret (v := (0 : Int32)) (ty := .boolean) hx hb hr rfl (fun t ht hW => by rw [hqq]; have hh := Option.some.inj h; exact ⟨⟨(0 : Int32), (()), rfl, Option.some.inj h, by rw [ht]; exact hP, va_K.moved hW.alike hK⟩, hS.F ht⟩) hS.2.2 dX12_isSaferRing_71
    · rw [if_neg c6] at h
      refine lv_aload_n hx hb dX12_isSaferRing_18 rfl (lv_at hl 0 rfl) ?_
      refine lv_iload_n hx hb dX12_isSaferRing_19 rfl (lv_at hl 3 rfl) ?_
      refine lv_iload_n hx hb dX12_isSaferRing_20 rfl (lv_at hl 1 rfl) ?_
      obtain ⟨v7, hv8, h⟩ := ok_bind h
      refine cl_vi (w2 := fun (_ : Unit) => w_X12_isSaferRing cy a0 gg gvn gdn gne) (As := [.int x3, .int x1]) (rest := []) ⟨hx, hb, hml, hown, hts⟩ (c_X12_areOwedApart l dC dI cy a0 gg gvn gdn x3 x1 H.size v7 hv8) (cwV 2 hts gX12_isSaferRing_X12_areOwedApart rfl rfl rfl (by decide +kernel) ⟨Nat.le_of_ble_eq_true rfl, Nat.le_of_ble_eq_true rfl⟩) (va_recv hK hP (ci := 10) (q0 := 0) rfl rfl) cl_blind (cl_pre hK hP hD [0, 1, 2, 3, 4, 5, 6, 7, 8, 9, 10, 11] (by decide) rfl) hP hD hS hA [0, 1, 2, 3, 4, 5, 6, 7, 8, 9, 10, 11] rfl rfl hl.1 rfl (lv_room (Nat.le_of_ble_eq_true rfl)) dX12_isSaferRing_21 ⟨Nat.le_of_ble_eq_true rfl, Nat.le_of_ble_eq_true rfl⟩ ⟨rfl, rfl⟩ (fun _ => updR [0, 1, 2, 3, 4, 5, 6, 7, 8, 9, 10, 11] rfl) (fun r u H locs hw hP hD hS => ?_)
      have hw := hw.symm
      subst hw
      have hP : va_P (dC, dI) vwCl (w_X12_isSaferRing cy a0 gg gvn gdn gne) H := hP
      have hD : va_D A (w_X12_isSaferRing cy a0 gg gvn gdn gne) := hD
      refine lv_if_eq (tgt := 70) hx hb dX12_isSaferRing_24 (by decide) (fun c9 => ?_) (fun c9 => ?_)
      · rw [if_pos c9] at h
        refine lv_iconst (v := (0 : Int32)) hx hb dX12_isSaferRing_70 (by decide) ?_
        exact W.zret (v := (0 : Int32)) (ty := .boolean) hx hb hr rfl (fun t ht hW => by rw [hqq]; have hh := Option.some.inj h; exact ⟨⟨(0 : Int32), (()), rfl, Option.some.inj h, by rw [ht]; exact hP, va_K.moved hW.alike hK⟩, hS.F ht⟩) hS.2.2 dX12_isSaferRing_71
      · rw [if_neg c9] at h
        refine lv_aload_n hx hb dX12_isSaferRing_27 rfl (lv_at hl 0 rfl) ?_
        refine lv_iload_n hx hb dX12_isSaferRing_28 rfl (lv_at hl 1 rfl) ?_
        refine lv_iload_n hx hb dX12_isSaferRing_29 rfl (lv_at hl 2 rfl) ?_
        refine lv_iload hx hb dX12_isSaferRing_30 (lv_at hl 4 rfl) ?_
        refine lv_iload hx hb dX12_isSaferRing_32 (lv_at hl 5 rfl) ?_
        obtain ⟨v10, hv11, h⟩ := ok_bind h
        refine cl_vi (w2 := fun (_ : Unit) => w_X12_isSaferRing cy a0 gg gvn gdn gne) (As := [.int x1, .int x2, .int x4, .int x5]) (rest := []) ⟨hx, hb, hml, hown, hts⟩ (c_X12_eases l dC dI cy a0 gg gvn gdn gne x1 x2 x4 x5 H.size v10 hv11) (cwV 4 hts gX12_isSaferRing_X12_eases rfl rfl rfl (by decide +kernel) ⟨Nat.le_of_ble_eq_true rfl, Nat.le_of_ble_eq_true rfl⟩) (va_recv hK hP (ci := 10) (q0 := 0) rfl rfl) cl_blind (cl_pre hK hP hD [0, 1, 2, 3, 4, 5, 6, 7, 8, 9, 10, 11, 12, 13, 14, 15, 16, 17, 18, 19, 20, 21, 22, 23, 24, 25, 26, 27, 28, 29] (by decide) rfl) hP hD hS hA [0, 1, 2, 3, 4, 5, 6, 7, 8, 9, 10, 11, 12, 13, 14, 15, 16, 17, 18, 19, 20, 21, 22, 23, 24, 25, 26, 27, 28, 29] rfl rfl hl.1 rfl (lv_room (Nat.le_of_ble_eq_true rfl)) dX12_isSaferRing_34 ⟨Nat.le_of_ble_eq_true rfl, Nat.le_of_ble_eq_true rfl⟩ ⟨rfl, rfl⟩ (fun _ => updR [0, 1, 2, 3, 4, 5, 6, 7, 8, 9, 10, 11, 12, 13, 14, 15, 16, 17, 18, 19, 20, 21, 22, 23, 24, 25, 26, 27, 28, 29] rfl) (fun r u H locs hw hP hD hS => ?_)
        have hw := hw.symm
        subst hw
        have hP : va_P (dC, dI) vwCl (w_X12_isSaferRing cy a0 gg gvn gdn gne) H := hP
        have hD : va_D A (w_X12_isSaferRing cy a0 gg gvn gdn gne) := hD
        refine lv_if_eq (tgt := 70) hx hb dX12_isSaferRing_37 (by decide) (fun c12 => ?_) (fun c12 => ?_)
        · rw [if_pos c12] at h
          refine lv_iconst (v := (0 : Int32)) hx hb dX12_isSaferRing_70 (by decide) ?_
          exact W.zret (v := (0 : Int32)) (ty := .boolean) hx hb hr rfl (fun t ht hW => by rw [hqq]; have hh := Option.some.inj h; exact ⟨⟨(0 : Int32), (()), rfl, Option.some.inj h, by rw [ht]; exact hP, va_K.moved hW.alike hK⟩, hS.F ht⟩) hS.2.2 dX12_isSaferRing_71
        · rw [if_neg c12] at h
          refine lv_aload_n hx hb dX12_isSaferRing_40 rfl (lv_at hl 0 rfl) ?_
          refine lv_iload_n hx hb dX12_isSaferRing_41 rfl (lv_at hl 2 rfl) ?_
          refine lv_iload_n hx hb dX12_isSaferRing_42 rfl (lv_at hl 3 rfl) ?_
          refine lv_iload hx hb dX12_isSaferRing_43 (lv_at hl 4 rfl) ?_
          refine lv_iload hx hb dX12_isSaferRing_45 (lv_at hl 5 rfl) ?_
          obtain ⟨v13, hv14, h⟩ := ok_bind h
          refine cl_vi (w2 := fun (_ : Unit) => w_X12_isSaferRing cy a0 gg gvn gdn gne) (As := [.int x2, .int x3, .int x4, .int x5]) (rest := []) ⟨hx, hb, hml, hown, hts⟩ (c_X12_eases l dC dI cy a0 gg gvn gdn gne x2 x3 x4 x5 H.size v13 hv14) (cwV 4 hts gX12_isSaferRing_X12_eases rfl rfl rfl (by decide +kernel) ⟨Nat.le_of_ble_eq_true rfl, Nat.le_of_ble_eq_true rfl⟩) (va_recv hK hP (ci := 10) (q0 := 0) rfl rfl) cl_blind (cl_pre hK hP hD [0, 1, 2, 3, 4, 5, 6, 7, 8, 9, 10, 11, 12, 13, 14, 15, 16, 17, 18, 19, 20, 21, 22, 23, 24, 25, 26, 27, 28, 29] (by decide) rfl) hP hD hS hA [0, 1, 2, 3, 4, 5, 6, 7, 8, 9, 10, 11, 12, 13, 14, 15, 16, 17, 18, 19, 20, 21, 22, 23, 24, 25, 26, 27, 28, 29] rfl rfl hl.1 rfl (lv_room (Nat.le_of_ble_eq_true rfl)) dX12_isSaferRing_47 ⟨Nat.le_of_ble_eq_true rfl, Nat.le_of_ble_eq_true rfl⟩ ⟨rfl, rfl⟩ (fun _ => updR [0, 1, 2, 3, 4, 5, 6, 7, 8, 9, 10, 11, 12, 13, 14, 15, 16, 17, 18, 19, 20, 21, 22, 23, 24, 25, 26, 27, 28, 29] rfl) (fun r u H locs hw hP hD hS => ?_)
          have hw := hw.symm
          subst hw
          have hP : va_P (dC, dI) vwCl (w_X12_isSaferRing cy a0 gg gvn gdn gne) H := hP
          have hD : va_D A (w_X12_isSaferRing cy a0 gg gvn gdn gne) := hD
          refine lv_if_eq (tgt := 70) hx hb dX12_isSaferRing_50 (by decide) (fun c15 => ?_) (fun c15 => ?_)
          · rw [if_pos c15] at h
            refine lv_iconst (v := (0 : Int32)) hx hb dX12_isSaferRing_70 (by decide) ?_
            exact W.zret (v := (0 : Int32)) (ty := .boolean) hx hb hr rfl (fun t ht hW => by rw [hqq]; have hh := Option.some.inj h; exact ⟨⟨(0 : Int32), (()), rfl, Option.some.inj h, by rw [ht]; exact hP, va_K.moved hW.alike hK⟩, hS.F ht⟩) hS.2.2 dX12_isSaferRing_71
          · rw [if_neg c15] at h
            refine lv_aload_n hx hb dX12_isSaferRing_53 rfl (lv_at hl 0 rfl) ?_
            refine lv_iload_n hx hb dX12_isSaferRing_54 rfl (lv_at hl 3 rfl) ?_
            refine lv_iload_n hx hb dX12_isSaferRing_55 rfl (lv_at hl 1 rfl) ?_
            refine lv_iload hx hb dX12_isSaferRing_56 (lv_at hl 4 rfl) ?_
            refine lv_iload hx hb dX12_isSaferRing_58 (lv_at hl 5 rfl) ?_
            obtain ⟨v16, hv17, h⟩ := ok_bind h
            refine cl_vi (w2 := fun (_ : Unit) => w_X12_isSaferRing cy a0 gg gvn gdn gne) (As := [.int x3, .int x1, .int x4, .int x5]) (rest := []) ⟨hx, hb, hml, hown, hts⟩ (c_X12_eases l dC dI cy a0 gg gvn gdn gne x3 x1 x4 x5 H.size v16 hv17) (cwV 4 hts gX12_isSaferRing_X12_eases rfl rfl rfl (by decide +kernel) ⟨Nat.le_of_ble_eq_true rfl, Nat.le_of_ble_eq_true rfl⟩) (va_recv hK hP (ci := 10) (q0 := 0) rfl rfl) cl_blind (cl_pre hK hP hD [0, 1, 2, 3, 4, 5, 6, 7, 8, 9, 10, 11, 12, 13, 14, 15, 16, 17, 18, 19, 20, 21, 22, 23, 24, 25, 26, 27, 28, 29] (by decide) rfl) hP hD hS hA [0, 1, 2, 3, 4, 5, 6, 7, 8, 9, 10, 11, 12, 13, 14, 15, 16, 17, 18, 19, 20, 21, 22, 23, 24, 25, 26, 27, 28, 29] rfl rfl hl.1 rfl (lv_room (Nat.le_of_ble_eq_true rfl)) dX12_isSaferRing_60 ⟨Nat.le_of_ble_eq_true rfl, Nat.le_of_ble_eq_true rfl⟩ ⟨rfl, rfl⟩ (fun _ => updR [0, 1, 2, 3, 4, 5, 6, 7, 8, 9, 10, 11, 12, 13, 14, 15, 16, 17, 18, 19, 20, 21, 22, 23, 24, 25, 26, 27, 28, 29] rfl) (fun r u H locs hw hP hD hS => ?_)
            have hw := hw.symm
            subst hw
            have hP : va_P (dC, dI) vwCl (w_X12_isSaferRing cy a0 gg gvn gdn gne) H := hP
            have hD : va_D A (w_X12_isSaferRing cy a0 gg gvn gdn gne) := hD
            refine lv_if_eq (tgt := 70) hx hb dX12_isSaferRing_63 (by decide) (fun c18 => ?_) (fun c18 => ?_)
            · rw [if_pos c18] at h
              refine lv_iconst (v := (0 : Int32)) hx hb dX12_isSaferRing_70 (by decide) ?_
              exact W.zret (v := (0 : Int32)) (ty := .boolean) hx hb hr rfl (fun t ht hW => by rw [hqq]; have hh := Option.some.inj h; exact ⟨⟨(0 : Int32), (()), rfl, Option.some.inj h, by rw [ht]; exact hP, va_K.moved hW.alike hK⟩, hS.F ht⟩) hS.2.2 dX12_isSaferRing_71
            · rw [if_neg c18] at h
              refine lv_iconst (v := (1 : Int32)) hx hb dX12_isSaferRing_66 (by decide) ?_
              refine lv_goto (tgt := 71) hx hb dX12_isSaferRing_67 (by decide) ?_
              exact W.zret (v := (1 : Int32)) (ty := .boolean) hx hb hr rfl (fun t ht hW => by rw [hqq]; have hh := Option.some.inj h; exact ⟨⟨(1 : Int32), (()), rfl, Option.some.inj h, by rw [ht]; exact hP, va_K.moved hW.alike hK⟩, hS.F ht⟩) hS.2.2 dX12_isSaferRing_71

abbrev w_X12_saferRings (cy : Nat → ClassId) (a0 : Nat → Nat) (gg : Int32 × Int32 × Int32 × Int32 × Int32 × Int32) (gvn : Int32 × Int32 × (Nat → Int32) × (Nat → Int32) × (Nat → Int32) × (Nat → Int32) × (Nat → Int32)) (gdn : Int32 × Int32 × (Nat → Int32) × (Nat → Int32) × (Nat → Int32) × (Nat → Int32)) (gne : (Nat → Nat → Int32) × (Nat → Nat → Int64)) : va_W := [(a0 0, .inr (10, [.ref (a0 1), .int (gg.1), .int (gg.2.1), .int (gg.2.2.1), .int (gg.2.2.2.1), .int (gg.2.2.2.2.1), .ref (a0 2), .ref (a0 17), .ref (a0 32), .int (gg.2.2.2.2.2), .ref (a0 47), .ref (a0 48), .ref (a0 49), .ref (a0 50), .ref (a0 68), .ref (a0 78), .ref (a0 80)])), (a0 2, .inr (7, [.int (gvn.1), .int (gvn.2.1), .ref (a0 3), .ref (a0 8), .ref (a0 12), .ref (a0 13), .ref (a0 14), .ref (a0 15), .ref (a0 16)])), (a0 3, .inr (2, [.int (gdn.1), .int (gdn.2.1), .ref (a0 4), .ref (a0 5), .ref (a0 6), .ref (a0 7)])), (a0 4, .inl (cy 1, 10, .inl (gdn.2.2.1))), (a0 5, .inl (cy 1, 10, .inl (gdn.2.2.2.1))), (a0 6, .inl (cy 1, 10, .inl (gdn.2.2.2.2.1))), (a0 7, .inl (cy 1, 50, .inl (gdn.2.2.2.2.2))), (a0 12, .inl (cy 1, 5, .inl (gvn.2.2.1))), (a0 13, .inl (cy 1, 5, .inl (gvn.2.2.2.1))), (a0 14, .inl (cy 1, 5, .inl (gvn.2.2.2.2.1))), (a0 15, .inl (cy 1, 5, .inl (gvn.2.2.2.2.2.1))), (a0 16, .inl (cy 1, 5, .inl (gvn.2.2.2.2.2.2))), (a0 50, .inr (4, [.ref (a0 51), .ref (a0 62)])), (a0 51, .inl (cy 3, 10, .inr (.inr (.inr (.inr (fun i => some (a0 (52 + i)))))))), (a0 52, .inl (cy 1, 41, .inl (gne.1 0))), (a0 53, .inl (cy 1, 41, .inl (gne.1 1))), (a0 54, .inl (cy 1, 41, .inl (gne.1 2))), (a0 55, .inl (cy 1, 41, .inl (gne.1 3))), (a0 56, .inl (cy 1, 41, .inl (gne.1 4))), (a0 57, .inl (cy 1, 41, .inl (gne.1 5))), (a0 58, .inl (cy 1, 41, .inl (gne.1 6))), (a0 59, .inl (cy 1, 41, .inl (gne.1 7))), (a0 60, .inl (cy 1, 41, .inl (gne.1 8))), (a0 61, .inl (cy 1, 41, .inl (gne.1 9))), (a0 62, .inl (cy 4, 5, .inr (.inr (.inr (.inr (fun i => some (a0 (63 + i)))))))), (a0 63, .inl (cy 2, 41, .inr (.inl (gne.2 0)))), (a0 64, .inl (cy 2, 41, .inr (.inl (gne.2 1)))), (a0 65, .inl (cy 2, 41, .inr (.inl (gne.2 2)))), (a0 66, .inl (cy 2, 41, .inr (.inl (gne.2 3)))), (a0 67, .inl (cy 2, 41, .inr (.inl (gne.2 4))))]
abbrev rm_X12_saferRings : Room := { frames := 6, cells := 0, slots := 0, locals := 151 }
def p_X12_saferRings_77 (k6 : Int32 → Int32 → Int32 → Int32 → Int32 → Option (Int32)) (k19 : Int32 → Int32 → Int32 → Int32 → Int32 → Int32 → Option (Int32)) (k32 : Int32 → Int32 → Int32 → Int32 → Int32 → Int32 → Int32 → Option (Int32)) (gg : Int32 × Int32 × Int32 × Int32 × Int32 × Int32) (gvn : Int32 × Int32 × (Nat → Int32) × (Nat → Int32) × (Nat → Int32) × (Nat → Int32) × (Nat → Int32)) (gdn : Int32 × Int32 × (Nat → Int32) × (Nat → Int32) × (Nat → Int32) × (Nat → Int32)) (gne : (Nat → Nat → Int32) × (Nat → Nat → Int64))  (x1 : Int32) (x2 : Int32) (x3 : Int32) (x4 : Int32) (x5 : Int32) (x6 : Int32) (x7 : Int32) : Option (Int32) := k32 x1 x2 x3 x4 x5 x6 (x7 + (1 : Int32))
def p_X12_saferRings_32 (k6 : Int32 → Int32 → Int32 → Int32 → Int32 → Option (Int32)) (k19 : Int32 → Int32 → Int32 → Int32 → Int32 → Int32 → Option (Int32)) (gg : Int32 × Int32 × Int32 × Int32 × Int32 × Int32) (gvn : Int32 × Int32 × (Nat → Int32) × (Nat → Int32) × (Nat → Int32) × (Nat → Int32) × (Nat → Int32)) (gdn : Int32 × Int32 × (Nat → Int32) × (Nat → Int32) × (Nat → Int32) × (Nat → Int32)) (gne : (Nat → Nat → Int32) × (Nat → Nat → Int64)) : Nat → Int32 → Int32 → Int32 → Int32 → Int32 → Int32 → Int32 → Option (Int32)
  | 0, _, _, _, _, _, _, _ => none
  | n + 1, x1, x2, x3, x4, x5, x6, x7 => (if (10 : Int32) ≤ x7 then k19 x1 x2 x3 x4 x5 (x6 + (1 : Int32)) else ((p_X12_isSaferRing gg gvn gdn gne x5 x6 x7 x1 x2).bind fun v2 => (if v2 = (0 : Int32) then p_X12_saferRings_77 k6 k19 (p_X12_saferRings_32 k6 k19 gg gvn gdn gne n) gg gvn gdn gne x1 x2 x3 x4 x5 x6 x7 else (if x3 = (0 : Int32) then some ((((256 : Int32) * x5) + ((16 : Int32) * x6)) + x7) else p_X12_saferRings_77 k6 k19 (p_X12_saferRings_32 k6 k19 gg gvn gdn gne n) gg gvn gdn gne x1 x2 x3 (x4 + (1 : Int32)) x5 x6 x7))))
def p_X12_saferRings_19 (k6 : Int32 → Int32 → Int32 → Int32 → Int32 → Option (Int32)) (gg : Int32 × Int32 × Int32 × Int32 × Int32 × Int32) (gvn : Int32 × Int32 × (Nat → Int32) × (Nat → Int32) × (Nat → Int32) × (Nat → Int32) × (Nat → Int32)) (gdn : Int32 × Int32 × (Nat → Int32) × (Nat → Int32) × (Nat → Int32) × (Nat → Int32)) (gne : (Nat → Nat → Int32) × (Nat → Nat → Int64)) : Nat → Int32 → Int32 → Int32 → Int32 → Int32 → Int32 → Option (Int32)
  | 0, _, _, _, _, _, _ => none
  | n + 1, x1, x2, x3, x4, x5, x6 => (if (10 : Int32) ≤ x6 then k6 x1 x2 x3 x4 (x5 + (1 : Int32)) else p_X12_saferRings_32 k6 (p_X12_saferRings_19 k6 gg gvn gdn gne n) gg gvn gdn gne fu x1 x2 x3 x4 x5 x6 (x5 + (1 : Int32)))
def p_X12_saferRings_6 (gg : Int32 × Int32 × Int32 × Int32 × Int32 × Int32) (gvn : Int32 × Int32 × (Nat → Int32) × (Nat → Int32) × (Nat → Int32) × (Nat → Int32) × (Nat → Int32)) (gdn : Int32 × Int32 × (Nat → Int32) × (Nat → Int32) × (Nat → Int32) × (Nat → Int32)) (gne : (Nat → Nat → Int32) × (Nat → Nat → Int64)) : Nat → Int32 → Int32 → Int32 → Int32 → Int32 → Option (Int32)
  | 0, _, _, _, _, _ => none
  | n + 1, x1, x2, x3, x4, x5 => (if (10 : Int32) ≤ x5 then (if x3 = (0 : Int32) then some (-1 : Int32) else some x4) else p_X12_saferRings_19 (p_X12_saferRings_6 gg gvn gdn gne n) gg gvn gdn gne fu x1 x2 x3 x4 x5 (x5 + (1 : Int32)))
def p_X12_saferRings (gg : Int32 × Int32 × Int32 × Int32 × Int32 × Int32) (gvn : Int32 × Int32 × (Nat → Int32) × (Nat → Int32) × (Nat → Int32) × (Nat → Int32) × (Nat → Int32)) (gdn : Int32 × Int32 × (Nat → Int32) × (Nat → Int32) × (Nat → Int32) × (Nat → Int32)) (gne : (Nat → Nat → Int32) × (Nat → Nat → Int64)) (x1 : Int32) (x2 : Int32) (x3 : Int32) : Option (Int32) := p_X12_saferRings_6 gg gvn gdn gne fu x1 x2 x3 (0 : Int32) (0 : Int32)
set_option maxHeartbeats 1000000 in
set_option maxRecDepth 100000 in
theorem c_X12_saferRings (l : Launch) (dC : Nat → ClassId) (dI : Nat → Nat → Nat) (cy : Nat → ClassId) (a0 : Nat → Nat) (gg : Int32 × Int32 × Int32 × Int32 × Int32 × Int32) (gvn : Int32 × Int32 × (Nat → Int32) × (Nat → Int32) × (Nat → Int32) × (Nat → Int32) × (Nat → Int32)) (gdn : Int32 × Int32 × (Nat → Int32) × (Nat → Int32) × (Nat → Int32) × (Nat → Int32)) (gne : (Nat → Nat → Int32) × (Nat → Nat → Int64)) (x1 : Int32) (x2 : Int32) (x3 : Int32) (sz : Nat) (R0 : Int32) (h : p_X12_saferRings gg gvn gdn gne x1 x2 x3 = some R0) : Met l yX12_saferRings wsX12_saferRings rm_X12_saferRings (va_Pc [.ref (a0 0), .int x1, .int x2, .int x3] (prC dC dI cy (w_X12_saferRings cy a0 gg gvn gdn gne) sz)) (va_Qi (fun (r : Int32) (_ : Unit) => r = R0) (fun (_ : Unit) t => poC dC dI cy (w_X12_saferRings cy a0 gg gvn gdn gne) t) (va_A (w_X12_saferRings cy a0 gg gvn gdn gne) sz)) 0 0 (va_A (w_X12_saferRings cy a0 gg gvn gdn gne) sz) := by
  refine Met.ofW (cc := cX12_saferRings) (maxL := 8) (ret := (some .int)) (by decide) rfl ?_
  intro p e s m aa below meth c s₁ B hml hv
  obtain ⟨haa, hsz, hP, hK, hD0⟩ := hv
  have hx := B.exec
  have hb := B.bytes
  have hr := B.returns
  have hts := atoms_spec (ws := wsX12_saferRings) B.pre
  have hown : s.vm.findClass RX12 = some m.cls := findClass_of_methodNamed B.named
  have hlocks := B.notSynchronized
  subst hsz
  have hD := hD0.self (sz := s.heap.size)
  obtain ⟨qq, hqq⟩ : ∃ qq, qq = (va_Qi (fun (r : Int32) (_ : Unit) => r = R0) (fun (_ : Unit) t => poC dC dI cy (w_X12_saferRings cy a0 gg gvn gdn gne) t) (va_A (w_X12_saferRings cy a0 gg gvn gdn gne) s.heap.size)) := ⟨_, rfl⟩
  rw [← hqq]
  generalize hAe : va_A (w_X12_saferRings cy a0 gg gvn gdn gne) s.heap.size = A at hD hqq ⊢
  have hA : ∀ q : Nat, s.heap.size ≤ q → A q := fun q h => by rw [← hAe]; exact Or.inr h
  have hS : va_S A s.heap s.heap [] := va_S.rf
  have hl := lv_entry ([.ref (a0 0), .int x1, .int x2, .int x3]) (n := 8) (Nat.le_of_ble_eq_true rfl)
  have hE : entryFrame m aa 8 = F0 m 0 ((lg_sl ([.ref (a0 0), .int x1, .int x2, .int x3]) ++ List.replicate (8 - (lg_sl ([.ref (a0 0), .int x1, .int x2, .int x3])).length) Slot.unset).toArray) [] := by rw [haa]; exact lg_entry_eq m _ 8
  refine W.eq hE ?_
  generalize (lg_sl ([.ref (a0 0), .int x1, .int x2, .int x3]) ++ List.replicate (8 - (lg_sl ([.ref (a0 0), .int x1, .int x2, .int x3])).length) Slot.unset).toArray = ls at hl ⊢
  have hl : lv_has ls 8 [(0, .ref (a0 0)), (1, .int x1), (2, .int x2), (3, .int x3)] := hl
  change W p l e rm_X12_saferRings s m aa below meth c s.heap [] 0 0 (MQ below qq aa s 0 0 A) (F0 m 0 ls [])
  have hS0 := hS
  have c77 : ∀ (k6 : Int32 → Int32 → Int32 → Int32 → Int32 → Option (Int32)) (hk6 : ∀ (x1 : Int32) (x2 : Int32) (x3 : Int32) (x4 : Int32) (x5 : Int32) (H : Heap) (locs : List Loc) (ls : Array Slot), k6 x1 x2 x3 x4 x5 = some R0 → va_P (dC, dI) vwCl (w_X12_saferRings cy a0 gg gvn gdn gne) H → va_D A (w_X12_saferRings cy a0 gg gvn gdn gne) → va_S A s.heap H locs → lv_has ls 8 [(0, .ref (a0 0)), (1, .int x1), (2, .int x2), (3, .int x3), (4, .int x4), (5, .int x5)] → W p l e rm_X12_saferRings s m aa below meth c H locs 0 0 (MQ below qq aa s 0 0 A) (F0 m 6 ls [])) (k19 : Int32 → Int32 → Int32 → Int32 → Int32 → Int32 → Option (Int32)) (hk19 : ∀ (x1 : Int32) (x2 : Int32) (x3 : Int32) (x4 : Int32) (x5 : Int32) (x6 : Int32) (H : Heap) (locs : List Loc) (ls : Array Slot), k19 x1 x2 x3 x4 x5 x6 = some R0 → va_P (dC, dI) vwCl (w_X12_saferRings cy a0 gg gvn gdn gne) H → va_D A (w_X12_saferRings cy a0 gg gvn gdn gne) → va_S A s.heap H locs → lv_has ls 8 [(0, .ref (a0 0)), (1, .int x1), (2, .int x2), (3, .int x3), (4, .int x4), (5, .int x5), (6, .int x6)] → W p l e rm_X12_saferRings s m aa below meth c H locs 0 0 (MQ below qq aa s 0 0 A) (F0 m 19 ls [])) (k32 : Int32 → Int32 → Int32 → Int32 → Int32 → Int32 → Int32 → Option (Int32)) (hk32 : ∀ (x1 : Int32) (x2 : Int32) (x3 : Int32) (x4 : Int32) (x5 : Int32) (x6 : Int32) (x7 : Int32) (H : Heap) (locs : List Loc) (ls : Array Slot), k32 x1 x2 x3 x4 x5 x6 x7 = some R0 → va_P (dC, dI) vwCl (w_X12_saferRings cy a0 gg gvn gdn gne) H → va_D A (w_X12_saferRings cy a0 gg gvn gdn gne) → va_S A s.heap H locs → lv_has ls 8 [(0, .ref (a0 0)), (1, .int x1), (2, .int x2), (3, .int x3), (4, .int x4), (5, .int x5), (6, .int x6), (7, .int x7)] → W p l e rm_X12_saferRings s m aa below meth c H locs 0 0 (MQ below qq aa s 0 0 A) (F0 m 32 ls [])), ∀ (x1 : Int32) (x2 : Int32) (x3 : Int32) (x4 : Int32) (x5 : Int32) (x6 : Int32) (x7 : Int32) (H : Heap) (locs : List Loc) (ls : Array Slot), p_X12_saferRings_77 k6 k19 k32 gg gvn gdn gne x1 x2 x3 x4 x5 x6 x7 = some R0 → va_P (dC, dI) vwCl (w_X12_saferRings cy a0 gg gvn gdn gne) H → va_D A (w_X12_saferRings cy a0 gg gvn gdn gne) → va_S A s.heap H locs → lv_has ls 8 [(0, .ref (a0 0)), (1, .int x1), (2, .int x2), (3, .int x3), (4, .int x4), (5, .int x5), (6, .int x6), (7, .int x7)] → W p l e rm_X12_saferRings s m aa below meth c H locs 0 0 (MQ below qq aa s 0 0 A) (F0 m 77 ls []) := by
    intro k6 hk6 k19 hk19 k32 hk32 x1 x2 x3 x4 x5 x6 x7 H locs ls h hP hD hS hl
    unfold p_X12_saferRings_77 at h
    refine lv_iinc (v := (x7 + (1 : Int32))) (lv' := [(7, .int (x7 + (1 : Int32))), (0, .ref (a0 0)), (1, .int x1), (2, .int x2), (3, .int x3), (4, .int x4), (5, .int x5), (6, .int x6)]) hx hb dX12_saferRings_77 hl (k := 7) rfl rfl (by decide) rfl (fun ls hl => ?_)
    refine lv_goto (tgt := 32) hx hb dX12_saferRings_80 (by decide) ?_
    exact hk32 x1 x2 x3 x4 x5 x6 (x7 + (1 : Int32)) H locs ls h hP hD hS (lv_sub hl [1, 2, 3, 4, 5, 6, 7, 0] rfl)
  have c32 : ∀ (k6 : Int32 → Int32 → Int32 → Int32 → Int32 → Option (Int32)) (hk6 : ∀ (x1 : Int32) (x2 : Int32) (x3 : Int32) (x4 : Int32) (x5 : Int32) (H : Heap) (locs : List Loc) (ls : Array Slot), k6 x1 x2 x3 x4 x5 = some R0 → va_P (dC, dI) vwCl (w_X12_saferRings cy a0 gg gvn gdn gne) H → va_D A (w_X12_saferRings cy a0 gg gvn gdn gne) → va_S A s.heap H locs → lv_has ls 8 [(0, .ref (a0 0)), (1, .int x1), (2, .int x2), (3, .int x3), (4, .int x4), (5, .int x5)] → W p l e rm_X12_saferRings s m aa below meth c H locs 0 0 (MQ below qq aa s 0 0 A) (F0 m 6 ls [])) (k19 : Int32 → Int32 → Int32 → Int32 → Int32 → Int32 → Option (Int32)) (hk19 : ∀ (x1 : Int32) (x2 : Int32) (x3 : Int32) (x4 : Int32) (x5 : Int32) (x6 : Int32) (H : Heap) (locs : List Loc) (ls : Array Slot), k19 x1 x2 x3 x4 x5 x6 = some R0 → va_P (dC, dI) vwCl (w_X12_saferRings cy a0 gg gvn gdn gne) H → va_D A (w_X12_saferRings cy a0 gg gvn gdn gne) → va_S A s.heap H locs → lv_has ls 8 [(0, .ref (a0 0)), (1, .int x1), (2, .int x2), (3, .int x3), (4, .int x4), (5, .int x5), (6, .int x6)] → W p l e rm_X12_saferRings s m aa below meth c H locs 0 0 (MQ below qq aa s 0 0 A) (F0 m 19 ls [])) (n : Nat), ∀ (x1 : Int32) (x2 : Int32) (x3 : Int32) (x4 : Int32) (x5 : Int32) (x6 : Int32) (x7 : Int32) (H : Heap) (locs : List Loc) (ls : Array Slot), p_X12_saferRings_32 k6 k19 gg gvn gdn gne n x1 x2 x3 x4 x5 x6 x7 = some R0 → va_P (dC, dI) vwCl (w_X12_saferRings cy a0 gg gvn gdn gne) H → va_D A (w_X12_saferRings cy a0 gg gvn gdn gne) → va_S A s.heap H locs → lv_has ls 8 [(0, .ref (a0 0)), (1, .int x1), (2, .int x2), (3, .int x3), (4, .int x4), (5, .int x5), (6, .int x6), (7, .int x7)] → W p l e rm_X12_saferRings s m aa below meth c H locs 0 0 (MQ below qq aa s 0 0 A) (F0 m 32 ls []) := by
    intro k6 hk6 k19 hk19 n
    induction n with
    | zero => intro x1 x2 x3 x4 x5 x6 x7 H locs ls h; exact no_some h
    | succ n ih =>
      intro x1 x2 x3 x4 x5 x6 x7 H locs ls h hP hD hS hl
      rw [p_X12_saferRings_32.eq_2] at h
      refine lv_iload hx hb dX12_saferRings_32 (lv_at hl 7 rfl) ?_
      refine lv_bipush (v := (10 : Int32)) hx hb dX12_saferRings_34 (by decide) ?_
      refine lv_icmp_ge (tgt := 83) hx hb dX12_saferRings_36 (by decide) (fun c1 => ?_) (fun c1 => ?_)
      · rw [if_pos c1] at h
        refine lv_iinc (v := (x6 + (1 : Int32))) (lv' := [(6, .int (x6 + (1 : Int32))), (0, .ref (a0 0)), (1, .int x1), (2, .int x2), (3, .int x3), (4, .int x4), (5, .int x5), (7, .int x7)]) hx hb dX12_saferRings_83 hl (k := 6) rfl rfl (by decide) rfl (fun ls hl => ?_)
        refine lv_goto (tgt := 19) hx hb dX12_saferRings_86 (by decide) ?_
        exact hk19 x1 x2 x3 x4 x5 (x6 + (1 : Int32)) H locs ls h hP hD hS (lv_sub hl [1, 2, 3, 4, 5, 6, 0] rfl)
      · rw [if_neg c1] at h
        refine lv_aload_n hx hb dX12_saferRings_39 rfl (lv_at hl 0 rfl) ?_
        refine lv_iload hx hb dX12_saferRings_40 (lv_at hl 5 rfl) ?_
        refine lv_iload hx hb dX12_saferRings_42 (lv_at hl 6 rfl) ?_
        refine lv_iload hx hb dX12_saferRings_44 (lv_at hl 7 rfl) ?_
        refine lv_iload_n hx hb dX12_saferRings_46 rfl (lv_at hl 1 rfl) ?_
        refine lv_iload_n hx hb dX12_saferRings_47 rfl (lv_at hl 2 rfl) ?_
        obtain ⟨v2, hv3, h⟩ := ok_bind h
        refine cl_vi (w2 := fun (_ : Unit) => w_X12_saferRings cy a0 gg gvn gdn gne) (As := [.int x5, .int x6, .int x7, .int x1, .int x2]) (rest := []) ⟨hx, hb, hml, hown, hts⟩ (c_X12_isSaferRing l dC dI cy a0 gg gvn gdn gne x5 x6 x7 x1 x2 H.size v2 hv3) (cwV 5 hts gX12_saferRings_X12_isSaferRing rfl rfl rfl (by decide +kernel) ⟨Nat.le_of_ble_eq_true rfl, Nat.le_of_ble_eq_true rfl⟩) (va_recv hK hP (ci := 10) (q0 := 0) rfl rfl) cl_blind (cl_pre hK hP hD [0, 1, 2, 3, 4, 5, 6, 7, 8, 9, 10, 11, 12, 13, 14, 15, 16, 17, 18, 19, 20, 21, 22, 23, 24, 25, 26, 27, 28, 29] (by decide) rfl) hP hD hS hA [0, 1, 2, 3, 4, 5, 6, 7, 8, 9, 10, 11, 12, 13, 14, 15, 16, 17, 18, 19, 20, 21, 22, 23, 24, 25, 26, 27, 28, 29] rfl rfl hl.1 rfl (lv_room (Nat.le_of_ble_eq_true rfl)) dX12_saferRings_48 ⟨Nat.le_of_ble_eq_true rfl, Nat.le_of_ble_eq_true rfl⟩ ⟨rfl, rfl⟩ (fun _ => updR [0, 1, 2, 3, 4, 5, 6, 7, 8, 9, 10, 11, 12, 13, 14, 15, 16, 17, 18, 19, 20, 21, 22, 23, 24, 25, 26, 27, 28, 29] rfl) (fun r u H locs hw hP hD hS => ?_)
        have hw := hw.symm
        subst hw
        have hP : va_P (dC, dI) vwCl (w_X12_saferRings cy a0 gg gvn gdn gne) H := hP
        have hD : va_D A (w_X12_saferRings cy a0 gg gvn gdn gne) := hD
        refine lv_if_eq (tgt := 77) hx hb dX12_saferRings_51 (by decide) (fun c4 => ?_) (fun c4 => ?_)
        · rw [if_pos c4] at h
          exact c77 k6 hk6 k19 hk19 (p_X12_saferRings_32 k6 k19 gg gvn gdn gne n) ih x1 x2 x3 x4 x5 x6 x7 H locs ls h hP hD hS (lv_sub hl [0, 1, 2, 3, 4, 5, 6, 7] rfl)
        · rw [if_neg c4] at h
          refine lv_iload_n hx hb dX12_saferRings_54 rfl (lv_at hl 3 rfl) ?_
          refine lv_if_ne (tgt := 74) hx hb dX12_saferRings_55 (by decide) (fun c5 => ?_) (fun c5 => ?_)
          · rw [if_neg c5] at h
            refine lv_iinc (v := (x4 + (1 : Int32))) (lv' := [(4, .int (x4 + (1 : Int32))), (0, .ref (a0 0)), (1, .int x1), (2, .int x2), (3, .int x3), (5, .int x5), (6, .int x6), (7, .int x7)]) hx hb dX12_saferRings_74 hl (k := 4) rfl rfl (by decide) rfl (fun ls hl => ?_)
            exact c77 k6 hk6 k19 hk19 (p_X12_saferRings_32 k6 k19 gg gvn gdn gne n) ih x1 x2 x3 (x4 + (1 : Int32)) x5 x6 x7 H locs ls h hP hD hS (lv_sub hl [1, 2, 3, 4, 0, 5, 6, 7] rfl)
          · rw [if_pos c5] at h
            refine lv_sipush (v := (256 : Int32)) hx hb dX12_saferRings_58 (by decide) ?_
            refine lv_iload hx hb dX12_saferRings_61 (lv_at hl 5 rfl) ?_
            refine lv_imul hx hb dX12_saferRings_63 ?_
            refine lv_bipush (v := (16 : Int32)) hx hb dX12_saferRings_64 (by decide) ?_
            refine lv_iload hx hb dX12_saferRings_66 (lv_at hl 6 rfl) ?_
            refine lv_imul hx hb dX12_saferRings_68 ?_
            refine lv_iadd hx hb dX12_saferRings_69 ?_
            refine lv_iload hx hb dX12_saferRings_70 (lv_at hl 7 rfl) ?_
            refine lv_iadd hx hb dX12_saferRings_72 ?_
            exact W.iret (v := ((((256 : Int32) * x5) + ((16 : Int32) * x6)) + x7)) hx hb hr (fun t ht hW => by rw [hqq]; have hh := Option.some.inj h; exact ⟨⟨((((256 : Int32) * x5) + ((16 : Int32) * x6)) + x7), (()), rfl, Option.some.inj h, by rw [ht]; exact hP, va_K.moved hW.alike hK⟩, hS.F ht⟩) hS.2.2 dX12_saferRings_73
  have c19 : ∀ (k6 : Int32 → Int32 → Int32 → Int32 → Int32 → Option (Int32)) (hk6 : ∀ (x1 : Int32) (x2 : Int32) (x3 : Int32) (x4 : Int32) (x5 : Int32) (H : Heap) (locs : List Loc) (ls : Array Slot), k6 x1 x2 x3 x4 x5 = some R0 → va_P (dC, dI) vwCl (w_X12_saferRings cy a0 gg gvn gdn gne) H → va_D A (w_X12_saferRings cy a0 gg gvn gdn gne) → va_S A s.heap H locs → lv_has ls 8 [(0, .ref (a0 0)), (1, .int x1), (2, .int x2), (3, .int x3), (4, .int x4), (5, .int x5)] → W p l e rm_X12_saferRings s m aa below meth c H locs 0 0 (MQ below qq aa s 0 0 A) (F0 m 6 ls [])) (n : Nat), ∀ (x1 : Int32) (x2 : Int32) (x3 : Int32) (x4 : Int32) (x5 : Int32) (x6 : Int32) (H : Heap) (locs : List Loc) (ls : Array Slot), p_X12_saferRings_19 k6 gg gvn gdn gne n x1 x2 x3 x4 x5 x6 = some R0 → va_P (dC, dI) vwCl (w_X12_saferRings cy a0 gg gvn gdn gne) H → va_D A (w_X12_saferRings cy a0 gg gvn gdn gne) → va_S A s.heap H locs → lv_has ls 8 [(0, .ref (a0 0)), (1, .int x1), (2, .int x2), (3, .int x3), (4, .int x4), (5, .int x5), (6, .int x6)] → W p l e rm_X12_saferRings s m aa below meth c H locs 0 0 (MQ below qq aa s 0 0 A) (F0 m 19 ls []) := by
    intro k6 hk6 n
    induction n with
    | zero => intro x1 x2 x3 x4 x5 x6 H locs ls h; exact no_some h
    | succ n ih =>
      intro x1 x2 x3 x4 x5 x6 H locs ls h hP hD hS hl
      rw [p_X12_saferRings_19.eq_2] at h
      refine lv_iload hx hb dX12_saferRings_19 (lv_at hl 6 rfl) ?_
      refine lv_bipush (v := (10 : Int32)) hx hb dX12_saferRings_21 (by decide) ?_
      refine lv_icmp_ge (tgt := 89) hx hb dX12_saferRings_23 (by decide) (fun c1 => ?_) (fun c1 => ?_)
      · rw [if_pos c1] at h
        refine lv_iinc (v := (x5 + (1 : Int32))) (lv' := [(5, .int (x5 + (1 : Int32))), (0, .ref (a0 0)), (1, .int x1), (2, .int x2), (3, .int x3), (4, .int x4), (6, .int x6)]) hx hb dX12_saferRings_89 hl (k := 5) rfl rfl (by decide) rfl (fun ls hl => ?_)
        refine lv_goto (tgt := 6) hx hb dX12_saferRings_92 (by decide) ?_
        exact hk6 x1 x2 x3 x4 (x5 + (1 : Int32)) H locs ls h hP hD hS (lv_sub hl [1, 2, 3, 4, 5, 0] rfl)
      · rw [if_neg c1] at h
        refine lv_iload hx hb dX12_saferRings_26 (lv_at hl 5 rfl) ?_
        refine lv_iconst (v := (1 : Int32)) hx hb dX12_saferRings_28 (by decide) ?_
        refine lv_iadd hx hb dX12_saferRings_29 ?_
        refine lv_istore (lv' := [(7, .int (x5 + (1 : Int32))), (0, .ref (a0 0)), (1, .int x1), (2, .int x2), (3, .int x3), (4, .int x4), (5, .int x5), (6, .int x6)]) hx hb dX12_saferRings_30 hl (by decide) rfl (fun ls hl => ?_)
        exact c32 k6 hk6 (p_X12_saferRings_19 k6 gg gvn gdn gne n) ih fu x1 x2 x3 x4 x5 x6 (x5 + (1 : Int32)) H locs ls h hP hD hS (lv_sub hl [1, 2, 3, 4, 5, 6, 7, 0] rfl)
  have c6 : ∀ (n : Nat), ∀ (x1 : Int32) (x2 : Int32) (x3 : Int32) (x4 : Int32) (x5 : Int32) (H : Heap) (locs : List Loc) (ls : Array Slot), p_X12_saferRings_6 gg gvn gdn gne n x1 x2 x3 x4 x5 = some R0 → va_P (dC, dI) vwCl (w_X12_saferRings cy a0 gg gvn gdn gne) H → va_D A (w_X12_saferRings cy a0 gg gvn gdn gne) → va_S A s.heap H locs → lv_has ls 8 [(0, .ref (a0 0)), (1, .int x1), (2, .int x2), (3, .int x3), (4, .int x4), (5, .int x5)] → W p l e rm_X12_saferRings s m aa below meth c H locs 0 0 (MQ below qq aa s 0 0 A) (F0 m 6 ls []) := by
    intro  n
    induction n with
    | zero => intro x1 x2 x3 x4 x5 H locs ls h; exact no_some h
    | succ n ih =>
      intro x1 x2 x3 x4 x5 H locs ls h hP hD hS hl
      rw [p_X12_saferRings_6.eq_2] at h
      refine lv_iload hx hb dX12_saferRings_6 (lv_at hl 5 rfl) ?_
      refine lv_bipush (v := (10 : Int32)) hx hb dX12_saferRings_8 (by decide) ?_
      refine lv_icmp_ge (tgt := 95) hx hb dX12_saferRings_10 (by decide) (fun c1 => ?_) (fun c1 => ?_)
      · rw [if_pos c1] at h
        refine lv_iload_n hx hb dX12_saferRings_95 rfl (lv_at hl 3 rfl) ?_
        refine lv_if_eq (tgt := 104) hx hb dX12_saferRings_96 (by decide) (fun c2 => ?_) (fun c2 => ?_)
        · rw [if_pos c2] at h
          refine lv_iconst (v := (-1 : Int32)) hx hb dX12_saferRings_104 (by decide) ?_
          exact W.iret (v := (-1 : Int32)) hx hb hr (fun t ht hW => by rw [hqq]; have hh := Option.some.inj h; exact ⟨⟨(-1 : Int32), (()), rfl, Option.some.inj h, by rw [ht]; exact hP, va_K.moved hW.alike hK⟩, hS.F ht⟩) hS.2.2 dX12_saferRings_105
        · rw [if_neg c2] at h
          refine lv_iload hx hb dX12_saferRings_99 (lv_at hl 4 rfl) ?_
          refine lv_goto (tgt := 105) hx hb dX12_saferRings_101 (by decide) ?_
          exact W.iret (v := x4) hx hb hr (fun t ht hW => by rw [hqq]; have hh := Option.some.inj h; exact ⟨⟨x4, (()), rfl, Option.some.inj h, by rw [ht]; exact hP, va_K.moved hW.alike hK⟩, hS.F ht⟩) hS.2.2 dX12_saferRings_105
      · rw [if_neg c1] at h
        refine lv_iload hx hb dX12_saferRings_13 (lv_at hl 5 rfl) ?_
        refine lv_iconst (v := (1 : Int32)) hx hb dX12_saferRings_15 (by decide) ?_
        refine lv_iadd hx hb dX12_saferRings_16 ?_
        refine lv_istore (lv' := [(6, .int (x5 + (1 : Int32))), (0, .ref (a0 0)), (1, .int x1), (2, .int x2), (3, .int x3), (4, .int x4), (5, .int x5)]) hx hb dX12_saferRings_17 hl (by decide) rfl (fun ls hl => ?_)
        exact c19 (p_X12_saferRings_6 gg gvn gdn gne n) ih fu x1 x2 x3 x4 x5 (x5 + (1 : Int32)) H locs ls h hP hD hS (lv_sub hl [1, 2, 3, 4, 5, 6, 0] rfl)
  obtain ⟨H, hH⟩ : ∃ H : Heap, H = s.heap := ⟨_, rfl⟩
  obtain ⟨locs, hlocs⟩ : ∃ locs : List Loc, locs = [] := ⟨_, rfl⟩
  have hS : va_S A s.heap H locs := by rw [hH, hlocs]; exact hS
  rw [← hH] at hP
  suffices hg : W p l e rm_X12_saferRings s m aa below meth c H locs 0 0 (MQ below qq aa s 0 0 A) (F0 m 0 ls []) by subst hH; subst hlocs; exact hg
  unfold p_X12_saferRings at h
  refine lv_iconst (v := (0 : Int32)) hx hb dX12_saferRings_0 (by decide) ?_
  refine lv_istore (lv' := [(4, .int (0 : Int32)), (0, .ref (a0 0)), (1, .int x1), (2, .int x2), (3, .int x3)]) hx hb dX12_saferRings_1 hl (by decide) rfl (fun ls hl => ?_)
  refine lv_iconst (v := (0 : Int32)) hx hb dX12_saferRings_3 (by decide) ?_
  refine lv_istore (lv' := [(5, .int (0 : Int32)), (4, .int (0 : Int32)), (0, .ref (a0 0)), (1, .int x1), (2, .int x2), (3, .int x3)]) hx hb dX12_saferRings_4 hl (by decide) rfl (fun ls hl => ?_)
  exact c6 fu x1 x2 x3 (0 : Int32) (0 : Int32) H locs ls h hP hD hS (lv_sub hl [2, 3, 4, 5, 1, 0] rfl)

abbrev w_X12_isSaferCouple (cy : Nat → ClassId) (a0 : Nat → Nat) (gg : Int32 × Int32 × Int32 × Int32 × Int32 × Int32) (gvn : Int32 × Int32 × (Nat → Int32) × (Nat → Int32) × (Nat → Int32) × (Nat → Int32) × (Nat → Int32)) (gdn : Int32 × Int32 × (Nat → Int32) × (Nat → Int32) × (Nat → Int32) × (Nat → Int32)) (gne : (Nat → Nat → Int32) × (Nat → Nat → Int64)) : va_W := [(a0 0, .inr (10, [.ref (a0 1), .int (gg.1), .int (gg.2.1), .int (gg.2.2.1), .int (gg.2.2.2.1), .int (gg.2.2.2.2.1), .ref (a0 2), .ref (a0 17), .ref (a0 32), .int (gg.2.2.2.2.2), .ref (a0 47), .ref (a0 48), .ref (a0 49), .ref (a0 50), .ref (a0 68), .ref (a0 78), .ref (a0 80)])), (a0 2, .inr (7, [.int (gvn.1), .int (gvn.2.1), .ref (a0 3), .ref (a0 8), .ref (a0 12), .ref (a0 13), .ref (a0 14), .ref (a0 15), .ref (a0 16)])), (a0 3, .inr (2, [.int (gdn.1), .int (gdn.2.1), .ref (a0 4), .ref (a0 5), .ref (a0 6), .ref (a0 7)])), (a0 4, .inl (cy 1, 10, .inl (gdn.2.2.1))), (a0 5, .inl (cy 1, 10, .inl (gdn.2.2.2.1))), (a0 6, .inl (cy 1, 10, .inl (gdn.2.2.2.2.1))), (a0 7, .inl (cy 1, 50, .inl (gdn.2.2.2.2.2))), (a0 12, .inl (cy 1, 5, .inl (gvn.2.2.1))), (a0 13, .inl (cy 1, 5, .inl (gvn.2.2.2.1))), (a0 14, .inl (cy 1, 5, .inl (gvn.2.2.2.2.1))), (a0 15, .inl (cy 1, 5, .inl (gvn.2.2.2.2.2.1))), (a0 16, .inl (cy 1, 5, .inl (gvn.2.2.2.2.2.2))), (a0 50, .inr (4, [.ref (a0 51), .ref (a0 62)])), (a0 51, .inl (cy 3, 10, .inr (.inr (.inr (.inr (fun i => some (a0 (52 + i)))))))), (a0 52, .inl (cy 1, 41, .inl (gne.1 0))), (a0 53, .inl (cy 1, 41, .inl (gne.1 1))), (a0 54, .inl (cy 1, 41, .inl (gne.1 2))), (a0 55, .inl (cy 1, 41, .inl (gne.1 3))), (a0 56, .inl (cy 1, 41, .inl (gne.1 4))), (a0 57, .inl (cy 1, 41, .inl (gne.1 5))), (a0 58, .inl (cy 1, 41, .inl (gne.1 6))), (a0 59, .inl (cy 1, 41, .inl (gne.1 7))), (a0 60, .inl (cy 1, 41, .inl (gne.1 8))), (a0 61, .inl (cy 1, 41, .inl (gne.1 9))), (a0 62, .inl (cy 4, 5, .inr (.inr (.inr (.inr (fun i => some (a0 (63 + i)))))))), (a0 63, .inl (cy 2, 41, .inr (.inl (gne.2 0)))), (a0 64, .inl (cy 2, 41, .inr (.inl (gne.2 1)))), (a0 65, .inl (cy 2, 41, .inr (.inl (gne.2 2)))), (a0 66, .inl (cy 2, 41, .inr (.inl (gne.2 3)))), (a0 67, .inl (cy 2, 41, .inr (.inl (gne.2 4))))]
abbrev rm_X12_isSaferCouple : Room := { frames := 5, cells := 0, slots := 0, locals := 126 }
def p_X12_isSaferCouple (gg : Int32 × Int32 × Int32 × Int32 × Int32 × Int32) (gvn : Int32 × Int32 × (Nat → Int32) × (Nat → Int32) × (Nat → Int32) × (Nat → Int32) × (Nat → Int32)) (gdn : Int32 × Int32 × (Nat → Int32) × (Nat → Int32) × (Nat → Int32) × (Nat → Int32)) (gne : (Nat → Nat → Int32) × (Nat → Nat → Int64)) (x1 : Int32) (x2 : Int32) (x3 : Int32) (x4 : Int32) : Option (Int32) := ((p_X12_areOwedApart gg gvn gdn x1 x2).bind fun v1 => (if v1 = (0 : Int32) then some (0 : Int32) else ((p_X12_eases gg gvn gdn gne x2 x1 x3 x4).bind fun v4 => (if v4 = (0 : Int32) then some (0 : Int32) else ((p_X12_eases gg gvn gdn gne x1 x2 x3 x4).bind fun v7 => (if v7 = (0 : Int32) then some (0 : Int32) else some (1 : Int32)))))))
set_option maxHeartbeats 1000000 in
set_option maxRecDepth 100000 in
theorem c_X12_isSaferCouple (l : Launch) (dC : Nat → ClassId) (dI : Nat → Nat → Nat) (cy : Nat → ClassId) (a0 : Nat → Nat) (gg : Int32 × Int32 × Int32 × Int32 × Int32 × Int32) (gvn : Int32 × Int32 × (Nat → Int32) × (Nat → Int32) × (Nat → Int32) × (Nat → Int32) × (Nat → Int32)) (gdn : Int32 × Int32 × (Nat → Int32) × (Nat → Int32) × (Nat → Int32) × (Nat → Int32)) (gne : (Nat → Nat → Int32) × (Nat → Nat → Int64)) (x1 : Int32) (x2 : Int32) (x3 : Int32) (x4 : Int32) (sz : Nat) (R0 : Int32) (h : p_X12_isSaferCouple gg gvn gdn gne x1 x2 x3 x4 = some R0) : Met l yX12_isSaferCouple wsX12_isSaferCouple rm_X12_isSaferCouple (va_Pc [.ref (a0 0), .int x1, .int x2, .int x3, .int x4] (prC dC dI cy (w_X12_isSaferCouple cy a0 gg gvn gdn gne) sz)) (va_Qi (fun (r : Int32) (_ : Unit) => r = R0) (fun (_ : Unit) t => poC dC dI cy (w_X12_isSaferCouple cy a0 gg gvn gdn gne) t) (va_A (w_X12_isSaferCouple cy a0 gg gvn gdn gne) sz)) 0 0 (va_A (w_X12_isSaferCouple cy a0 gg gvn gdn gne) sz) := by
  refine Met.ofW (cc := cX12_isSaferCouple) (maxL := 5) (ret := (some .boolean)) (by decide) rfl ?_
  intro p e s m aa below meth c s₁ B hml hv
  obtain ⟨haa, hsz, hP, hK, hD0⟩ := hv
  have hx := B.exec
  have hb := B.bytes
  have hr := B.returns
  have hts := atoms_spec (ws := wsX12_isSaferCouple) B.pre
  have hown : s.vm.findClass RX12 = some m.cls := findClass_of_methodNamed B.named
  have hlocks := B.notSynchronized
  subst hsz
  have hD := hD0.self (sz := s.heap.size)
  obtain ⟨qq, hqq⟩ : ∃ qq, qq = (va_Qi (fun (r : Int32) (_ : Unit) => r = R0) (fun (_ : Unit) t => poC dC dI cy (w_X12_isSaferCouple cy a0 gg gvn gdn gne) t) (va_A (w_X12_isSaferCouple cy a0 gg gvn gdn gne) s.heap.size)) := ⟨_, rfl⟩
  rw [← hqq]
  generalize hAe : va_A (w_X12_isSaferCouple cy a0 gg gvn gdn gne) s.heap.size = A at hD hqq ⊢
  have hA : ∀ q : Nat, s.heap.size ≤ q → A q := fun q h => by rw [← hAe]; exact Or.inr h
  have hS : va_S A s.heap s.heap [] := va_S.rf
  have hl := lv_entry ([.ref (a0 0), .int x1, .int x2, .int x3, .int x4]) (n := 5) (Nat.le_of_ble_eq_true rfl)
  have hE : entryFrame m aa 5 = F0 m 0 ((lg_sl ([.ref (a0 0), .int x1, .int x2, .int x3, .int x4]) ++ List.replicate (5 - (lg_sl ([.ref (a0 0), .int x1, .int x2, .int x3, .int x4])).length) Slot.unset).toArray) [] := by rw [haa]; exact lg_entry_eq m _ 5
  refine W.eq hE ?_
  generalize (lg_sl ([.ref (a0 0), .int x1, .int x2, .int x3, .int x4]) ++ List.replicate (5 - (lg_sl ([.ref (a0 0), .int x1, .int x2, .int x3, .int x4])).length) Slot.unset).toArray = ls at hl ⊢
  have hl : lv_has ls 5 [(0, .ref (a0 0)), (1, .int x1), (2, .int x2), (3, .int x3), (4, .int x4)] := hl
  change W p l e rm_X12_isSaferCouple s m aa below meth c s.heap [] 0 0 (MQ below qq aa s 0 0 A) (F0 m 0 ls [])
  have hS0 := hS
  obtain ⟨H, hH⟩ : ∃ H : Heap, H = s.heap := ⟨_, rfl⟩
  obtain ⟨locs, hlocs⟩ : ∃ locs : List Loc, locs = [] := ⟨_, rfl⟩
  have hS : va_S A s.heap H locs := by rw [hH, hlocs]; exact hS
  rw [← hH] at hP
  suffices hg : W p l e rm_X12_isSaferCouple s m aa below meth c H locs 0 0 (MQ below qq aa s 0 0 A) (F0 m 0 ls []) by subst hH; subst hlocs; exact hg
  unfold p_X12_isSaferCouple at h
  refine lv_aload_n hx hb dX12_isSaferCouple_0 rfl (lv_at hl 0 rfl) ?_
  refine lv_iload_n hx hb dX12_isSaferCouple_1 rfl (lv_at hl 1 rfl) ?_
  refine lv_iload_n hx hb dX12_isSaferCouple_2 rfl (lv_at hl 2 rfl) ?_
  obtain ⟨v1, hv2, h⟩ := ok_bind h
  refine cl_vi (w2 := fun (_ : Unit) => w_X12_isSaferCouple cy a0 gg gvn gdn gne) (As := [.int x1, .int x2]) (rest := []) ⟨hx, hb, hml, hown, hts⟩ (c_X12_areOwedApart l dC dI cy a0 gg gvn gdn x1 x2 H.size v1 hv2) (cwV 2 hts gX12_isSaferCouple_X12_areOwedApart rfl rfl rfl (by decide +kernel) ⟨Nat.le_of_ble_eq_true rfl, Nat.le_of_ble_eq_true rfl⟩) (va_recv hK hP (ci := 10) (q0 := 0) rfl rfl) cl_blind (cl_pre hK hP hD [0, 1, 2, 3, 4, 5, 6, 7, 8, 9, 10, 11] (by decide) rfl) hP hD hS hA [0, 1, 2, 3, 4, 5, 6, 7, 8, 9, 10, 11] rfl rfl hl.1 rfl (lv_room (Nat.le_of_ble_eq_true rfl)) dX12_isSaferCouple_3 ⟨Nat.le_of_ble_eq_true rfl, Nat.le_of_ble_eq_true rfl⟩ ⟨rfl, rfl⟩ (fun _ => updR [0, 1, 2, 3, 4, 5, 6, 7, 8, 9, 10, 11] rfl) (fun r u H locs hw hP hD hS => ?_)
  have hw := hw.symm
  subst hw
  have hP : va_P (dC, dI) vwCl (w_X12_isSaferCouple cy a0 gg gvn gdn gne) H := hP
  have hD : va_D A (w_X12_isSaferCouple cy a0 gg gvn gdn gne) := hD
  refine lv_if_eq (tgt := 37) hx hb dX12_isSaferCouple_6 (by decide) (fun c3 => ?_) (fun c3 => ?_)
  · rw [if_pos c3] at h
    refine lv_iconst (v := (0 : Int32)) hx hb dX12_isSaferCouple_37 (by decide) ?_
    exact W.zret (v := (0 : Int32)) (ty := .boolean) hx hb hr rfl (fun t ht hW => by rw [hqq]; have hh := Option.some.inj h; exact ⟨⟨(0 : Int32), (()), rfl, Option.some.inj h, by rw [ht]; exact hP, va_K.moved hW.alike hK⟩, hS.F ht⟩) hS.2.2 dX12_isSaferCouple_38
  · rw [if_neg c3] at h
    refine lv_aload_n hx hb dX12_isSaferCouple_9 rfl (lv_at hl 0 rfl) ?_
    refine lv_iload_n hx hb dX12_isSaferCouple_10 rfl (lv_at hl 2 rfl) ?_
    refine lv_iload_n hx hb dX12_isSaferCouple_11 rfl (lv_at hl 1 rfl) ?_
    refine lv_iload_n hx hb dX12_isSaferCouple_12 rfl (lv_at hl 3 rfl) ?_
    refine lv_iload hx hb dX12_isSaferCouple_13 (lv_at hl 4 rfl) ?_
    obtain ⟨v4, hv5, h⟩ := ok_bind h
    refine cl_vi (w2 := fun (_ : Unit) => w_X12_isSaferCouple cy a0 gg gvn gdn gne) (As := [.int x2, .int x1, .int x3, .int x4]) (rest := []) ⟨hx, hb, hml, hown, hts⟩ (c_X12_eases l dC dI cy a0 gg gvn gdn gne x2 x1 x3 x4 H.size v4 hv5) (cwV 4 hts gX12_isSaferCouple_X12_eases rfl rfl rfl (by decide +kernel) ⟨Nat.le_of_ble_eq_true rfl, Nat.le_of_ble_eq_true rfl⟩) (va_recv hK hP (ci := 10) (q0 := 0) rfl rfl) cl_blind (cl_pre hK hP hD [0, 1, 2, 3, 4, 5, 6, 7, 8, 9, 10, 11, 12, 13, 14, 15, 16, 17, 18, 19, 20, 21, 22, 23, 24, 25, 26, 27, 28, 29] (by decide) rfl) hP hD hS hA [0, 1, 2, 3, 4, 5, 6, 7, 8, 9, 10, 11, 12, 13, 14, 15, 16, 17, 18, 19, 20, 21, 22, 23, 24, 25, 26, 27, 28, 29] rfl rfl hl.1 rfl (lv_room (Nat.le_of_ble_eq_true rfl)) dX12_isSaferCouple_15 ⟨Nat.le_of_ble_eq_true rfl, Nat.le_of_ble_eq_true rfl⟩ ⟨rfl, rfl⟩ (fun _ => updR [0, 1, 2, 3, 4, 5, 6, 7, 8, 9, 10, 11, 12, 13, 14, 15, 16, 17, 18, 19, 20, 21, 22, 23, 24, 25, 26, 27, 28, 29] rfl) (fun r u H locs hw hP hD hS => ?_)
    have hw := hw.symm
    subst hw
    have hP : va_P (dC, dI) vwCl (w_X12_isSaferCouple cy a0 gg gvn gdn gne) H := hP
    have hD : va_D A (w_X12_isSaferCouple cy a0 gg gvn gdn gne) := hD
    refine lv_if_eq (tgt := 37) hx hb dX12_isSaferCouple_18 (by decide) (fun c6 => ?_) (fun c6 => ?_)
    · rw [if_pos c6] at h
      refine lv_iconst (v := (0 : Int32)) hx hb dX12_isSaferCouple_37 (by decide) ?_
      exact W.zret (v := (0 : Int32)) (ty := .boolean) hx hb hr rfl (fun t ht hW => by rw [hqq]; have hh := Option.some.inj h; exact ⟨⟨(0 : Int32), (()), rfl, Option.some.inj h, by rw [ht]; exact hP, va_K.moved hW.alike hK⟩, hS.F ht⟩) hS.2.2 dX12_isSaferCouple_38
    · rw [if_neg c6] at h
      refine lv_aload_n hx hb dX12_isSaferCouple_21 rfl (lv_at hl 0 rfl) ?_
      refine lv_iload_n hx hb dX12_isSaferCouple_22 rfl (lv_at hl 1 rfl) ?_
      refine lv_iload_n hx hb dX12_isSaferCouple_23 rfl (lv_at hl 2 rfl) ?_
      refine lv_iload_n hx hb dX12_isSaferCouple_24 rfl (lv_at hl 3 rfl) ?_
      refine lv_iload hx hb dX12_isSaferCouple_25 (lv_at hl 4 rfl) ?_
      obtain ⟨v7, hv8, h⟩ := ok_bind h
      refine cl_vi (w2 := fun (_ : Unit) => w_X12_isSaferCouple cy a0 gg gvn gdn gne) (As := [.int x1, .int x2, .int x3, .int x4]) (rest := []) ⟨hx, hb, hml, hown, hts⟩ (c_X12_eases l dC dI cy a0 gg gvn gdn gne x1 x2 x3 x4 H.size v7 hv8) (cwV 4 hts gX12_isSaferCouple_X12_eases rfl rfl rfl (by decide +kernel) ⟨Nat.le_of_ble_eq_true rfl, Nat.le_of_ble_eq_true rfl⟩) (va_recv hK hP (ci := 10) (q0 := 0) rfl rfl) cl_blind (cl_pre hK hP hD [0, 1, 2, 3, 4, 5, 6, 7, 8, 9, 10, 11, 12, 13, 14, 15, 16, 17, 18, 19, 20, 21, 22, 23, 24, 25, 26, 27, 28, 29] (by decide) rfl) hP hD hS hA [0, 1, 2, 3, 4, 5, 6, 7, 8, 9, 10, 11, 12, 13, 14, 15, 16, 17, 18, 19, 20, 21, 22, 23, 24, 25, 26, 27, 28, 29] rfl rfl hl.1 rfl (lv_room (Nat.le_of_ble_eq_true rfl)) dX12_isSaferCouple_27 ⟨Nat.le_of_ble_eq_true rfl, Nat.le_of_ble_eq_true rfl⟩ ⟨rfl, rfl⟩ (fun _ => updR [0, 1, 2, 3, 4, 5, 6, 7, 8, 9, 10, 11, 12, 13, 14, 15, 16, 17, 18, 19, 20, 21, 22, 23, 24, 25, 26, 27, 28, 29] rfl) (fun r u H locs hw hP hD hS => ?_)
      have hw := hw.symm
      subst hw
      have hP : va_P (dC, dI) vwCl (w_X12_isSaferCouple cy a0 gg gvn gdn gne) H := hP
      have hD : va_D A (w_X12_isSaferCouple cy a0 gg gvn gdn gne) := hD
      refine lv_if_eq (tgt := 37) hx hb dX12_isSaferCouple_30 (by decide) (fun c9 => ?_) (fun c9 => ?_)
      · rw [if_pos c9] at h
        refine lv_iconst (v := (0 : Int32)) hx hb dX12_isSaferCouple_37 (by decide) ?_
        exact W.zret (v := (0 : Int32)) (ty := .boolean) hx hb hr rfl (fun t ht hW => by rw [hqq]; have hh := Option.some.inj h; exact ⟨⟨(0 : Int32), (()), rfl, Option.some.inj h, by rw [ht]; exact hP, va_K.moved hW.alike hK⟩, hS.F ht⟩) hS.2.2 dX12_isSaferCouple_38
      · rw [if_neg c9] at h
        refine lv_iconst (v := (1 : Int32)) hx hb dX12_isSaferCouple_33 (by decide) ?_
        refine lv_goto (tgt := 38) hx hb dX12_isSaferCouple_34 (by decide) ?_
        exact W.zret (v := (1 : Int32)) (ty := .boolean) hx hb hr rfl (fun t ht hW => by rw [hqq]; have hh := Option.some.inj h; exact ⟨⟨(1 : Int32), (()), rfl, Option.some.inj h, by rw [ht]; exact hP, va_K.moved hW.alike hK⟩, hS.F ht⟩) hS.2.2 dX12_isSaferCouple_38

abbrev w_X12_saferCouples (cy : Nat → ClassId) (a0 : Nat → Nat) (gg : Int32 × Int32 × Int32 × Int32 × Int32 × Int32) (gvn : Int32 × Int32 × (Nat → Int32) × (Nat → Int32) × (Nat → Int32) × (Nat → Int32) × (Nat → Int32)) (gdn : Int32 × Int32 × (Nat → Int32) × (Nat → Int32) × (Nat → Int32) × (Nat → Int32)) (gne : (Nat → Nat → Int32) × (Nat → Nat → Int64)) : va_W := [(a0 0, .inr (10, [.ref (a0 1), .int (gg.1), .int (gg.2.1), .int (gg.2.2.1), .int (gg.2.2.2.1), .int (gg.2.2.2.2.1), .ref (a0 2), .ref (a0 17), .ref (a0 32), .int (gg.2.2.2.2.2), .ref (a0 47), .ref (a0 48), .ref (a0 49), .ref (a0 50), .ref (a0 68), .ref (a0 78), .ref (a0 80)])), (a0 2, .inr (7, [.int (gvn.1), .int (gvn.2.1), .ref (a0 3), .ref (a0 8), .ref (a0 12), .ref (a0 13), .ref (a0 14), .ref (a0 15), .ref (a0 16)])), (a0 3, .inr (2, [.int (gdn.1), .int (gdn.2.1), .ref (a0 4), .ref (a0 5), .ref (a0 6), .ref (a0 7)])), (a0 4, .inl (cy 1, 10, .inl (gdn.2.2.1))), (a0 5, .inl (cy 1, 10, .inl (gdn.2.2.2.1))), (a0 6, .inl (cy 1, 10, .inl (gdn.2.2.2.2.1))), (a0 7, .inl (cy 1, 50, .inl (gdn.2.2.2.2.2))), (a0 12, .inl (cy 1, 5, .inl (gvn.2.2.1))), (a0 13, .inl (cy 1, 5, .inl (gvn.2.2.2.1))), (a0 14, .inl (cy 1, 5, .inl (gvn.2.2.2.2.1))), (a0 15, .inl (cy 1, 5, .inl (gvn.2.2.2.2.2.1))), (a0 16, .inl (cy 1, 5, .inl (gvn.2.2.2.2.2.2))), (a0 50, .inr (4, [.ref (a0 51), .ref (a0 62)])), (a0 51, .inl (cy 3, 10, .inr (.inr (.inr (.inr (fun i => some (a0 (52 + i)))))))), (a0 52, .inl (cy 1, 41, .inl (gne.1 0))), (a0 53, .inl (cy 1, 41, .inl (gne.1 1))), (a0 54, .inl (cy 1, 41, .inl (gne.1 2))), (a0 55, .inl (cy 1, 41, .inl (gne.1 3))), (a0 56, .inl (cy 1, 41, .inl (gne.1 4))), (a0 57, .inl (cy 1, 41, .inl (gne.1 5))), (a0 58, .inl (cy 1, 41, .inl (gne.1 6))), (a0 59, .inl (cy 1, 41, .inl (gne.1 7))), (a0 60, .inl (cy 1, 41, .inl (gne.1 8))), (a0 61, .inl (cy 1, 41, .inl (gne.1 9))), (a0 62, .inl (cy 4, 5, .inr (.inr (.inr (.inr (fun i => some (a0 (63 + i)))))))), (a0 63, .inl (cy 2, 41, .inr (.inl (gne.2 0)))), (a0 64, .inl (cy 2, 41, .inr (.inl (gne.2 1)))), (a0 65, .inl (cy 2, 41, .inr (.inl (gne.2 2)))), (a0 66, .inl (cy 2, 41, .inr (.inl (gne.2 3)))), (a0 67, .inl (cy 2, 41, .inr (.inl (gne.2 4))))]
abbrev rm_X12_saferCouples : Room := { frames := 6, cells := 0, slots := 0, locals := 150 }
def p_X12_saferCouples_55 (k6 : Int32 → Int32 → Int32 → Int32 → Int32 → Option (Int32)) (k19 : Int32 → Int32 → Int32 → Int32 → Int32 → Int32 → Option (Int32)) (gg : Int32 × Int32 × Int32 × Int32 × Int32 × Int32) (gvn : Int32 × Int32 × (Nat → Int32) × (Nat → Int32) × (Nat → Int32) × (Nat → Int32) × (Nat → Int32)) (gdn : Int32 × Int32 × (Nat → Int32) × (Nat → Int32) × (Nat → Int32) × (Nat → Int32)) (gne : (Nat → Nat → Int32) × (Nat → Nat → Int64))  (x1 : Int32) (x2 : Int32) (x3 : Int32) (x4 : Int32) (x5 : Int32) (x6 : Int32) : Option (Int32) := k19 x1 x2 x3 x4 x5 (x6 + (1 : Int32))
def p_X12_saferCouples_19 (k6 : Int32 → Int32 → Int32 → Int32 → Int32 → Option (Int32)) (gg : Int32 × Int32 × Int32 × Int32 × Int32 × Int32) (gvn : Int32 × Int32 × (Nat → Int32) × (Nat → Int32) × (Nat → Int32) × (Nat → Int32) × (Nat → Int32)) (gdn : Int32 × Int32 × (Nat → Int32) × (Nat → Int32) × (Nat → Int32) × (Nat → Int32)) (gne : (Nat → Nat → Int32) × (Nat → Nat → Int64)) : Nat → Int32 → Int32 → Int32 → Int32 → Int32 → Int32 → Option (Int32)
  | 0, _, _, _, _, _, _ => none
  | n + 1, x1, x2, x3, x4, x5, x6 => (if (10 : Int32) ≤ x6 then k6 x1 x2 x3 x4 (x5 + (1 : Int32)) else ((p_X12_isSaferCouple gg gvn gdn gne x5 x6 x1 x2).bind fun v2 => (if v2 = (0 : Int32) then p_X12_saferCouples_55 k6 (p_X12_saferCouples_19 k6 gg gvn gdn gne n) gg gvn gdn gne x1 x2 x3 x4 x5 x6 else (if x3 = (0 : Int32) then some (((16 : Int32) * x5) + x6) else p_X12_saferCouples_55 k6 (p_X12_saferCouples_19 k6 gg gvn gdn gne n) gg gvn gdn gne x1 x2 x3 (x4 + (1 : Int32)) x5 x6))))
def p_X12_saferCouples_6 (gg : Int32 × Int32 × Int32 × Int32 × Int32 × Int32) (gvn : Int32 × Int32 × (Nat → Int32) × (Nat → Int32) × (Nat → Int32) × (Nat → Int32) × (Nat → Int32)) (gdn : Int32 × Int32 × (Nat → Int32) × (Nat → Int32) × (Nat → Int32) × (Nat → Int32)) (gne : (Nat → Nat → Int32) × (Nat → Nat → Int64)) : Nat → Int32 → Int32 → Int32 → Int32 → Int32 → Option (Int32)
  | 0, _, _, _, _, _ => none
  | n + 1, x1, x2, x3, x4, x5 => (if (10 : Int32) ≤ x5 then (if x3 = (0 : Int32) then some (-1 : Int32) else some x4) else p_X12_saferCouples_19 (p_X12_saferCouples_6 gg gvn gdn gne n) gg gvn gdn gne fu x1 x2 x3 x4 x5 (x5 + (1 : Int32)))
def p_X12_saferCouples (gg : Int32 × Int32 × Int32 × Int32 × Int32 × Int32) (gvn : Int32 × Int32 × (Nat → Int32) × (Nat → Int32) × (Nat → Int32) × (Nat → Int32) × (Nat → Int32)) (gdn : Int32 × Int32 × (Nat → Int32) × (Nat → Int32) × (Nat → Int32) × (Nat → Int32)) (gne : (Nat → Nat → Int32) × (Nat → Nat → Int64)) (x1 : Int32) (x2 : Int32) (x3 : Int32) : Option (Int32) := p_X12_saferCouples_6 gg gvn gdn gne fu x1 x2 x3 (0 : Int32) (0 : Int32)
set_option maxHeartbeats 1000000 in
set_option maxRecDepth 100000 in
theorem c_X12_saferCouples (l : Launch) (dC : Nat → ClassId) (dI : Nat → Nat → Nat) (cy : Nat → ClassId) (a0 : Nat → Nat) (gg : Int32 × Int32 × Int32 × Int32 × Int32 × Int32) (gvn : Int32 × Int32 × (Nat → Int32) × (Nat → Int32) × (Nat → Int32) × (Nat → Int32) × (Nat → Int32)) (gdn : Int32 × Int32 × (Nat → Int32) × (Nat → Int32) × (Nat → Int32) × (Nat → Int32)) (gne : (Nat → Nat → Int32) × (Nat → Nat → Int64)) (x1 : Int32) (x2 : Int32) (x3 : Int32) (sz : Nat) (R0 : Int32) (h : p_X12_saferCouples gg gvn gdn gne x1 x2 x3 = some R0) : Met l yX12_saferCouples wsX12_saferCouples rm_X12_saferCouples (va_Pc [.ref (a0 0), .int x1, .int x2, .int x3] (prC dC dI cy (w_X12_saferCouples cy a0 gg gvn gdn gne) sz)) (va_Qi (fun (r : Int32) (_ : Unit) => r = R0) (fun (_ : Unit) t => poC dC dI cy (w_X12_saferCouples cy a0 gg gvn gdn gne) t) (va_A (w_X12_saferCouples cy a0 gg gvn gdn gne) sz)) 0 0 (va_A (w_X12_saferCouples cy a0 gg gvn gdn gne) sz) := by
  refine Met.ofW (cc := cX12_saferCouples) (maxL := 7) (ret := (some .int)) (by decide) rfl ?_
  intro p e s m aa below meth c s₁ B hml hv
  obtain ⟨haa, hsz, hP, hK, hD0⟩ := hv
  have hx := B.exec
  have hb := B.bytes
  have hr := B.returns
  have hts := atoms_spec (ws := wsX12_saferCouples) B.pre
  have hown : s.vm.findClass RX12 = some m.cls := findClass_of_methodNamed B.named
  have hlocks := B.notSynchronized
  subst hsz
  have hD := hD0.self (sz := s.heap.size)
  obtain ⟨qq, hqq⟩ : ∃ qq, qq = (va_Qi (fun (r : Int32) (_ : Unit) => r = R0) (fun (_ : Unit) t => poC dC dI cy (w_X12_saferCouples cy a0 gg gvn gdn gne) t) (va_A (w_X12_saferCouples cy a0 gg gvn gdn gne) s.heap.size)) := ⟨_, rfl⟩
  rw [← hqq]
  generalize hAe : va_A (w_X12_saferCouples cy a0 gg gvn gdn gne) s.heap.size = A at hD hqq ⊢
  have hA : ∀ q : Nat, s.heap.size ≤ q → A q := fun q h => by rw [← hAe]; exact Or.inr h
  have hS : va_S A s.heap s.heap [] := va_S.rf
  have hl := lv_entry ([.ref (a0 0), .int x1, .int x2, .int x3]) (n := 7) (Nat.le_of_ble_eq_true rfl)
  have hE : entryFrame m aa 7 = F0 m 0 ((lg_sl ([.ref (a0 0), .int x1, .int x2, .int x3]) ++ List.replicate (7 - (lg_sl ([.ref (a0 0), .int x1, .int x2, .int x3])).length) Slot.unset).toArray) [] := by rw [haa]; exact lg_entry_eq m _ 7
  refine W.eq hE ?_
  generalize (lg_sl ([.ref (a0 0), .int x1, .int x2, .int x3]) ++ List.replicate (7 - (lg_sl ([.ref (a0 0), .int x1, .int x2, .int x3])).length) Slot.unset).toArray = ls at hl ⊢
  have hl : lv_has ls 7 [(0, .ref (a0 0)), (1, .int x1), (2, .int x2), (3, .int x3)] := hl
  change W p l e rm_X12_saferCouples s m aa below meth c s.heap [] 0 0 (MQ below qq aa s 0 0 A) (F0 m 0 ls [])
  have hS0 := hS
  have c55 : ∀ (k6 : Int32 → Int32 → Int32 → Int32 → Int32 → Option (Int32)) (hk6 : ∀ (x1 : Int32) (x2 : Int32) (x3 : Int32) (x4 : Int32) (x5 : Int32) (H : Heap) (locs : List Loc) (ls : Array Slot), k6 x1 x2 x3 x4 x5 = some R0 → va_P (dC, dI) vwCl (w_X12_saferCouples cy a0 gg gvn gdn gne) H → va_D A (w_X12_saferCouples cy a0 gg gvn gdn gne) → va_S A s.heap H locs → lv_has ls 7 [(0, .ref (a0 0)), (1, .int x1), (2, .int x2), (3, .int x3), (4, .int x4), (5, .int x5)] → W p l e rm_X12_saferCouples s m aa below meth c H locs 0 0 (MQ below qq aa s 0 0 A) (F0 m 6 ls [])) (k19 : Int32 → Int32 → Int32 → Int32 → Int32 → Int32 → Option (Int32)) (hk19 : ∀ (x1 : Int32) (x2 : Int32) (x3 : Int32) (x4 : Int32) (x5 : Int32) (x6 : Int32) (H : Heap) (locs : List Loc) (ls : Array Slot), k19 x1 x2 x3 x4 x5 x6 = some R0 → va_P (dC, dI) vwCl (w_X12_saferCouples cy a0 gg gvn gdn gne) H → va_D A (w_X12_saferCouples cy a0 gg gvn gdn gne) → va_S A s.heap H locs → lv_has ls 7 [(0, .ref (a0 0)), (1, .int x1), (2, .int x2), (3, .int x3), (4, .int x4), (5, .int x5), (6, .int x6)] → W p l e rm_X12_saferCouples s m aa below meth c H locs 0 0 (MQ below qq aa s 0 0 A) (F0 m 19 ls [])), ∀ (x1 : Int32) (x2 : Int32) (x3 : Int32) (x4 : Int32) (x5 : Int32) (x6 : Int32) (H : Heap) (locs : List Loc) (ls : Array Slot), p_X12_saferCouples_55 k6 k19 gg gvn gdn gne x1 x2 x3 x4 x5 x6 = some R0 → va_P (dC, dI) vwCl (w_X12_saferCouples cy a0 gg gvn gdn gne) H → va_D A (w_X12_saferCouples cy a0 gg gvn gdn gne) → va_S A s.heap H locs → lv_has ls 7 [(0, .ref (a0 0)), (1, .int x1), (2, .int x2), (3, .int x3), (4, .int x4), (5, .int x5), (6, .int x6)] → W p l e rm_X12_saferCouples s m aa below meth c H locs 0 0 (MQ below qq aa s 0 0 A) (F0 m 55 ls []) := by
    intro k6 hk6 k19 hk19 x1 x2 x3 x4 x5 x6 H locs ls h hP hD hS hl
    unfold p_X12_saferCouples_55 at h
    refine lv_iinc (v := (x6 + (1 : Int32))) (lv' := [(6, .int (x6 + (1 : Int32))), (0, .ref (a0 0)), (1, .int x1), (2, .int x2), (3, .int x3), (4, .int x4), (5, .int x5)]) hx hb dX12_saferCouples_55 hl (k := 6) rfl rfl (by decide) rfl (fun ls hl => ?_)
    refine lv_goto (tgt := 19) hx hb dX12_saferCouples_58 (by decide) ?_
    exact hk19 x1 x2 x3 x4 x5 (x6 + (1 : Int32)) H locs ls h hP hD hS (lv_sub hl [1, 2, 3, 4, 5, 6, 0] rfl)
  have c19 : ∀ (k6 : Int32 → Int32 → Int32 → Int32 → Int32 → Option (Int32)) (hk6 : ∀ (x1 : Int32) (x2 : Int32) (x3 : Int32) (x4 : Int32) (x5 : Int32) (H : Heap) (locs : List Loc) (ls : Array Slot), k6 x1 x2 x3 x4 x5 = some R0 → va_P (dC, dI) vwCl (w_X12_saferCouples cy a0 gg gvn gdn gne) H → va_D A (w_X12_saferCouples cy a0 gg gvn gdn gne) → va_S A s.heap H locs → lv_has ls 7 [(0, .ref (a0 0)), (1, .int x1), (2, .int x2), (3, .int x3), (4, .int x4), (5, .int x5)] → W p l e rm_X12_saferCouples s m aa below meth c H locs 0 0 (MQ below qq aa s 0 0 A) (F0 m 6 ls [])) (n : Nat), ∀ (x1 : Int32) (x2 : Int32) (x3 : Int32) (x4 : Int32) (x5 : Int32) (x6 : Int32) (H : Heap) (locs : List Loc) (ls : Array Slot), p_X12_saferCouples_19 k6 gg gvn gdn gne n x1 x2 x3 x4 x5 x6 = some R0 → va_P (dC, dI) vwCl (w_X12_saferCouples cy a0 gg gvn gdn gne) H → va_D A (w_X12_saferCouples cy a0 gg gvn gdn gne) → va_S A s.heap H locs → lv_has ls 7 [(0, .ref (a0 0)), (1, .int x1), (2, .int x2), (3, .int x3), (4, .int x4), (5, .int x5), (6, .int x6)] → W p l e rm_X12_saferCouples s m aa below meth c H locs 0 0 (MQ below qq aa s 0 0 A) (F0 m 19 ls []) := by
    intro k6 hk6 n
    induction n with
    | zero => intro x1 x2 x3 x4 x5 x6 H locs ls h; exact no_some h
    | succ n ih =>
      intro x1 x2 x3 x4 x5 x6 H locs ls h hP hD hS hl
      rw [p_X12_saferCouples_19.eq_2] at h
      refine lv_iload hx hb dX12_saferCouples_19 (lv_at hl 6 rfl) ?_
      refine lv_bipush (v := (10 : Int32)) hx hb dX12_saferCouples_21 (by decide) ?_
      refine lv_icmp_ge (tgt := 61) hx hb dX12_saferCouples_23 (by decide) (fun c1 => ?_) (fun c1 => ?_)
      · rw [if_pos c1] at h
        refine lv_iinc (v := (x5 + (1 : Int32))) (lv' := [(5, .int (x5 + (1 : Int32))), (0, .ref (a0 0)), (1, .int x1), (2, .int x2), (3, .int x3), (4, .int x4), (6, .int x6)]) hx hb dX12_saferCouples_61 hl (k := 5) rfl rfl (by decide) rfl (fun ls hl => ?_)
        refine lv_goto (tgt := 6) hx hb dX12_saferCouples_64 (by decide) ?_
        exact hk6 x1 x2 x3 x4 (x5 + (1 : Int32)) H locs ls h hP hD hS (lv_sub hl [1, 2, 3, 4, 5, 0] rfl)
      · rw [if_neg c1] at h
        refine lv_aload_n hx hb dX12_saferCouples_26 rfl (lv_at hl 0 rfl) ?_
        refine lv_iload hx hb dX12_saferCouples_27 (lv_at hl 5 rfl) ?_
        refine lv_iload hx hb dX12_saferCouples_29 (lv_at hl 6 rfl) ?_
        refine lv_iload_n hx hb dX12_saferCouples_31 rfl (lv_at hl 1 rfl) ?_
        refine lv_iload_n hx hb dX12_saferCouples_32 rfl (lv_at hl 2 rfl) ?_
        obtain ⟨v2, hv3, h⟩ := ok_bind h
        refine cl_vi (w2 := fun (_ : Unit) => w_X12_saferCouples cy a0 gg gvn gdn gne) (As := [.int x5, .int x6, .int x1, .int x2]) (rest := []) ⟨hx, hb, hml, hown, hts⟩ (c_X12_isSaferCouple l dC dI cy a0 gg gvn gdn gne x5 x6 x1 x2 H.size v2 hv3) (cwV 4 hts gX12_saferCouples_X12_isSaferCouple rfl rfl rfl (by decide +kernel) ⟨Nat.le_of_ble_eq_true rfl, Nat.le_of_ble_eq_true rfl⟩) (va_recv hK hP (ci := 10) (q0 := 0) rfl rfl) cl_blind (cl_pre hK hP hD [0, 1, 2, 3, 4, 5, 6, 7, 8, 9, 10, 11, 12, 13, 14, 15, 16, 17, 18, 19, 20, 21, 22, 23, 24, 25, 26, 27, 28, 29] (by decide) rfl) hP hD hS hA [0, 1, 2, 3, 4, 5, 6, 7, 8, 9, 10, 11, 12, 13, 14, 15, 16, 17, 18, 19, 20, 21, 22, 23, 24, 25, 26, 27, 28, 29] rfl rfl hl.1 rfl (lv_room (Nat.le_of_ble_eq_true rfl)) dX12_saferCouples_33 ⟨Nat.le_of_ble_eq_true rfl, Nat.le_of_ble_eq_true rfl⟩ ⟨rfl, rfl⟩ (fun _ => updR [0, 1, 2, 3, 4, 5, 6, 7, 8, 9, 10, 11, 12, 13, 14, 15, 16, 17, 18, 19, 20, 21, 22, 23, 24, 25, 26, 27, 28, 29] rfl) (fun r u H locs hw hP hD hS => ?_)
        have hw := hw.symm
        subst hw
        have hP : va_P (dC, dI) vwCl (w_X12_saferCouples cy a0 gg gvn gdn gne) H := hP
        have hD : va_D A (w_X12_saferCouples cy a0 gg gvn gdn gne) := hD
        refine lv_if_eq (tgt := 55) hx hb dX12_saferCouples_36 (by decide) (fun c4 => ?_) (fun c4 => ?_)
        · rw [if_pos c4] at h
          exact c55 k6 hk6 (p_X12_saferCouples_19 k6 gg gvn gdn gne n) ih x1 x2 x3 x4 x5 x6 H locs ls h hP hD hS (lv_sub hl [0, 1, 2, 3, 4, 5, 6] rfl)
        · rw [if_neg c4] at h
          refine lv_iload_n hx hb dX12_saferCouples_39 rfl (lv_at hl 3 rfl) ?_
          refine lv_if_ne (tgt := 52) hx hb dX12_saferCouples_40 (by decide) (fun c5 => ?_) (fun c5 => ?_)
          · rw [if_neg c5] at h
            refine lv_iinc (v := (x4 + (1 : Int32))) (lv' := [(4, .int (x4 + (1 : Int32))), (0, .ref (a0 0)), (1, .int x1), (2, .int x2), (3, .int x3), (5, .int x5), (6, .int x6)]) hx hb dX12_saferCouples_52 hl (k := 4) rfl rfl (by decide) rfl (fun ls hl => ?_)
            exact c55 k6 hk6 (p_X12_saferCouples_19 k6 gg gvn gdn gne n) ih x1 x2 x3 (x4 + (1 : Int32)) x5 x6 H locs ls h hP hD hS (lv_sub hl [1, 2, 3, 4, 0, 5, 6] rfl)
          · rw [if_pos c5] at h
            refine lv_bipush (v := (16 : Int32)) hx hb dX12_saferCouples_43 (by decide) ?_
            refine lv_iload hx hb dX12_saferCouples_45 (lv_at hl 5 rfl) ?_
            refine lv_imul hx hb dX12_saferCouples_47 ?_
            refine lv_iload hx hb dX12_saferCouples_48 (lv_at hl 6 rfl) ?_
            refine lv_iadd hx hb dX12_saferCouples_50 ?_
            exact W.iret (v := (((16 : Int32) * x5) + x6)) hx hb hr (fun t ht hW => by rw [hqq]; have hh := Option.some.inj h; exact ⟨⟨(((16 : Int32) * x5) + x6), (()), rfl, Option.some.inj h, by rw [ht]; exact hP, va_K.moved hW.alike hK⟩, hS.F ht⟩) hS.2.2 dX12_saferCouples_51
  have c6 : ∀ (n : Nat), ∀ (x1 : Int32) (x2 : Int32) (x3 : Int32) (x4 : Int32) (x5 : Int32) (H : Heap) (locs : List Loc) (ls : Array Slot), p_X12_saferCouples_6 gg gvn gdn gne n x1 x2 x3 x4 x5 = some R0 → va_P (dC, dI) vwCl (w_X12_saferCouples cy a0 gg gvn gdn gne) H → va_D A (w_X12_saferCouples cy a0 gg gvn gdn gne) → va_S A s.heap H locs → lv_has ls 7 [(0, .ref (a0 0)), (1, .int x1), (2, .int x2), (3, .int x3), (4, .int x4), (5, .int x5)] → W p l e rm_X12_saferCouples s m aa below meth c H locs 0 0 (MQ below qq aa s 0 0 A) (F0 m 6 ls []) := by
    intro  n
    induction n with
    | zero => intro x1 x2 x3 x4 x5 H locs ls h; exact no_some h
    | succ n ih =>
      intro x1 x2 x3 x4 x5 H locs ls h hP hD hS hl
      rw [p_X12_saferCouples_6.eq_2] at h
      refine lv_iload hx hb dX12_saferCouples_6 (lv_at hl 5 rfl) ?_
      refine lv_bipush (v := (10 : Int32)) hx hb dX12_saferCouples_8 (by decide) ?_
      refine lv_icmp_ge (tgt := 67) hx hb dX12_saferCouples_10 (by decide) (fun c1 => ?_) (fun c1 => ?_)
      · rw [if_pos c1] at h
        refine lv_iload_n hx hb dX12_saferCouples_67 rfl (lv_at hl 3 rfl) ?_
        refine lv_if_eq (tgt := 76) hx hb dX12_saferCouples_68 (by decide) (fun c2 => ?_) (fun c2 => ?_)
        · rw [if_pos c2] at h
          refine lv_iconst (v := (-1 : Int32)) hx hb dX12_saferCouples_76 (by decide) ?_
          exact W.iret (v := (-1 : Int32)) hx hb hr (fun t ht hW => by rw [hqq]; have hh := Option.some.inj h; exact ⟨⟨(-1 : Int32), (()), rfl, Option.some.inj h, by rw [ht]; exact hP, va_K.moved hW.alike hK⟩, hS.F ht⟩) hS.2.2 dX12_saferCouples_77
        · rw [if_neg c2] at h
          refine lv_iload hx hb dX12_saferCouples_71 (lv_at hl 4 rfl) ?_
          refine lv_goto (tgt := 77) hx hb dX12_saferCouples_73 (by decide) ?_
          exact W.iret (v := x4) hx hb hr (fun t ht hW => by rw [hqq]; have hh := Option.some.inj h; exact ⟨⟨x4, (()), rfl, Option.some.inj h, by rw [ht]; exact hP, va_K.moved hW.alike hK⟩, hS.F ht⟩) hS.2.2 dX12_saferCouples_77
      · rw [if_neg c1] at h
        refine lv_iload hx hb dX12_saferCouples_13 (lv_at hl 5 rfl) ?_
        refine lv_iconst (v := (1 : Int32)) hx hb dX12_saferCouples_15 (by decide) ?_
        refine lv_iadd hx hb dX12_saferCouples_16 ?_
        refine lv_istore (lv' := [(6, .int (x5 + (1 : Int32))), (0, .ref (a0 0)), (1, .int x1), (2, .int x2), (3, .int x3), (4, .int x4), (5, .int x5)]) hx hb dX12_saferCouples_17 hl (by decide) rfl (fun ls hl => ?_)
        exact c19 (p_X12_saferCouples_6 gg gvn gdn gne n) ih fu x1 x2 x3 x4 x5 (x5 + (1 : Int32)) H locs ls h hP hD hS (lv_sub hl [1, 2, 3, 4, 5, 6, 0] rfl)
  obtain ⟨H, hH⟩ : ∃ H : Heap, H = s.heap := ⟨_, rfl⟩
  obtain ⟨locs, hlocs⟩ : ∃ locs : List Loc, locs = [] := ⟨_, rfl⟩
  have hS : va_S A s.heap H locs := by rw [hH, hlocs]; exact hS
  rw [← hH] at hP
  suffices hg : W p l e rm_X12_saferCouples s m aa below meth c H locs 0 0 (MQ below qq aa s 0 0 A) (F0 m 0 ls []) by subst hH; subst hlocs; exact hg
  unfold p_X12_saferCouples at h
  refine lv_iconst (v := (0 : Int32)) hx hb dX12_saferCouples_0 (by decide) ?_
  refine lv_istore (lv' := [(4, .int (0 : Int32)), (0, .ref (a0 0)), (1, .int x1), (2, .int x2), (3, .int x3)]) hx hb dX12_saferCouples_1 hl (by decide) rfl (fun ls hl => ?_)
  refine lv_iconst (v := (0 : Int32)) hx hb dX12_saferCouples_3 (by decide) ?_
  refine lv_istore (lv' := [(5, .int (0 : Int32)), (4, .int (0 : Int32)), (0, .ref (a0 0)), (1, .int x1), (2, .int x2), (3, .int x3)]) hx hb dX12_saferCouples_4 hl (by decide) rfl (fun ls hl => ?_)
  exact c6 fu x1 x2 x3 (0 : Int32) (0 : Int32) H locs ls h hP hD hS (lv_sub hl [2, 3, 4, 5, 1, 0] rfl)

abbrev w_X12_safer (cy : Nat → ClassId) (a0 : Nat → Nat) (gg : Int32 × Int32 × Int32 × Int32 × Int32 × Int32) (gvn : Int32 × Int32 × (Nat → Int32) × (Nat → Int32) × (Nat → Int32) × (Nat → Int32) × (Nat → Int32)) (gdn : Int32 × Int32 × (Nat → Int32) × (Nat → Int32) × (Nat → Int32) × (Nat → Int32)) (gne : (Nat → Nat → Int32) × (Nat → Nat → Int64)) : va_W := [(a0 0, .inr (10, [.ref (a0 1), .int (gg.1), .int (gg.2.1), .int (gg.2.2.1), .int (gg.2.2.2.1), .int (gg.2.2.2.2.1), .ref (a0 2), .ref (a0 17), .ref (a0 32), .int (gg.2.2.2.2.2), .ref (a0 47), .ref (a0 48), .ref (a0 49), .ref (a0 50), .ref (a0 68), .ref (a0 78), .ref (a0 80)])), (a0 2, .inr (7, [.int (gvn.1), .int (gvn.2.1), .ref (a0 3), .ref (a0 8), .ref (a0 12), .ref (a0 13), .ref (a0 14), .ref (a0 15), .ref (a0 16)])), (a0 3, .inr (2, [.int (gdn.1), .int (gdn.2.1), .ref (a0 4), .ref (a0 5), .ref (a0 6), .ref (a0 7)])), (a0 4, .inl (cy 1, 10, .inl (gdn.2.2.1))), (a0 5, .inl (cy 1, 10, .inl (gdn.2.2.2.1))), (a0 6, .inl (cy 1, 10, .inl (gdn.2.2.2.2.1))), (a0 7, .inl (cy 1, 50, .inl (gdn.2.2.2.2.2))), (a0 12, .inl (cy 1, 5, .inl (gvn.2.2.1))), (a0 13, .inl (cy 1, 5, .inl (gvn.2.2.2.1))), (a0 14, .inl (cy 1, 5, .inl (gvn.2.2.2.2.1))), (a0 15, .inl (cy 1, 5, .inl (gvn.2.2.2.2.2.1))), (a0 16, .inl (cy 1, 5, .inl (gvn.2.2.2.2.2.2))), (a0 50, .inr (4, [.ref (a0 51), .ref (a0 62)])), (a0 51, .inl (cy 3, 10, .inr (.inr (.inr (.inr (fun i => some (a0 (52 + i)))))))), (a0 52, .inl (cy 1, 41, .inl (gne.1 0))), (a0 53, .inl (cy 1, 41, .inl (gne.1 1))), (a0 54, .inl (cy 1, 41, .inl (gne.1 2))), (a0 55, .inl (cy 1, 41, .inl (gne.1 3))), (a0 56, .inl (cy 1, 41, .inl (gne.1 4))), (a0 57, .inl (cy 1, 41, .inl (gne.1 5))), (a0 58, .inl (cy 1, 41, .inl (gne.1 6))), (a0 59, .inl (cy 1, 41, .inl (gne.1 7))), (a0 60, .inl (cy 1, 41, .inl (gne.1 8))), (a0 61, .inl (cy 1, 41, .inl (gne.1 9))), (a0 62, .inl (cy 4, 5, .inr (.inr (.inr (.inr (fun i => some (a0 (63 + i)))))))), (a0 63, .inl (cy 2, 41, .inr (.inl (gne.2 0)))), (a0 64, .inl (cy 2, 41, .inr (.inl (gne.2 1)))), (a0 65, .inl (cy 2, 41, .inr (.inl (gne.2 2)))), (a0 66, .inl (cy 2, 41, .inr (.inl (gne.2 3)))), (a0 67, .inl (cy 2, 41, .inr (.inl (gne.2 4))))]
abbrev rm_X12_safer : Room := { frames := 7, cells := 2, slots := 12, locals := 178 }
def p_X12_safer_57 (gg : Int32 × Int32 × Int32 × Int32 × Int32 × Int32) (gvn : Int32 × Int32 × (Nat → Int32) × (Nat → Int32) × (Nat → Int32) × (Nat → Int32) × (Nat → Int32)) (gdn : Int32 × Int32 × (Nat → Int32) × (Nat → Int32) × (Nat → Int32) × (Nat → Int32))  (gne : (Nat → Nat → Int32) × (Nat → Nat → Int64)) (t1 : Int32) (t2 : Int32) (t3 : Int32) : Option ((Int32 ⊕ Nat) × (((Nat → Nat → Int32) × (Nat → Nat → Int64)))) := ((p_X12_saferRings gg gvn gdn gne t1 t2 t3).bind fun v1 => some (Sum.inl v1, gne))
def p_X12_safer_38 (gg : Int32 × Int32 × Int32 × Int32 × Int32 × Int32) (gvn : Int32 × Int32 × (Nat → Int32) × (Nat → Int32) × (Nat → Int32) × (Nat → Int32) × (Nat → Int32)) (gdn : Int32 × Int32 × (Nat → Int32) × (Nat → Int32) × (Nat → Int32) × (Nat → Int32))  (gne : (Nat → Nat → Int32) × (Nat → Nat → Int64)) (t1 : Int32) (t2 : Int32) (t3 : Int32) : Option ((Int32 ⊕ Nat) × (((Nat → Nat → Int32) × (Nat → Nat → Int64)))) := ((p_X12_saferCouples gg gvn gdn gne t1 t2 t3).bind fun v1 => some (Sum.inl v1, gne))
def p_X12_safer (gg : Int32 × Int32 × Int32 × Int32 × Int32 × Int32) (gvn : Int32 × Int32 × (Nat → Int32) × (Nat → Int32) × (Nat → Int32) × (Nat → Int32) × (Nat → Int32)) (gdn : Int32 × Int32 × (Nat → Int32) × (Nat → Int32) × (Nat → Int32) × (Nat → Int32)) (gne : (Nat → Nat → Int32) × (Nat → Nat → Int64)) (x1 : Int32) (x2 : Int32) (x3 : Int32) : Option ((Int32 ⊕ Nat) × (((Nat → Nat → Int32) × (Nat → Nat → Int64)))) := ((p_X12_needWhat x3 (3 : Int32)).bind fun v1 => xb v1.1 (fun _r => ((p_X12_needBases x1 x2).bind fun v3 => xb v3.1 (fun _r => ((p_X6_fill gne gvn gdn).bind fun v5 => (if (2 : Int32) ≤ x3 then (if x3 = (2 : Int32) then p_X12_safer_57 gg gvn gdn v5 x1 x2 (1 : Int32) else p_X12_safer_57 gg gvn gdn v5 x1 x2 (0 : Int32)) else (if x3 = (0 : Int32) then p_X12_safer_38 gg gvn gdn v5 x1 x2 (1 : Int32) else p_X12_safer_38 gg gvn gdn v5 x1 x2 (0 : Int32))))) (fun k => some (Sum.inr k, gne)))) (fun k => some (Sum.inr k, gne)))
set_option maxHeartbeats 1000000 in
set_option maxRecDepth 100000 in
theorem c_X12_safer (l : Launch) (dC : Nat → ClassId) (dI : Nat → Nat → Nat) (cy : Nat → ClassId) (z : Nat → Nat) (hl9 : l.stackTraces = false) (a0 : Nat → Nat) (gg : Int32 × Int32 × Int32 × Int32 × Int32 × Int32) (gvn : Int32 × Int32 × (Nat → Int32) × (Nat → Int32) × (Nat → Int32) × (Nat → Int32) × (Nat → Int32)) (gdn : Int32 × Int32 × (Nat → Int32) × (Nat → Int32) × (Nat → Int32) × (Nat → Int32)) (gne : (Nat → Nat → Int32) × (Nat → Nat → Int64)) (x1 : Int32) (x2 : Int32) (x3 : Int32) (sz : Nat) (R0 : (Int32 ⊕ Nat) × (((Nat → Nat → Int32) × (Nat → Nat → Int64)))) (h : p_X12_safer gg gvn gdn gne x1 x2 x3 = some R0) : vx_Met l yX12_safer wsX12_safer rm_X12_safer (va_Pc [.ref (a0 0), .int x1, .int x2, .int x3] (prS dC dI cy z (w_X12_safer cy a0 gg gvn gdn gne) sz)) (va_Qi (fun (r : Int32) (u : ((Nat → Nat → Int32) × (Nat → Nat → Int64))) => Sum.inl r = R0.1 ∧ u = R0.2) (fun (u : ((Nat → Nat → Int32) × (Nat → Nat → Int64))) t => poC dC dI cy (w_X12_safer cy a0 gg gvn gdn u) t) (va_A (w_X12_safer cy a0 gg gvn gdn gne) sz)) (vx_X (fun (u : ((Nat → Nat → Int32) × (Nat → Nat → Int64))) => u = R0.2) (fun E (u : ((Nat → Nat → Int32) × (Nat → Nat → Int64))) t => exE E R0.1 ∧ poC dC dI cy (w_X12_safer cy a0 gg gvn gdn u) t) (va_A (w_X12_safer cy a0 gg gvn gdn gne) sz)) 2 12 (va_A (w_X12_safer cy a0 gg gvn gdn gne) sz) := by
  refine vx_ofW (cc := cX12_safer) (maxL := 4) (ret := (some .int)) (by decide) rfl ?_
  intro p e s m aa below meth c s₁ B hml htab hv
  obtain ⟨haa, ⟨hsz, hP, hK, hD0⟩, hX⟩ := hv
  have hx := B.exec
  have hb := B.bytes
  have hr := B.returns
  have hts := atoms_spec (ws := wsX12_safer) B.pre
  have hown : s.vm.findClass RX12 = some m.cls := findClass_of_methodNamed B.named
  have hlocks := B.notSynchronized
  subst hsz
  have hD := hD0.self (sz := s.heap.size)
  obtain ⟨qq, hqq⟩ : ∃ qq, qq = (va_Qi (fun (r : Int32) (u : ((Nat → Nat → Int32) × (Nat → Nat → Int64))) => Sum.inl r = R0.1 ∧ u = R0.2) (fun (u : ((Nat → Nat → Int32) × (Nat → Nat → Int64))) t => poC dC dI cy (w_X12_safer cy a0 gg gvn gdn u) t) (va_A (w_X12_safer cy a0 gg gvn gdn gne) s.heap.size)) := ⟨_, rfl⟩
  obtain ⟨xx, hxx⟩ : ∃ xx, xx = (vx_X (fun (u : ((Nat → Nat → Int32) × (Nat → Nat → Int64))) => u = R0.2) (fun E (u : ((Nat → Nat → Int32) × (Nat → Nat → Int64))) t => exE E R0.1 ∧ poC dC dI cy (w_X12_safer cy a0 gg gvn gdn u) t) (va_A (w_X12_safer cy a0 gg gvn gdn gne) s.heap.size)) := ⟨_, rfl⟩
  rw [← hqq, ← hxx]
  generalize hAe : va_A (w_X12_safer cy a0 gg gvn gdn gne) s.heap.size = A at hD hqq hxx hX ⊢
  have hA : ∀ q : Nat, s.heap.size ≤ q → A q := fun q h => by rw [← hAe]; exact Or.inr h
  have hS : va_S A s.heap s.heap [] := va_S.rf
  have hl := lv_entry ([.ref (a0 0), .int x1, .int x2, .int x3]) (n := 4) (Nat.le_of_ble_eq_true rfl)
  have hE : entryFrame m aa 4 = F0 m 0 ((lg_sl ([.ref (a0 0), .int x1, .int x2, .int x3]) ++ List.replicate (4 - (lg_sl ([.ref (a0 0), .int x1, .int x2, .int x3])).length) Slot.unset).toArray) [] := by rw [haa]; exact lg_entry_eq m _ 4
  refine W.eq hE ?_
  generalize (lg_sl ([.ref (a0 0), .int x1, .int x2, .int x3]) ++ List.replicate (4 - (lg_sl ([.ref (a0 0), .int x1, .int x2, .int x3])).length) Slot.unset).toArray = ls at hl ⊢
  have hl : lv_has ls 4 [(0, .ref (a0 0)), (1, .int x1), (2, .int x2), (3, .int x3)] := hl
  change W p l e rm_X12_safer s m aa below meth c s.heap [] 0 0 (vx_MQ below qq xx aa s 2 12 A) (F0 m 0 ls [])
  have hS0 := hS
  have lk0 := hts (.fieldLink RX12 58 "GoatDoors" "nets" "LGoatDoors$Nets;") (by decide +kernel)
  have lk1 := hts (.fieldLink RX12 20 "GoatDoors" "now" "LGoatDoors$Village;") (by decide +kernel)
  have in_X12 : ∀ w ∈ wsX120, w ∈ wsX12_safer := by decide +kernel
  have c57 : ∀ (_u : Unit), ∀ (gne : (Nat → Nat → Int32) × (Nat → Nat → Int64)) (t1 : Int32) (t2 : Int32) (t3 : Int32) (H : Heap) (locs : List Loc) (ls : Array Slot), p_X12_safer_57 gg gvn gdn gne t1 t2 t3 = some R0 → va_P (dC, dI) vwCl (w_X12_safer cy a0 gg gvn gdn gne) H → va_D A (w_X12_safer cy a0 gg gvn gdn gne) → va_S A s.heap H locs → lv_has ls 4 [] → W p l e rm_X12_safer s m aa below meth c H locs 2 12 (vx_MQ below qq xx aa s 2 12 A) (F0 m 57 ls [.int t3, .int t2, .int t1, .ref (a0 0)]) := by
    intro _ gne t1 t2 t3 H locs ls h hP hD hS hl
    unfold p_X12_safer_57 at h
    obtain ⟨v1, hv2, h⟩ := ok_bind h
    refine cl_vi (w2 := fun (_ : Unit) => w_X12_safer cy a0 gg gvn gdn gne) (As := [.int t1, .int t2, .int t3]) (rest := []) ⟨hx, hb, hml, hown, hts⟩ (c_X12_saferRings l dC dI cy a0 gg gvn gdn gne t1 t2 t3 H.size v1 hv2) (cwV 3 hts gX12_safer_X12_saferRings rfl rfl rfl (by decide +kernel) ⟨Nat.le_of_ble_eq_true rfl, Nat.le_of_ble_eq_true rfl⟩) (va_recv hK hP (ci := 10) (q0 := 0) rfl rfl) cl_blind (cl_pre hK hP hD [0, 1, 2, 3, 4, 5, 6, 7, 8, 9, 10, 11, 12, 13, 14, 15, 16, 17, 18, 19, 20, 21, 22, 23, 24, 25, 26, 27, 28, 29] (by decide) rfl) hP hD hS hA [0, 1, 2, 3, 4, 5, 6, 7, 8, 9, 10, 11, 12, 13, 14, 15, 16, 17, 18, 19, 20, 21, 22, 23, 24, 25, 26, 27, 28, 29] rfl rfl hl.1 rfl (lv_room (Nat.le_of_ble_eq_true rfl)) dX12_safer_57 ⟨Nat.le_of_ble_eq_true rfl, Nat.le_of_ble_eq_true rfl⟩ ⟨rfl, rfl⟩ (fun _ => updR [0, 1, 2, 3, 4, 5, 6, 7, 8, 9, 10, 11, 12, 13, 14, 15, 16, 17, 18, 19, 20, 21, 22, 23, 24, 25, 26, 27, 28, 29] rfl) (fun r u H locs hw hP hD hS => ?_)
    have hw := hw.symm
    subst hw
    have hP : va_P (dC, dI) vwCl (w_X12_safer cy a0 gg gvn gdn gne) H := hP
    have hD : va_D A (w_X12_safer cy a0 gg gvn gdn gne) := hD
    refine vx_ret ?_
    exact W.iret (v := v1) hx hb hr (fun t ht hW => by rw [hqq]; have hh := Option.some.inj h; exact ⟨⟨v1, (gne), rfl, ⟨fst_of hh, snd_of hh⟩, by rw [ht]; exact hP, va_K.moved hW.alike hK⟩, hS.F ht⟩) hS.2.2 dX12_safer_60
  have c38 : ∀ (_u : Unit), ∀ (gne : (Nat → Nat → Int32) × (Nat → Nat → Int64)) (t1 : Int32) (t2 : Int32) (t3 : Int32) (H : Heap) (locs : List Loc) (ls : Array Slot), p_X12_safer_38 gg gvn gdn gne t1 t2 t3 = some R0 → va_P (dC, dI) vwCl (w_X12_safer cy a0 gg gvn gdn gne) H → va_D A (w_X12_safer cy a0 gg gvn gdn gne) → va_S A s.heap H locs → lv_has ls 4 [] → W p l e rm_X12_safer s m aa below meth c H locs 2 12 (vx_MQ below qq xx aa s 2 12 A) (F0 m 38 ls [.int t3, .int t2, .int t1, .ref (a0 0)]) := by
    intro _ gne t1 t2 t3 H locs ls h hP hD hS hl
    unfold p_X12_safer_38 at h
    obtain ⟨v1, hv2, h⟩ := ok_bind h
    refine cl_vi (w2 := fun (_ : Unit) => w_X12_safer cy a0 gg gvn gdn gne) (As := [.int t1, .int t2, .int t3]) (rest := []) ⟨hx, hb, hml, hown, hts⟩ (c_X12_saferCouples l dC dI cy a0 gg gvn gdn gne t1 t2 t3 H.size v1 hv2) (cwV 3 hts gX12_safer_X12_saferCouples rfl rfl rfl (by decide +kernel) ⟨Nat.le_of_ble_eq_true rfl, Nat.le_of_ble_eq_true rfl⟩) (va_recv hK hP (ci := 10) (q0 := 0) rfl rfl) cl_blind (cl_pre hK hP hD [0, 1, 2, 3, 4, 5, 6, 7, 8, 9, 10, 11, 12, 13, 14, 15, 16, 17, 18, 19, 20, 21, 22, 23, 24, 25, 26, 27, 28, 29] (by decide) rfl) hP hD hS hA [0, 1, 2, 3, 4, 5, 6, 7, 8, 9, 10, 11, 12, 13, 14, 15, 16, 17, 18, 19, 20, 21, 22, 23, 24, 25, 26, 27, 28, 29] rfl rfl hl.1 rfl (lv_room (Nat.le_of_ble_eq_true rfl)) dX12_safer_38 ⟨Nat.le_of_ble_eq_true rfl, Nat.le_of_ble_eq_true rfl⟩ ⟨rfl, rfl⟩ (fun _ => updR [0, 1, 2, 3, 4, 5, 6, 7, 8, 9, 10, 11, 12, 13, 14, 15, 16, 17, 18, 19, 20, 21, 22, 23, 24, 25, 26, 27, 28, 29] rfl) (fun r u H locs hw hP hD hS => ?_)
    have hw := hw.symm
    subst hw
    have hP : va_P (dC, dI) vwCl (w_X12_safer cy a0 gg gvn gdn gne) H := hP
    have hD : va_D A (w_X12_safer cy a0 gg gvn gdn gne) := hD
    refine lv_goto (tgt := 60) hx hb dX12_safer_41 (by decide) ?_
    refine vx_ret ?_
    exact W.iret (v := v1) hx hb hr (fun t ht hW => by rw [hqq]; have hh := Option.some.inj h; exact ⟨⟨v1, (gne), rfl, ⟨fst_of hh, snd_of hh⟩, by rw [ht]; exact hP, va_K.moved hW.alike hK⟩, hS.F ht⟩) hS.2.2 dX12_safer_60
  obtain ⟨H, hH⟩ : ∃ H : Heap, H = s.heap := ⟨_, rfl⟩
  obtain ⟨locs, hlocs⟩ : ∃ locs : List Loc, locs = [] := ⟨_, rfl⟩
  have hS : va_S A s.heap H locs := by rw [hH, hlocs]; exact hS
  rw [← hH] at hP
  suffices hg : W p l e rm_X12_safer s m aa below meth c H locs 0 0 (vx_MQ below qq xx aa s 2 12 A) (F0 m 0 ls []) by subst hH; subst hlocs; exact hg
  unfold p_X12_safer at h
  refine lv_iload_n hx hb dX12_safer_0 rfl (lv_at hl 3 rfl) ?_
  refine lv_iconst (v := (3 : Int32)) hx hb dX12_safer_1 (by decide) ?_
  obtain ⟨v1, hv2, h⟩ := ok_bind h
  refine cx_sv (w2 := fun (_ : Unit) => w_X12_safer cy a0 gg gvn gdn gne) (w2x := fun (_ : Unit) => w_X12_safer cy a0 gg gvn gdn gne) (As := [.int x3, .int (3 : Int32)]) (rest := []) ⟨hx, hb, hml, hown, hts⟩ (c_X12_needWhat l dC dI cy z hl9  x3 (3 : Int32) H.size v1 hv2) (va_cwS 2 hts gX12_safer_X12_needWhat rfl rfl rfl (by decide +kernel) ⟨Nat.le_of_ble_eq_true rfl, Nat.le_of_ble_eq_true rfl⟩) cl_blindS (cl_preS hK hP hD hS hA hX [] (by decide) rfl) hP hD hS hA [] rfl rfl hl.1 rfl (lv_room (Nat.le_of_ble_eq_true rfl)) dX12_safer_2 ⟨Nat.le_of_ble_eq_true rfl, Nat.le_of_ble_eq_true rfl⟩ (cells' := 1) (slots' := 6) ⟨rfl, rfl⟩ (fun _ => updR [] rfl) (fun _ => updR [] rfl) (fun E ce q9 u H locs hw hE hP hD hS hc1 hc2 hc3 => ?_) (fun u H locs hw hP hD hS => ?_)
  · subst hw
    have hP : va_P (dC, dI) vwCl (w_X12_safer cy a0 gg gvn gdn gne) H := hP
    obtain ⟨hE1, hE2⟩ := exE_pass hE h
    exact vx_out (fun x9 hx9 => (htab x9 hx9).elim) hlocks hc1 hc2 hc3 (fun t h1 h2 => by rw [hxx]; exact ⟨_, hE2.symm, ⟨hE1, by rw [h1]; exact hP, va_K.moved h2 hK⟩, hS.F h1⟩) hS.2.2 (by decide) (by decide)
  obtain ⟨hw1, hw2⟩ := hw
  subst hw2
  rw [← hw1] at h
  dsimp only [xb] at h
  have hP : va_P (dC, dI) vwCl (w_X12_safer cy a0 gg gvn gdn gne) H := hP
  have hD : va_D A (w_X12_safer cy a0 gg gvn gdn gne) := hD
  refine lv_iload_n hx hb dX12_safer_5 rfl (lv_at hl 1 rfl) ?_
  refine lv_iload_n hx hb dX12_safer_6 rfl (lv_at hl 2 rfl) ?_
  obtain ⟨v3, hv4, h⟩ := ok_bind h
  refine cx_sv (w2 := fun (_ : Unit) => w_X12_safer cy a0 gg gvn gdn gne) (w2x := fun (_ : Unit) => w_X12_safer cy a0 gg gvn gdn gne) (As := [.int x1, .int x2]) (rest := []) ⟨hx, hb, hml, hown, hts⟩ (c_X12_needBases l dC dI cy z hl9  x1 x2 H.size v3 hv4) (va_cwS 2 hts gX12_safer_X12_needBases rfl rfl rfl (by decide +kernel) ⟨Nat.le_of_ble_eq_true rfl, Nat.le_of_ble_eq_true rfl⟩) cl_blindS (cl_preS hK hP hD hS hA hX [] (by decide) rfl) hP hD hS hA [] rfl rfl hl.1 rfl (lv_room (Nat.le_of_ble_eq_true rfl)) dX12_safer_7 ⟨Nat.le_of_ble_eq_true rfl, Nat.le_of_ble_eq_true rfl⟩ (cells' := 2) (slots' := 12) ⟨rfl, rfl⟩ (fun _ => updR [] rfl) (fun _ => updR [] rfl) (fun E ce q9 u H locs hw hE hP hD hS hc1 hc2 hc3 => ?_) (fun u H locs hw hP hD hS => ?_)
  · subst hw
    have hP : va_P (dC, dI) vwCl (w_X12_safer cy a0 gg gvn gdn gne) H := hP
    obtain ⟨hE1, hE2⟩ := exE_pass hE h
    exact vx_out (fun x9 hx9 => (htab x9 hx9).elim) hlocks hc1 hc2 hc3 (fun t h1 h2 => by rw [hxx]; exact ⟨_, hE2.symm, ⟨hE1, by rw [h1]; exact hP, va_K.moved h2 hK⟩, hS.F h1⟩) hS.2.2 (by decide) (by decide)
  obtain ⟨hw1, hw2⟩ := hw
  subst hw2
  rw [← hw1] at h
  dsimp only [xb] at h
  have hP : va_P (dC, dI) vwCl (w_X12_safer cy a0 gg gvn gdn gne) H := hP
  have hD : va_D A (w_X12_safer cy a0 gg gvn gdn gne) := hD
  refine lv_aload_n hx hb dX12_safer_10 rfl (lv_at hl 0 rfl) ?_
  refine va_get (D := (dC, dI)) (ci := 10) (v := .ref (a0 50)) (C := RX12) (T := TX12) (N := 17) hx hb hts in_X12 hown hK hP 0 rfl rfl 13 (by decide) lk0 (fun _ h9 => h9) rfl dX12_safer_11 ?_
  refine lv_aload_n hx hb dX12_safer_14 rfl (lv_at hl 0 rfl) ?_
  refine va_get (D := (dC, dI)) (ci := 10) (v := .ref (a0 2)) (C := RX12) (T := TX12) (N := 17) hx hb hts in_X12 hown hK hP 0 rfl rfl 6 (by decide) lk1 (fun _ h9 => h9) rfl dX12_safer_15 ?_
  obtain ⟨v5, hv6, h⟩ := ok_bind h
  refine cl_vv (w2 := fun (u : ((Nat → Nat → Int32) × (Nat → Nat → Int64))) => w_X12_safer cy a0 gg gvn gdn u) (As := [.ref (a0 2)]) (rest := []) ⟨hx, hb, hml, hown, hts⟩ (c_X6_fill l dC dI cy (fun k => a0 (k + 50)) (fun k => a0 (k + 2)) gne gvn gdn H.size v5 hv6) (cwV 1 hts gX12_safer_X6_fill rfl rfl rfl (by decide +kernel) ⟨Nat.le_of_ble_eq_true rfl, Nat.le_of_ble_eq_true rfl⟩) (va_recv hK hP (ci := 4) (q0 := 12) rfl rfl) cl_blind (cl_pre hK hP hD [12, 13, 14, 15, 16, 17, 18, 19, 20, 21, 22, 23, 24, 25, 26, 27, 28, 29, 1, 2, 3, 4, 5, 6, 7, 8, 9, 10, 11] (by decide) rfl) hP hD hS hA [12, 13, 14, 15, 16, 17, 18, 19, 20, 21, 22, 23, 24, 25, 26, 27, 28, 29, 1, 2, 3, 4, 5, 6, 7, 8, 9, 10, 11] rfl rfl hl.1 rfl (lv_room (Nat.le_of_ble_eq_true rfl)) dX12_safer_18 ⟨Nat.le_of_ble_eq_true rfl, Nat.le_of_ble_eq_true rfl⟩ ⟨rfl, rfl⟩ (fun _ => updM [12, 13, 14, 15, 16, 17, 18, 19, 20, 21, 22, 23, 24, 25, 26, 27, 28, 29, 1, 2, 3, 4, 5, 6, 7, 8, 9, 10, 11] [0] 30 rfl rfl rfl rfl (by decide +kernel) (by decide +kernel) rfl) (fun u H locs hw hP hD hS => ?_)
  have hw := hw.symm
  subst hw
  have hP : va_P (dC, dI) vwCl (w_X12_safer cy a0 gg gvn gdn v5) H := hP
  have hD : va_D A (w_X12_safer cy a0 gg gvn gdn v5) := hD
  refine lv_iload_n hx hb dX12_safer_21 rfl (lv_at hl 3 rfl) ?_
  refine lv_iconst (v := (2 : Int32)) hx hb dX12_safer_22 (by decide) ?_
  refine lv_icmp_ge (tgt := 44) hx hb dX12_safer_23 (by decide) (fun c7 => ?_) (fun c7 => ?_)
  · rw [if_pos c7] at h
    refine lv_aload_n hx hb dX12_safer_44 rfl (lv_at hl 0 rfl) ?_
    refine lv_iload_n hx hb dX12_safer_45 rfl (lv_at hl 1 rfl) ?_
    refine lv_iload_n hx hb dX12_safer_46 rfl (lv_at hl 2 rfl) ?_
    refine lv_iload_n hx hb dX12_safer_47 rfl (lv_at hl 3 rfl) ?_
    refine lv_iconst (v := (2 : Int32)) hx hb dX12_safer_48 (by decide) ?_
    refine lv_icmp_ne (tgt := 56) hx hb dX12_safer_49 (by decide) (fun c8 => ?_) (fun c8 => ?_)
    · rw [if_neg c8] at h
      refine lv_iconst (v := (0 : Int32)) hx hb dX12_safer_56 (by decide) ?_
      exact c57 () v5 x1 x2 (0 : Int32) H locs ls h hP hD hS (lv_sub hl [] rfl)
    · rw [if_pos c8] at h
      refine lv_iconst (v := (1 : Int32)) hx hb dX12_safer_52 (by decide) ?_
      refine lv_goto (tgt := 57) hx hb dX12_safer_53 (by decide) ?_
      exact c57 () v5 x1 x2 (1 : Int32) H locs ls h hP hD hS (lv_sub hl [] rfl)
  · rw [if_neg c7] at h
    refine lv_aload_n hx hb dX12_safer_26 rfl (lv_at hl 0 rfl) ?_
    refine lv_iload_n hx hb dX12_safer_27 rfl (lv_at hl 1 rfl) ?_
    refine lv_iload_n hx hb dX12_safer_28 rfl (lv_at hl 2 rfl) ?_
    refine lv_iload_n hx hb dX12_safer_29 rfl (lv_at hl 3 rfl) ?_
    refine lv_if_ne (tgt := 37) hx hb dX12_safer_30 (by decide) (fun c9 => ?_) (fun c9 => ?_)
    · rw [if_neg c9] at h
      refine lv_iconst (v := (0 : Int32)) hx hb dX12_safer_37 (by decide) ?_
      exact c38 () v5 x1 x2 (0 : Int32) H locs ls h hP hD hS (lv_sub hl [] rfl)
    · rw [if_pos c9] at h
      refine lv_iconst (v := (1 : Int32)) hx hb dX12_safer_33 (by decide) ?_
      refine lv_goto (tgt := 38) hx hb dX12_safer_34 (by decide) ?_
      exact c38 () v5 x1 x2 (1 : Int32) H locs ls h hP hD hS (lv_sub hl [] rfl)

abbrev w_X12_receipt (cy : Nat → ClassId) (a0 : Nat → Nat) (gg : Int32 × Int32 × Int32 × Int32 × Int32 × Int32) (gvn : Int32 × Int32 × (Nat → Int32) × (Nat → Int32) × (Nat → Int32) × (Nat → Int32) × (Nat → Int32)) (gcn : Int32 × (Nat → Int32) × (Nat → Int32) × (Nat → Int32)) : va_W := [(a0 0, .inr (10, [.ref (a0 1), .int (gg.1), .int (gg.2.1), .int (gg.2.2.1), .int (gg.2.2.2.1), .int (gg.2.2.2.2.1), .ref (a0 2), .ref (a0 17), .ref (a0 32), .int (gg.2.2.2.2.2), .ref (a0 47), .ref (a0 48), .ref (a0 49), .ref (a0 50), .ref (a0 68), .ref (a0 78), .ref (a0 80)])), (a0 2, .inr (7, [.int (gvn.1), .int (gvn.2.1), .ref (a0 3), .ref (a0 8), .ref (a0 12), .ref (a0 13), .ref (a0 14), .ref (a0 15), .ref (a0 16)])), (a0 8, .inr (6, [.int (gcn.1), .ref (a0 9), .ref (a0 10), .ref (a0 11)])), (a0 9, .inl (cy 1, 12, .inl (gcn.2.1))), (a0 10, .inl (cy 1, 12, .inl (gcn.2.2.1))), (a0 11, .inl (cy 1, 12, .inl (gcn.2.2.2))), (a0 12, .inl (cy 1, 5, .inl (gvn.2.2.1))), (a0 13, .inl (cy 1, 5, .inl (gvn.2.2.2.1))), (a0 14, .inl (cy 1, 5, .inl (gvn.2.2.2.2.1))), (a0 15, .inl (cy 1, 5, .inl (gvn.2.2.2.2.2.1))), (a0 16, .inl (cy 1, 5, .inl (gvn.2.2.2.2.2.2)))]
abbrev rm_X12_receipt : Room := { frames := 1, cells := 0, slots := 0, locals := 23 }
def p_X12_receipt_62 (gvn : Int32 × Int32 × (Nat → Int32) × (Nat → Int32) × (Nat → Int32) × (Nat → Int32) × (Nat → Int32))  (gg : Int32 × Int32 × Int32 × Int32 × Int32 × Int32) (gcn : Int32 × (Nat → Int32) × (Nat → Int32) × (Nat → Int32)) : Option (Int32 × (Int32 × Int32 × Int32 × Int32 × Int32 × Int32) × (Int32 × (Nat → Int32) × (Nat → Int32) × (Nat → Int32))) := some ((-1 : Int32), ((gg.1, gg.2.1, gg.2.2.1, gg.2.2.2.1, (gg.2.2.2.2.1 + (1 : Int32)), gg.2.2.2.2.2), gcn))
def p_X12_receipt_39 (gvn : Int32 × Int32 × (Nat → Int32) × (Nat → Int32) × (Nat → Int32) × (Nat → Int32) × (Nat → Int32))  (gg : Int32 × Int32 × Int32 × Int32 × Int32 × Int32) (gcn : Int32 × (Nat → Int32) × (Nat → Int32) × (Nat → Int32)) (x1 : Int32) (x2 : Int32) (x3 : Int32) (t0 : Int32) : Option (Int32 × (Int32 × Int32 × Int32 × Int32 × Int32 × Int32) × (Int32 × (Nat → Int32) × (Nat → Int32) × (Nat → Int32))) := (if t0 = (0 : Int32) then p_X12_receipt_62 gvn gg gcn else ((p_X8_add gcn x1 x2 x3).bind fun v2 => (if v2.1 = (0 : Int32) then p_X12_receipt_62 gvn gg v2.2 else some (v2.2.1, (gg, v2.2)))))
def p_X12_receipt_38 (gvn : Int32 × Int32 × (Nat → Int32) × (Nat → Int32) × (Nat → Int32) × (Nat → Int32) × (Nat → Int32))  (gg : Int32 × Int32 × Int32 × Int32 × Int32 × Int32) (gcn : Int32 × (Nat → Int32) × (Nat → Int32) × (Nat → Int32)) (x1 : Int32) (x2 : Int32) (x3 : Int32) : Option (Int32 × (Int32 × Int32 × Int32 × Int32 × Int32 × Int32) × (Int32 × (Nat → Int32) × (Nat → Int32) × (Nat → Int32))) := p_X12_receipt_39 gvn gg gcn x1 x2 x3 (0 : Int32)
def p_X12_receipt (gg : Int32 × Int32 × Int32 × Int32 × Int32 × Int32) (gvn : Int32 × Int32 × (Nat → Int32) × (Nat → Int32) × (Nat → Int32) × (Nat → Int32) × (Nat → Int32)) (gcn : Int32 × (Nat → Int32) × (Nat → Int32) × (Nat → Int32)) (x1 : Int32) (x2 : Int32) (x3 : Int32) : Option (Int32 × (Int32 × Int32 × Int32 × Int32 × Int32 × Int32) × (Int32 × (Nat → Int32) × (Nat → Int32) × (Nat → Int32))) := (if x1 < (0 : Int32) then p_X12_receipt_38 gvn gg gcn x1 x2 x3 else (if (1024 : Int32) ≤ x1 then p_X12_receipt_38 gvn gg gcn x1 x2 x3 else (if x2 < (0 : Int32) then p_X12_receipt_38 gvn gg gcn x1 x2 x3 else (if (99999999 : Int32) < x2 then p_X12_receipt_38 gvn gg gcn x1 x2 x3 else (if x3 < (-20 : Int32) then p_X12_receipt_38 gvn gg gcn x1 x2 x3 else (if (20 : Int32) < x3 then p_X12_receipt_38 gvn gg gcn x1 x2 x3 else p_X12_receipt_39 gvn gg gcn x1 x2 x3 (1 : Int32)))))))
set_option maxHeartbeats 1000000 in
set_option maxRecDepth 100000 in
theorem c_X12_receipt (l : Launch) (dC : Nat → ClassId) (dI : Nat → Nat → Nat) (cy : Nat → ClassId) (a0 : Nat → Nat) (gg : Int32 × Int32 × Int32 × Int32 × Int32 × Int32) (gvn : Int32 × Int32 × (Nat → Int32) × (Nat → Int32) × (Nat → Int32) × (Nat → Int32) × (Nat → Int32)) (gcn : Int32 × (Nat → Int32) × (Nat → Int32) × (Nat → Int32)) (x1 : Int32) (x2 : Int32) (x3 : Int32) (sz : Nat) (R0 : Int32 × (Int32 × Int32 × Int32 × Int32 × Int32 × Int32) × (Int32 × (Nat → Int32) × (Nat → Int32) × (Nat → Int32))) (h : p_X12_receipt gg gvn gcn x1 x2 x3 = some R0) : Met l yX12_receipt wsX12_receipt rm_X12_receipt (va_Pc [.ref (a0 0), .int x1, .int x2, .int x3] (prC dC dI cy (w_X12_receipt cy a0 gg gvn gcn) sz)) (va_Qi (fun (r : Int32) (u : (Int32 × Int32 × Int32 × Int32 × Int32 × Int32) × (Int32 × (Nat → Int32) × (Nat → Int32) × (Nat → Int32))) => r = R0.1 ∧ u = R0.2) (fun (u : (Int32 × Int32 × Int32 × Int32 × Int32 × Int32) × (Int32 × (Nat → Int32) × (Nat → Int32) × (Nat → Int32))) t => poC dC dI cy (w_X12_receipt cy a0 u.1 gvn u.2) t) (va_A (w_X12_receipt cy a0 gg gvn gcn) sz)) 0 0 (va_A (w_X12_receipt cy a0 gg gvn gcn) sz) := by
  refine Met.ofW (cc := cX12_receipt) (maxL := 5) (ret := (some .int)) (by decide) rfl ?_
  intro p e s m aa below meth c s₁ B hml hv
  obtain ⟨haa, hsz, hP, hK, hD0⟩ := hv
  have hx := B.exec
  have hb := B.bytes
  have hr := B.returns
  have hts := atoms_spec (ws := wsX12_receipt) B.pre
  have hown : s.vm.findClass RX12 = some m.cls := findClass_of_methodNamed B.named
  have hlocks := B.notSynchronized
  subst hsz
  have hD := hD0.self (sz := s.heap.size)
  obtain ⟨qq, hqq⟩ : ∃ qq, qq = (va_Qi (fun (r : Int32) (u : (Int32 × Int32 × Int32 × Int32 × Int32 × Int32) × (Int32 × (Nat → Int32) × (Nat → Int32) × (Nat → Int32))) => r = R0.1 ∧ u = R0.2) (fun (u : (Int32 × Int32 × Int32 × Int32 × Int32 × Int32) × (Int32 × (Nat → Int32) × (Nat → Int32) × (Nat → Int32))) t => poC dC dI cy (w_X12_receipt cy a0 u.1 gvn u.2) t) (va_A (w_X12_receipt cy a0 gg gvn gcn) s.heap.size)) := ⟨_, rfl⟩
  rw [← hqq]
  generalize hAe : va_A (w_X12_receipt cy a0 gg gvn gcn) s.heap.size = A at hD hqq ⊢
  have hA : ∀ q : Nat, s.heap.size ≤ q → A q := fun q h => by rw [← hAe]; exact Or.inr h
  have hS : va_S A s.heap s.heap [] := va_S.rf
  have hl := lv_entry ([.ref (a0 0), .int x1, .int x2, .int x3]) (n := 5) (Nat.le_of_ble_eq_true rfl)
  have hE : entryFrame m aa 5 = F0 m 0 ((lg_sl ([.ref (a0 0), .int x1, .int x2, .int x3]) ++ List.replicate (5 - (lg_sl ([.ref (a0 0), .int x1, .int x2, .int x3])).length) Slot.unset).toArray) [] := by rw [haa]; exact lg_entry_eq m _ 5
  refine W.eq hE ?_
  generalize (lg_sl ([.ref (a0 0), .int x1, .int x2, .int x3]) ++ List.replicate (5 - (lg_sl ([.ref (a0 0), .int x1, .int x2, .int x3])).length) Slot.unset).toArray = ls at hl ⊢
  have hl : lv_has ls 5 [(0, .ref (a0 0)), (1, .int x1), (2, .int x2), (3, .int x3)] := hl
  change W p l e rm_X12_receipt s m aa below meth c s.heap [] 0 0 (MQ below qq aa s 0 0 A) (F0 m 0 ls [])
  have hS0 := hS
  have lk0 := hts (.fieldLink RX12 158 "GoatDoors" "refusedReceipts" "I") (by decide +kernel)
  have lk1 := hts (.fieldLink RX12 20 "GoatDoors" "now" "LGoatDoors$Village;") (by decide +kernel)
  have lk2 := hts (.fieldLink RX12 149 "GoatDoors$Village" "receipts" "LGoatDoors$Receipts;") (by decide +kernel)
  have lk3 := hts (.fieldLink RX12 153 "GoatDoors$Receipts" "size" "I") (by decide +kernel)
  have lk4 := hts (.constant RX12 309 (99999999 : Int32)) (by decide +kernel)
  have in_X12 : ∀ w ∈ wsX120, w ∈ wsX12_receipt := by decide +kernel
  have in_X9 : ∀ w ∈ wsX90, w ∈ wsX12_receipt := by decide +kernel
  have in_X8 : ∀ w ∈ wsX80, w ∈ wsX12_receipt := by decide +kernel
  have c62 : ∀ (_u : Unit), ∀ (gg : Int32 × Int32 × Int32 × Int32 × Int32 × Int32) (gcn : Int32 × (Nat → Int32) × (Nat → Int32) × (Nat → Int32)) (H : Heap) (locs : List Loc) (ls : Array Slot), p_X12_receipt_62 gvn gg gcn = some R0 → va_P (dC, dI) vwCl (w_X12_receipt cy a0 gg gvn gcn) H → va_D A (w_X12_receipt cy a0 gg gvn gcn) → va_S A s.heap H locs → lv_has ls 5 [(0, .ref (a0 0))] → W p l e rm_X12_receipt s m aa below meth c H locs 0 0 (MQ below qq aa s 0 0 A) (F0 m 62 ls []) := by
    intro _ gg gcn H locs ls h hP hD hS hl
    unfold p_X12_receipt_62 at h
    refine lv_aload_n hx hb dX12_receipt_62 rfl (lv_at hl 0 rfl) ?_
    refine lv_dup hx hb dX12_receipt_63 rfl ?_
    refine va_get (D := (dC, dI)) (ci := 10) (v := .int gg.2.2.2.2.1) (C := RX12) (T := TX12) (N := 17) hx hb hts in_X12 hown hK hP 0 rfl rfl 5 (by decide) lk0 (fun _ h9 => h9) rfl dX12_receipt_64 ?_
    refine lv_iconst (v := (1 : Int32)) hx hb dX12_receipt_67 (by decide) ?_
    refine lv_iadd hx hb dX12_receipt_68 ?_
    refine va_put (D := (dC, dI)) (ci := 10) (v := .int (gg.2.2.2.2.1 + (1 : Int32))) (ty := .int) (C := RX12) (T := TX12) (N := 17) hx hb hts in_X12 tyX12 tyX12_ok nmX12 hown hK hP hD hS 0 rfl rfl 5 (by decide) lk0 (fun _ h9 => h9) rfl (by decide +kernel) rfl rfl (Nat.le_of_ble_eq_true rfl) dX12_receipt_69 (fun H locs hP hD hS => ?_)
    have hP : va_P (dC, dI) vwCl (w_X12_receipt cy a0 ((gg.1, gg.2.1, gg.2.2.1, gg.2.2.2.1, (gg.2.2.2.2.1 + (1 : Int32)), gg.2.2.2.2.2)) gvn gcn) H := hP
    have hD : va_D A (w_X12_receipt cy a0 ((gg.1, gg.2.1, gg.2.2.1, gg.2.2.2.1, (gg.2.2.2.2.1 + (1 : Int32)), gg.2.2.2.2.2)) gvn gcn) := hD
    refine lv_iconst (v := (-1 : Int32)) hx hb dX12_receipt_72 (by decide) ?_
    exact W.iret (v := (-1 : Int32)) hx hb hr (fun t ht hW => by rw [hqq]; have hh := Option.some.inj h; exact ⟨⟨(-1 : Int32), (((gg.1, gg.2.1, gg.2.2.1, gg.2.2.2.1, (gg.2.2.2.2.1 + (1 : Int32)), gg.2.2.2.2.2), gcn)), rfl, ⟨fst_of hh, snd_of hh⟩, by rw [ht]; exact hP, va_K.moved hW.alike hK⟩, hS.F ht⟩) hS.2.2 dX12_receipt_73
  have c39 : ∀ (_u : Unit), ∀ (gg : Int32 × Int32 × Int32 × Int32 × Int32 × Int32) (gcn : Int32 × (Nat → Int32) × (Nat → Int32) × (Nat → Int32)) (x1 : Int32) (x2 : Int32) (x3 : Int32) (t0 : Int32) (H : Heap) (locs : List Loc) (ls : Array Slot), p_X12_receipt_39 gvn gg gcn x1 x2 x3 t0 = some R0 → va_P (dC, dI) vwCl (w_X12_receipt cy a0 gg gvn gcn) H → va_D A (w_X12_receipt cy a0 gg gvn gcn) → va_S A s.heap H locs → lv_has ls 5 [(0, .ref (a0 0)), (1, .int x1), (2, .int x2), (3, .int x3)] → W p l e rm_X12_receipt s m aa below meth c H locs 0 0 (MQ below qq aa s 0 0 A) (F0 m 39 ls [.int t0]) := by
    intro _ gg gcn x1 x2 x3 t0 H locs ls h hP hD hS hl
    unfold p_X12_receipt_39 at h
    refine lv_istore (lv' := [(4, .int t0), (0, .ref (a0 0)), (1, .int x1), (2, .int x2), (3, .int x3)]) hx hb dX12_receipt_39 hl (by decide) rfl (fun ls hl => ?_)
    refine lv_iload hx hb dX12_receipt_41 (lv_at hl 0 rfl) ?_
    refine lv_if_eq (tgt := 62) hx hb dX12_receipt_43 (by decide) (fun c1 => ?_) (fun c1 => ?_)
    · rw [if_pos c1] at h
      exact c62 () gg gcn H locs ls h hP hD hS (lv_sub hl [1] rfl)
    · rw [if_neg c1] at h
      refine lv_aload_n hx hb dX12_receipt_46 rfl (lv_at hl 1 rfl) ?_
      refine va_get (D := (dC, dI)) (ci := 10) (v := .ref (a0 2)) (C := RX12) (T := TX12) (N := 17) hx hb hts in_X12 hown hK hP 0 rfl rfl 6 (by decide) lk1 (fun _ h9 => h9) rfl dX12_receipt_47 ?_
      refine va_get (D := (dC, dI)) (ci := 7) (v := .ref (a0 8)) (C := RX9) (T := TX9) (N := 9) hx hb hts in_X9 hown hK hP 1 rfl rfl 3 (by decide) lk2 (fun _ h9 => h9) rfl dX12_receipt_50 ?_
      refine lv_iload_n hx hb dX12_receipt_53 rfl (lv_at hl 2 rfl) ?_
      refine lv_iload_n hx hb dX12_receipt_54 rfl (lv_at hl 3 rfl) ?_
      refine lv_iload_n hx hb dX12_receipt_55 rfl (lv_at hl 4 rfl) ?_
      obtain ⟨v2, hv3, h⟩ := ok_bind h
      refine cl_vi (w2 := fun (u : (Int32 × (Nat → Int32) × (Nat → Int32) × (Nat → Int32))) => w_X12_receipt cy a0 gg gvn u) (As := [.int x1, .int x2, .int x3]) (rest := []) ⟨hx, hb, hml, hown, hts⟩ (c_X8_add l dC dI cy (fun k => a0 (k + 8)) gcn x1 x2 x3 H.size v2 hv3) (cwV 3 hts gX12_receipt_X8_add rfl rfl rfl (by decide +kernel) ⟨Nat.le_of_ble_eq_true rfl, Nat.le_of_ble_eq_true rfl⟩) (va_recv hK hP (ci := 6) (q0 := 2) rfl rfl) cl_blind (cl_pre hK hP hD [2, 3, 4, 5] (by decide) rfl) hP hD hS hA [2, 3, 4, 5] rfl rfl hl.1 rfl (lv_room (Nat.le_of_ble_eq_true rfl)) dX12_receipt_56 ⟨Nat.le_of_ble_eq_true rfl, Nat.le_of_ble_eq_true rfl⟩ ⟨rfl, rfl⟩ (fun _ => updM [2, 3, 4, 5] [0, 1, 6, 7, 8, 9, 10] 11 rfl rfl rfl rfl (by decide +kernel) (by decide +kernel) rfl) (fun r u H locs hw hP hD hS => ?_)
      obtain ⟨rfl, rfl⟩ := hw
      have hP : va_P (dC, dI) vwCl (w_X12_receipt cy a0 gg gvn v2.2) H := hP
      have hD : va_D A (w_X12_receipt cy a0 gg gvn v2.2) := hD
      refine lv_if_ne (tgt := 74) hx hb dX12_receipt_59 (by decide) (fun c4 => ?_) (fun c4 => ?_)
      · rw [if_neg c4] at h
        refine lv_aload_n hx hb dX12_receipt_74 rfl (lv_at hl 1 rfl) ?_
        refine va_get (D := (dC, dI)) (ci := 10) (v := .ref (a0 2)) (C := RX12) (T := TX12) (N := 17) hx hb hts in_X12 hown hK hP 0 rfl rfl 6 (by decide) lk1 (fun _ h9 => h9) rfl dX12_receipt_75 ?_
        refine va_get (D := (dC, dI)) (ci := 7) (v := .ref (a0 8)) (C := RX9) (T := TX9) (N := 9) hx hb hts in_X9 hown hK hP 1 rfl rfl 3 (by decide) lk2 (fun _ h9 => h9) rfl dX12_receipt_78 ?_
        refine va_get (D := (dC, dI)) (ci := 6) (v := .int v2.2.1) (C := RX8) (T := TX8) (N := 4) hx hb hts in_X8 hown hK hP 2 rfl rfl 0 (by decide) lk3 (fun _ h9 => h9) rfl dX12_receipt_81 ?_
        exact W.iret (v := v2.2.1) hx hb hr (fun t ht hW => by rw [hqq]; have hh := Option.some.inj h; exact ⟨⟨v2.2.1, ((gg, v2.2)), rfl, ⟨fst_of hh, snd_of hh⟩, by rw [ht]; exact hP, va_K.moved hW.alike hK⟩, hS.F ht⟩) hS.2.2 dX12_receipt_84
      · rw [if_pos c4] at h
        exact c62 () gg v2.2 H locs ls h hP hD hS (lv_sub hl [1] rfl)
  have c38 : ∀ (_u : Unit), ∀ (gg : Int32 × Int32 × Int32 × Int32 × Int32 × Int32) (gcn : Int32 × (Nat → Int32) × (Nat → Int32) × (Nat → Int32)) (x1 : Int32) (x2 : Int32) (x3 : Int32) (H : Heap) (locs : List Loc) (ls : Array Slot), p_X12_receipt_38 gvn gg gcn x1 x2 x3 = some R0 → va_P (dC, dI) vwCl (w_X12_receipt cy a0 gg gvn gcn) H → va_D A (w_X12_receipt cy a0 gg gvn gcn) → va_S A s.heap H locs → lv_has ls 5 [(0, .ref (a0 0)), (1, .int x1), (2, .int x2), (3, .int x3)] → W p l e rm_X12_receipt s m aa below meth c H locs 0 0 (MQ below qq aa s 0 0 A) (F0 m 38 ls []) := by
    intro _ gg gcn x1 x2 x3 H locs ls h hP hD hS hl
    unfold p_X12_receipt_38 at h
    refine lv_iconst (v := (0 : Int32)) hx hb dX12_receipt_38 (by decide) ?_
    exact c39 () gg gcn x1 x2 x3 (0 : Int32) H locs ls h hP hD hS (lv_sub hl [0, 1, 2, 3] rfl)
  obtain ⟨H, hH⟩ : ∃ H : Heap, H = s.heap := ⟨_, rfl⟩
  obtain ⟨locs, hlocs⟩ : ∃ locs : List Loc, locs = [] := ⟨_, rfl⟩
  have hS : va_S A s.heap H locs := by rw [hH, hlocs]; exact hS
  rw [← hH] at hP
  suffices hg : W p l e rm_X12_receipt s m aa below meth c H locs 0 0 (MQ below qq aa s 0 0 A) (F0 m 0 ls []) by subst hH; subst hlocs; exact hg
  unfold p_X12_receipt at h
  refine lv_iload_n hx hb dX12_receipt_0 rfl (lv_at hl 1 rfl) ?_
  refine lv_if_lt (tgt := 38) hx hb dX12_receipt_1 (by decide) (fun c1 => ?_) (fun c1 => ?_)
  · rw [if_pos c1] at h
    exact c38 () gg gcn x1 x2 x3 H locs ls h hP hD hS (lv_sub hl [0, 1, 2, 3] rfl)
  · rw [if_neg c1] at h
    refine lv_iload_n hx hb dX12_receipt_4 rfl (lv_at hl 1 rfl) ?_
    refine lv_sipush (v := (1024 : Int32)) hx hb dX12_receipt_5 (by decide) ?_
    refine lv_icmp_ge (tgt := 38) hx hb dX12_receipt_8 (by decide) (fun c2 => ?_) (fun c2 => ?_)
    · rw [if_pos c2] at h
      exact c38 () gg gcn x1 x2 x3 H locs ls h hP hD hS (lv_sub hl [0, 1, 2, 3] rfl)
    · rw [if_neg c2] at h
      refine lv_iload_n hx hb dX12_receipt_11 rfl (lv_at hl 2 rfl) ?_
      refine lv_if_lt (tgt := 38) hx hb dX12_receipt_12 (by decide) (fun c3 => ?_) (fun c3 => ?_)
      · rw [if_pos c3] at h
        exact c38 () gg gcn x1 x2 x3 H locs ls h hP hD hS (lv_sub hl [0, 1, 2, 3] rfl)
      · rw [if_neg c3] at h
        refine lv_iload_n hx hb dX12_receipt_15 rfl (lv_at hl 2 rfl) ?_
        refine lv_ldcw hx hb hown lk4 dX12_receipt_16 ?_
        refine lv_icmp_gt (tgt := 38) hx hb dX12_receipt_19 (by decide) (fun c4 => ?_) (fun c4 => ?_)
        · rw [if_pos c4] at h
          exact c38 () gg gcn x1 x2 x3 H locs ls h hP hD hS (lv_sub hl [0, 1, 2, 3] rfl)
        · rw [if_neg c4] at h
          refine lv_iload_n hx hb dX12_receipt_22 rfl (lv_at hl 3 rfl) ?_
          refine lv_bipush (v := (-20 : Int32)) hx hb dX12_receipt_23 (by decide) ?_
          refine lv_icmp_lt (tgt := 38) hx hb dX12_receipt_25 (by decide) (fun c5 => ?_) (fun c5 => ?_)
          · rw [if_pos c5] at h
            exact c38 () gg gcn x1 x2 x3 H locs ls h hP hD hS (lv_sub hl [0, 1, 2, 3] rfl)
          · rw [if_neg c5] at h
            refine lv_iload_n hx hb dX12_receipt_28 rfl (lv_at hl 3 rfl) ?_
            refine lv_bipush (v := (20 : Int32)) hx hb dX12_receipt_29 (by decide) ?_
            refine lv_icmp_gt (tgt := 38) hx hb dX12_receipt_31 (by decide) (fun c6 => ?_) (fun c6 => ?_)
            · rw [if_pos c6] at h
              exact c38 () gg gcn x1 x2 x3 H locs ls h hP hD hS (lv_sub hl [0, 1, 2, 3] rfl)
            · rw [if_neg c6] at h
              refine lv_iconst (v := (1 : Int32)) hx hb dX12_receipt_34 (by decide) ?_
              refine lv_goto (tgt := 39) hx hb dX12_receipt_35 (by decide) ?_
              exact c39 () gg gcn x1 x2 x3 (1 : Int32) H locs ls h hP hD hS (lv_sub hl [0, 1, 2, 3] rfl)

abbrev w_X12_lose (cy : Nat → ClassId) (a0 : Nat → Nat) (gg : Int32 × Int32 × Int32 × Int32 × Int32 × Int32) (gvn : Int32 × Int32 × (Nat → Int32) × (Nat → Int32) × (Nat → Int32) × (Nat → Int32) × (Nat → Int32)) (gcn : Int32 × (Nat → Int32) × (Nat → Int32) × (Nat → Int32)) : va_W := [(a0 0, .inr (10, [.ref (a0 1), .int (gg.1), .int (gg.2.1), .int (gg.2.2.1), .int (gg.2.2.2.1), .int (gg.2.2.2.2.1), .ref (a0 2), .ref (a0 17), .ref (a0 32), .int (gg.2.2.2.2.2), .ref (a0 47), .ref (a0 48), .ref (a0 49), .ref (a0 50), .ref (a0 68), .ref (a0 78), .ref (a0 80)])), (a0 2, .inr (7, [.int (gvn.1), .int (gvn.2.1), .ref (a0 3), .ref (a0 8), .ref (a0 12), .ref (a0 13), .ref (a0 14), .ref (a0 15), .ref (a0 16)])), (a0 8, .inr (6, [.int (gcn.1), .ref (a0 9), .ref (a0 10), .ref (a0 11)])), (a0 9, .inl (cy 1, 12, .inl (gcn.2.1))), (a0 10, .inl (cy 1, 12, .inl (gcn.2.2.1))), (a0 11, .inl (cy 1, 12, .inl (gcn.2.2.2))), (a0 12, .inl (cy 1, 5, .inl (gvn.2.2.1))), (a0 13, .inl (cy 1, 5, .inl (gvn.2.2.2.1))), (a0 14, .inl (cy 1, 5, .inl (gvn.2.2.2.2.1))), (a0 15, .inl (cy 1, 5, .inl (gvn.2.2.2.2.2.1))), (a0 16, .inl (cy 1, 5, .inl (gvn.2.2.2.2.2.2)))]
abbrev rm_X12_lose : Room := { frames := 0, cells := 0, slots := 0, locals := 0 }
def p_X12_lose (gg : Int32 × Int32 × Int32 × Int32 × Int32 × Int32) (gvn : Int32 × Int32 × (Nat → Int32) × (Nat → Int32) × (Nat → Int32) × (Nat → Int32) × (Nat → Int32)) (gcn : Int32 × (Nat → Int32) × (Nat → Int32) × (Nat → Int32)) : Option (Int32 × (Int32 × (Nat → Int32) × (Nat → Int32) × (Nat → Int32))) := (if gcn.1 = (0 : Int32) then some ((-1 : Int32), gcn) else some ((gcn.1 - (1 : Int32)), ((gcn.1 - (1 : Int32)), gcn.2)))
set_option maxHeartbeats 1000000 in
set_option maxRecDepth 100000 in
theorem c_X12_lose (l : Launch) (dC : Nat → ClassId) (dI : Nat → Nat → Nat) (cy : Nat → ClassId) (a0 : Nat → Nat) (gg : Int32 × Int32 × Int32 × Int32 × Int32 × Int32) (gvn : Int32 × Int32 × (Nat → Int32) × (Nat → Int32) × (Nat → Int32) × (Nat → Int32) × (Nat → Int32)) (gcn : Int32 × (Nat → Int32) × (Nat → Int32) × (Nat → Int32)) (sz : Nat) (R0 : Int32 × (Int32 × (Nat → Int32) × (Nat → Int32) × (Nat → Int32))) (h : p_X12_lose gg gvn gcn = some R0) : Met l yX12_lose wsX12_lose rm_X12_lose (va_Pc [.ref (a0 0)] (prC dC dI cy (w_X12_lose cy a0 gg gvn gcn) sz)) (va_Qi (fun (r : Int32) (u : (Int32 × (Nat → Int32) × (Nat → Int32) × (Nat → Int32))) => r = R0.1 ∧ u = R0.2) (fun (u : (Int32 × (Nat → Int32) × (Nat → Int32) × (Nat → Int32))) t => poC dC dI cy (w_X12_lose cy a0 gg gvn u) t) (va_A (w_X12_lose cy a0 gg gvn gcn) sz)) 0 0 (va_A (w_X12_lose cy a0 gg gvn gcn) sz) := by
  refine Met.ofW (cc := cX12_lose) (maxL := 1) (ret := (some .int)) (by decide) rfl ?_
  intro p e s m aa below meth c s₁ B hml hv
  obtain ⟨haa, hsz, hP, hK, hD0⟩ := hv
  have hx := B.exec
  have hb := B.bytes
  have hr := B.returns
  have hts := atoms_spec (ws := wsX12_lose) B.pre
  have hown : s.vm.findClass RX12 = some m.cls := findClass_of_methodNamed B.named
  have hlocks := B.notSynchronized
  subst hsz
  have hD := hD0.self (sz := s.heap.size)
  obtain ⟨qq, hqq⟩ : ∃ qq, qq = (va_Qi (fun (r : Int32) (u : (Int32 × (Nat → Int32) × (Nat → Int32) × (Nat → Int32))) => r = R0.1 ∧ u = R0.2) (fun (u : (Int32 × (Nat → Int32) × (Nat → Int32) × (Nat → Int32))) t => poC dC dI cy (w_X12_lose cy a0 gg gvn u) t) (va_A (w_X12_lose cy a0 gg gvn gcn) s.heap.size)) := ⟨_, rfl⟩
  rw [← hqq]
  generalize hAe : va_A (w_X12_lose cy a0 gg gvn gcn) s.heap.size = A at hD hqq ⊢
  have hA : ∀ q : Nat, s.heap.size ≤ q → A q := fun q h => by rw [← hAe]; exact Or.inr h
  have hS : va_S A s.heap s.heap [] := va_S.rf
  have hl := lv_entry ([.ref (a0 0)]) (n := 1) (Nat.le_of_ble_eq_true rfl)
  have hE : entryFrame m aa 1 = F0 m 0 ((lg_sl ([.ref (a0 0)]) ++ List.replicate (1 - (lg_sl ([.ref (a0 0)])).length) Slot.unset).toArray) [] := by rw [haa]; exact lg_entry_eq m _ 1
  refine W.eq hE ?_
  generalize (lg_sl ([.ref (a0 0)]) ++ List.replicate (1 - (lg_sl ([.ref (a0 0)])).length) Slot.unset).toArray = ls at hl ⊢
  have hl : lv_has ls 1 [(0, .ref (a0 0))] := hl
  change W p l e rm_X12_lose s m aa below meth c s.heap [] 0 0 (MQ below qq aa s 0 0 A) (F0 m 0 ls [])
  have hS0 := hS
  have lk0 := hts (.fieldLink RX12 20 "GoatDoors" "now" "LGoatDoors$Village;") (by decide +kernel)
  have lk1 := hts (.fieldLink RX12 149 "GoatDoors$Village" "receipts" "LGoatDoors$Receipts;") (by decide +kernel)
  have lk2 := hts (.fieldLink RX12 153 "GoatDoors$Receipts" "size" "I") (by decide +kernel)
  have in_X12 : ∀ w ∈ wsX120, w ∈ wsX12_lose := by decide +kernel
  have in_X9 : ∀ w ∈ wsX90, w ∈ wsX12_lose := by decide +kernel
  have in_X8 : ∀ w ∈ wsX80, w ∈ wsX12_lose := by decide +kernel
  obtain ⟨H, hH⟩ : ∃ H : Heap, H = s.heap := ⟨_, rfl⟩
  obtain ⟨locs, hlocs⟩ : ∃ locs : List Loc, locs = [] := ⟨_, rfl⟩
  have hS : va_S A s.heap H locs := by rw [hH, hlocs]; exact hS
  rw [← hH] at hP
  suffices hg : W p l e rm_X12_lose s m aa below meth c H locs 0 0 (MQ below qq aa s 0 0 A) (F0 m 0 ls []) by subst hH; subst hlocs; exact hg
  unfold p_X12_lose at h
  refine lv_aload_n hx hb dX12_lose_0 rfl (lv_at hl 0 rfl) ?_
  refine va_get (D := (dC, dI)) (ci := 10) (v := .ref (a0 2)) (C := RX12) (T := TX12) (N := 17) hx hb hts in_X12 hown hK hP 0 rfl rfl 6 (by decide) lk0 (fun _ h9 => h9) rfl dX12_lose_1 ?_
  refine va_get (D := (dC, dI)) (ci := 7) (v := .ref (a0 8)) (C := RX9) (T := TX9) (N := 9) hx hb hts in_X9 hown hK hP 1 rfl rfl 3 (by decide) lk1 (fun _ h9 => h9) rfl dX12_lose_4 ?_
  refine va_get (D := (dC, dI)) (ci := 6) (v := .int gcn.1) (C := RX8) (T := TX8) (N := 4) hx hb hts in_X8 hown hK hP 2 rfl rfl 0 (by decide) lk2 (fun _ h9 => h9) rfl dX12_lose_7 ?_
  refine lv_if_ne (tgt := 15) hx hb dX12_lose_10 (by decide) (fun c1 => ?_) (fun c1 => ?_)
  · rw [if_neg c1] at h
    refine lv_aload_n hx hb dX12_lose_15 rfl (lv_at hl 0 rfl) ?_
    refine va_get (D := (dC, dI)) (ci := 10) (v := .ref (a0 2)) (C := RX12) (T := TX12) (N := 17) hx hb hts in_X12 hown hK hP 0 rfl rfl 6 (by decide) lk0 (fun _ h9 => h9) rfl dX12_lose_16 ?_
    refine va_get (D := (dC, dI)) (ci := 7) (v := .ref (a0 8)) (C := RX9) (T := TX9) (N := 9) hx hb hts in_X9 hown hK hP 1 rfl rfl 3 (by decide) lk1 (fun _ h9 => h9) rfl dX12_lose_19 ?_
    refine lv_dup hx hb dX12_lose_22 rfl ?_
    refine va_get (D := (dC, dI)) (ci := 6) (v := .int gcn.1) (C := RX8) (T := TX8) (N := 4) hx hb hts in_X8 hown hK hP 2 rfl rfl 0 (by decide) lk2 (fun _ h9 => h9) rfl dX12_lose_23 ?_
    refine lv_iconst (v := (1 : Int32)) hx hb dX12_lose_26 (by decide) ?_
    refine lv_isub hx hb dX12_lose_27 ?_
    refine va_put (D := (dC, dI)) (ci := 6) (v := .int (gcn.1 - (1 : Int32))) (ty := .int) (C := RX8) (T := TX8) (N := 4) hx hb hts in_X8 tyX8 tyX8_ok nmX8 hown hK hP hD hS 2 rfl rfl 0 (by decide) lk2 (fun _ h9 => h9) rfl (by decide +kernel) rfl rfl (Nat.le_of_ble_eq_true rfl) dX12_lose_28 (fun H locs hP hD hS => ?_)
    have hP : va_P (dC, dI) vwCl (w_X12_lose cy a0 gg gvn (((gcn.1 - (1 : Int32)), gcn.2))) H := hP
    have hD : va_D A (w_X12_lose cy a0 gg gvn (((gcn.1 - (1 : Int32)), gcn.2))) := hD
    refine lv_aload_n hx hb dX12_lose_31 rfl (lv_at hl 0 rfl) ?_
    refine va_get (D := (dC, dI)) (ci := 10) (v := .ref (a0 2)) (C := RX12) (T := TX12) (N := 17) hx hb hts in_X12 hown hK hP 0 rfl rfl 6 (by decide) lk0 (fun _ h9 => h9) rfl dX12_lose_32 ?_
    refine va_get (D := (dC, dI)) (ci := 7) (v := .ref (a0 8)) (C := RX9) (T := TX9) (N := 9) hx hb hts in_X9 hown hK hP 1 rfl rfl 3 (by decide) lk1 (fun _ h9 => h9) rfl dX12_lose_35 ?_
    refine va_get (D := (dC, dI)) (ci := 6) (v := .int (gcn.1 - (1 : Int32))) (C := RX8) (T := TX8) (N := 4) hx hb hts in_X8 hown hK hP 2 rfl rfl 0 (by decide) lk2 (fun _ h9 => h9) rfl dX12_lose_38 ?_
    exact W.iret (v := (gcn.1 - (1 : Int32))) hx hb hr (fun t ht hW => by rw [hqq]; have hh := Option.some.inj h; exact ⟨⟨(gcn.1 - (1 : Int32)), (((gcn.1 - (1 : Int32)), gcn.2)), rfl, ⟨fst_of hh, snd_of hh⟩, by rw [ht]; exact hP, va_K.moved hW.alike hK⟩, hS.F ht⟩) hS.2.2 dX12_lose_41
  · rw [if_pos c1] at h
    refine lv_iconst (v := (-1 : Int32)) hx hb dX12_lose_13 (by decide) ?_
    exact W.iret (v := (-1 : Int32)) hx hb hr (fun t ht hW => by rw [hqq]; have hh := Option.some.inj h; exact ⟨⟨(-1 : Int32), (gcn), rfl, ⟨fst_of hh, snd_of hh⟩, by rw [ht]; exact hP, va_K.moved hW.alike hK⟩, hS.F ht⟩) hS.2.2 dX12_lose_14

abbrev w_X12_chalked (cy : Nat → ClassId) (a0 : Nat → Nat) (gg : Int32 × Int32 × Int32 × Int32 × Int32 × Int32) (gvn : Int32 × Int32 × (Nat → Int32) × (Nat → Int32) × (Nat → Int32) × (Nat → Int32) × (Nat → Int32)) (gdn : Int32 × Int32 × (Nat → Int32) × (Nat → Int32) × (Nat → Int32) × (Nat → Int32)) (gcn : Int32 × (Nat → Int32) × (Nat → Int32) × (Nat → Int32)) : va_W := [(a0 0, .inr (10, [.ref (a0 1), .int (gg.1), .int (gg.2.1), .int (gg.2.2.1), .int (gg.2.2.2.1), .int (gg.2.2.2.2.1), .ref (a0 2), .ref (a0 17), .ref (a0 32), .int (gg.2.2.2.2.2), .ref (a0 47), .ref (a0 48), .ref (a0 49), .ref (a0 50), .ref (a0 68), .ref (a0 78), .ref (a0 80)])), (a0 2, .inr (7, [.int (gvn.1), .int (gvn.2.1), .ref (a0 3), .ref (a0 8), .ref (a0 12), .ref (a0 13), .ref (a0 14), .ref (a0 15), .ref (a0 16)])), (a0 3, .inr (2, [.int (gdn.1), .int (gdn.2.1), .ref (a0 4), .ref (a0 5), .ref (a0 6), .ref (a0 7)])), (a0 4, .inl (cy 1, 10, .inl (gdn.2.2.1))), (a0 5, .inl (cy 1, 10, .inl (gdn.2.2.2.1))), (a0 6, .inl (cy 1, 10, .inl (gdn.2.2.2.2.1))), (a0 7, .inl (cy 1, 50, .inl (gdn.2.2.2.2.2))), (a0 8, .inr (6, [.int (gcn.1), .ref (a0 9), .ref (a0 10), .ref (a0 11)])), (a0 9, .inl (cy 1, 12, .inl (gcn.2.1))), (a0 10, .inl (cy 1, 12, .inl (gcn.2.2.1))), (a0 11, .inl (cy 1, 12, .inl (gcn.2.2.2))), (a0 12, .inl (cy 1, 5, .inl (gvn.2.2.1))), (a0 13, .inl (cy 1, 5, .inl (gvn.2.2.2.1))), (a0 14, .inl (cy 1, 5, .inl (gvn.2.2.2.2.1))), (a0 15, .inl (cy 1, 5, .inl (gvn.2.2.2.2.2.1))), (a0 16, .inl (cy 1, 5, .inl (gvn.2.2.2.2.2.2)))]
abbrev rm_X12_chalked : Room := { frames := 7, cells := 1, slots := 6, locals := 141 }
def p_X12_chalked_47 (k13 : Int32 → Int32 → Int32 → Int32 → Option ((Int32 ⊕ Nat) × (Unit))) (gg : Int32 × Int32 × Int32 × Int32 × Int32 × Int32) (gvn : Int32 × Int32 × (Nat → Int32) × (Nat → Int32) × (Nat → Int32) × (Nat → Int32) × (Nat → Int32)) (gdn : Int32 × Int32 × (Nat → Int32) × (Nat → Int32) × (Nat → Int32) × (Nat → Int32)) (gcn : Int32 × (Nat → Int32) × (Nat → Int32) × (Nat → Int32))  (x1 : Int32) (x2 : Int32) (x3 : Int32) (x4 : Int32) : Option ((Int32 ⊕ Nat) × (Unit)) := k13 x1 x2 x3 (x4 + (-1 : Int32))
def p_X12_chalked_13 (gg : Int32 × Int32 × Int32 × Int32 × Int32 × Int32) (gvn : Int32 × Int32 × (Nat → Int32) × (Nat → Int32) × (Nat → Int32) × (Nat → Int32) × (Nat → Int32)) (gdn : Int32 × Int32 × (Nat → Int32) × (Nat → Int32) × (Nat → Int32) × (Nat → Int32)) (gcn : Int32 × (Nat → Int32) × (Nat → Int32) × (Nat → Int32)) : Nat → Int32 → Int32 → Int32 → Int32 → Option ((Int32 ⊕ Nat) × (Unit))
  | 0, _, _, _, _ => none
  | n + 1, x1, x2, x3, x4 => (if x4 < (2 : Int32) then (if x1 = (0 : Int32) then some (Sum.inl x2, ()) else some (Sum.inl x3, ())) else ((p_X8_fit gcn gdn x4).bind fun v3 => (if v3 = (0 : Int32) then p_X12_chalked_47 (p_X12_chalked_13 gg gvn gdn gcn n) gg gvn gdn gcn x1 x2 x3 x4 else p_X12_chalked_47 (p_X12_chalked_13 gg gvn gdn gcn n) gg gvn gdn gcn x1 (x2 + (1 : Int32)) x4 x4)))
def p_X12_chalked (gg : Int32 × Int32 × Int32 × Int32 × Int32 × Int32) (gvn : Int32 × Int32 × (Nat → Int32) × (Nat → Int32) × (Nat → Int32) × (Nat → Int32) × (Nat → Int32)) (gdn : Int32 × Int32 × (Nat → Int32) × (Nat → Int32) × (Nat → Int32) × (Nat → Int32)) (gcn : Int32 × (Nat → Int32) × (Nat → Int32) × (Nat → Int32)) (x1 : Int32) : Option ((Int32 ⊕ Nat) × (Unit)) := ((p_X12_needWhat x1 (1 : Int32)).bind fun v1 => xb v1.1 (fun _r => p_X12_chalked_13 gg gvn gdn gcn fu x1 (0 : Int32) (-1 : Int32) (40 : Int32)) (fun k => some (Sum.inr k, ())))
set_option maxHeartbeats 1000000 in
set_option maxRecDepth 100000 in
theorem c_X12_chalked (l : Launch) (dC : Nat → ClassId) (dI : Nat → Nat → Nat) (cy : Nat → ClassId) (z : Nat → Nat) (hl9 : l.stackTraces = false) (a0 : Nat → Nat) (gg : Int32 × Int32 × Int32 × Int32 × Int32 × Int32) (gvn : Int32 × Int32 × (Nat → Int32) × (Nat → Int32) × (Nat → Int32) × (Nat → Int32) × (Nat → Int32)) (gdn : Int32 × Int32 × (Nat → Int32) × (Nat → Int32) × (Nat → Int32) × (Nat → Int32)) (gcn : Int32 × (Nat → Int32) × (Nat → Int32) × (Nat → Int32)) (x1 : Int32) (sz : Nat) (R0 : (Int32 ⊕ Nat) × (Unit)) (h : p_X12_chalked gg gvn gdn gcn x1 = some R0) : vx_Met l yX12_chalked wsX12_chalked rm_X12_chalked (va_Pc [.ref (a0 0), .int x1] (prS dC dI cy z (w_X12_chalked cy a0 gg gvn gdn gcn) sz)) (va_Qi (fun (r : Int32) (u : Unit) => Sum.inl r = R0.1 ∧ u = R0.2) (fun (_ : Unit) t => poC dC dI cy (w_X12_chalked cy a0 gg gvn gdn gcn) t) (va_A (w_X12_chalked cy a0 gg gvn gdn gcn) sz)) (vx_X (fun (u : Unit) => u = R0.2) (fun E (_ : Unit) t => exE E R0.1 ∧ poC dC dI cy (w_X12_chalked cy a0 gg gvn gdn gcn) t) (va_A (w_X12_chalked cy a0 gg gvn gdn gcn) sz)) 1 6 (va_A (w_X12_chalked cy a0 gg gvn gdn gcn) sz) := by
  refine vx_ofW (cc := cX12_chalked) (maxL := 5) (ret := (some .int)) (by decide) rfl ?_
  intro p e s m aa below meth c s₁ B hml htab hv
  obtain ⟨haa, ⟨hsz, hP, hK, hD0⟩, hX⟩ := hv
  have hx := B.exec
  have hb := B.bytes
  have hr := B.returns
  have hts := atoms_spec (ws := wsX12_chalked) B.pre
  have hown : s.vm.findClass RX12 = some m.cls := findClass_of_methodNamed B.named
  have hlocks := B.notSynchronized
  subst hsz
  have hD := hD0.self (sz := s.heap.size)
  obtain ⟨qq, hqq⟩ : ∃ qq, qq = (va_Qi (fun (r : Int32) (u : Unit) => Sum.inl r = R0.1 ∧ u = R0.2) (fun (_ : Unit) t => poC dC dI cy (w_X12_chalked cy a0 gg gvn gdn gcn) t) (va_A (w_X12_chalked cy a0 gg gvn gdn gcn) s.heap.size)) := ⟨_, rfl⟩
  obtain ⟨xx, hxx⟩ : ∃ xx, xx = (vx_X (fun (u : Unit) => u = R0.2) (fun E (_ : Unit) t => exE E R0.1 ∧ poC dC dI cy (w_X12_chalked cy a0 gg gvn gdn gcn) t) (va_A (w_X12_chalked cy a0 gg gvn gdn gcn) s.heap.size)) := ⟨_, rfl⟩
  rw [← hqq, ← hxx]
  generalize hAe : va_A (w_X12_chalked cy a0 gg gvn gdn gcn) s.heap.size = A at hD hqq hxx hX ⊢
  have hA : ∀ q : Nat, s.heap.size ≤ q → A q := fun q h => by rw [← hAe]; exact Or.inr h
  have hS : va_S A s.heap s.heap [] := va_S.rf
  have hl := lv_entry ([.ref (a0 0), .int x1]) (n := 5) (Nat.le_of_ble_eq_true rfl)
  have hE : entryFrame m aa 5 = F0 m 0 ((lg_sl ([.ref (a0 0), .int x1]) ++ List.replicate (5 - (lg_sl ([.ref (a0 0), .int x1])).length) Slot.unset).toArray) [] := by rw [haa]; exact lg_entry_eq m _ 5
  refine W.eq hE ?_
  generalize (lg_sl ([.ref (a0 0), .int x1]) ++ List.replicate (5 - (lg_sl ([.ref (a0 0), .int x1])).length) Slot.unset).toArray = ls at hl ⊢
  have hl : lv_has ls 5 [(0, .ref (a0 0)), (1, .int x1)] := hl
  change W p l e rm_X12_chalked s m aa below meth c s.heap [] 0 0 (vx_MQ below qq xx aa s 1 6 A) (F0 m 0 ls [])
  have hS0 := hS
  have lk0 := hts (.fieldLink RX12 20 "GoatDoors" "now" "LGoatDoors$Village;") (by decide +kernel)
  have lk1 := hts (.fieldLink RX12 149 "GoatDoors$Village" "receipts" "LGoatDoors$Receipts;") (by decide +kernel)
  have lk2 := hts (.fieldLink RX12 130 "GoatDoors$Village" "doors" "LGoatDoors$Doors;") (by decide +kernel)
  have in_X12 : ∀ w ∈ wsX120, w ∈ wsX12_chalked := by decide +kernel
  have in_X9 : ∀ w ∈ wsX90, w ∈ wsX12_chalked := by decide +kernel
  have c47 : ∀ (k13 : Int32 → Int32 → Int32 → Int32 → Option ((Int32 ⊕ Nat) × (Unit))) (hk13 : ∀ (x1 : Int32) (x2 : Int32) (x3 : Int32) (x4 : Int32) (H : Heap) (locs : List Loc) (ls : Array Slot), k13 x1 x2 x3 x4 = some R0 → va_P (dC, dI) vwCl (w_X12_chalked cy a0 gg gvn gdn gcn) H → va_D A (w_X12_chalked cy a0 gg gvn gdn gcn) → va_S A s.heap H locs → lv_has ls 5 [(0, .ref (a0 0)), (1, .int x1), (2, .int x2), (3, .int x3), (4, .int x4)] → W p l e rm_X12_chalked s m aa below meth c H locs 1 6 (vx_MQ below qq xx aa s 1 6 A) (F0 m 13 ls [])), ∀ (x1 : Int32) (x2 : Int32) (x3 : Int32) (x4 : Int32) (H : Heap) (locs : List Loc) (ls : Array Slot), p_X12_chalked_47 k13 gg gvn gdn gcn x1 x2 x3 x4 = some R0 → va_P (dC, dI) vwCl (w_X12_chalked cy a0 gg gvn gdn gcn) H → va_D A (w_X12_chalked cy a0 gg gvn gdn gcn) → va_S A s.heap H locs → lv_has ls 5 [(0, .ref (a0 0)), (1, .int x1), (2, .int x2), (3, .int x3), (4, .int x4)] → W p l e rm_X12_chalked s m aa below meth c H locs 1 6 (vx_MQ below qq xx aa s 1 6 A) (F0 m 47 ls []) := by
    intro k13 hk13 x1 x2 x3 x4 H locs ls h hP hD hS hl
    unfold p_X12_chalked_47 at h
    refine lv_iinc (v := (x4 + (-1 : Int32))) (lv' := [(4, .int (x4 + (-1 : Int32))), (0, .ref (a0 0)), (1, .int x1), (2, .int x2), (3, .int x3)]) hx hb dX12_chalked_47 hl (k := 4) rfl rfl (by decide) rfl (fun ls hl => ?_)
    refine lv_goto (tgt := 13) hx hb dX12_chalked_50 (by decide) ?_
    exact hk13 x1 x2 x3 (x4 + (-1 : Int32)) H locs ls h hP hD hS (lv_sub hl [1, 2, 3, 4, 0] rfl)
  have c13 : ∀ (n : Nat), ∀ (x1 : Int32) (x2 : Int32) (x3 : Int32) (x4 : Int32) (H : Heap) (locs : List Loc) (ls : Array Slot), p_X12_chalked_13 gg gvn gdn gcn n x1 x2 x3 x4 = some R0 → va_P (dC, dI) vwCl (w_X12_chalked cy a0 gg gvn gdn gcn) H → va_D A (w_X12_chalked cy a0 gg gvn gdn gcn) → va_S A s.heap H locs → lv_has ls 5 [(0, .ref (a0 0)), (1, .int x1), (2, .int x2), (3, .int x3), (4, .int x4)] → W p l e rm_X12_chalked s m aa below meth c H locs 1 6 (vx_MQ below qq xx aa s 1 6 A) (F0 m 13 ls []) := by
    intro  n
    induction n with
    | zero => intro x1 x2 x3 x4 H locs ls h; exact no_some h
    | succ n ih =>
      intro x1 x2 x3 x4 H locs ls h hP hD hS hl
      rw [p_X12_chalked_13.eq_2] at h
      refine lv_iload hx hb dX12_chalked_13 (lv_at hl 4 rfl) ?_
      refine lv_iconst (v := (2 : Int32)) hx hb dX12_chalked_15 (by decide) ?_
      refine lv_icmp_lt (tgt := 53) hx hb dX12_chalked_16 (by decide) (fun c1 => ?_) (fun c1 => ?_)
      · rw [if_pos c1] at h
        refine lv_iload_n hx hb dX12_chalked_53 rfl (lv_at hl 1 rfl) ?_
        refine lv_if_ne (tgt := 61) hx hb dX12_chalked_54 (by decide) (fun c2 => ?_) (fun c2 => ?_)
        · rw [if_neg c2] at h
          refine lv_iload_n hx hb dX12_chalked_61 rfl (lv_at hl 3 rfl) ?_
          refine vx_ret ?_
          exact W.iret (v := x3) hx hb hr (fun t ht hW => by rw [hqq]; have hh := Option.some.inj h; exact ⟨⟨x3, (()), rfl, ⟨fst_of hh, snd_of hh⟩, by rw [ht]; exact hP, va_K.moved hW.alike hK⟩, hS.F ht⟩) hS.2.2 dX12_chalked_62
        · rw [if_pos c2] at h
          refine lv_iload_n hx hb dX12_chalked_57 rfl (lv_at hl 2 rfl) ?_
          refine lv_goto (tgt := 62) hx hb dX12_chalked_58 (by decide) ?_
          refine vx_ret ?_
          exact W.iret (v := x2) hx hb hr (fun t ht hW => by rw [hqq]; have hh := Option.some.inj h; exact ⟨⟨x2, (()), rfl, ⟨fst_of hh, snd_of hh⟩, by rw [ht]; exact hP, va_K.moved hW.alike hK⟩, hS.F ht⟩) hS.2.2 dX12_chalked_62
      · rw [if_neg c1] at h
        refine lv_aload_n hx hb dX12_chalked_19 rfl (lv_at hl 0 rfl) ?_
        refine va_get (D := (dC, dI)) (ci := 10) (v := .ref (a0 2)) (C := RX12) (T := TX12) (N := 17) hx hb hts in_X12 hown hK hP 0 rfl rfl 6 (by decide) lk0 (fun _ h9 => h9) rfl dX12_chalked_20 ?_
        refine va_get (D := (dC, dI)) (ci := 7) (v := .ref (a0 8)) (C := RX9) (T := TX9) (N := 9) hx hb hts in_X9 hown hK hP 1 rfl rfl 3 (by decide) lk1 (fun _ h9 => h9) rfl dX12_chalked_23 ?_
        refine lv_aload_n hx hb dX12_chalked_26 rfl (lv_at hl 0 rfl) ?_
        refine va_get (D := (dC, dI)) (ci := 10) (v := .ref (a0 2)) (C := RX12) (T := TX12) (N := 17) hx hb hts in_X12 hown hK hP 0 rfl rfl 6 (by decide) lk0 (fun _ h9 => h9) rfl dX12_chalked_27 ?_
        refine va_get (D := (dC, dI)) (ci := 7) (v := .ref (a0 3)) (C := RX9) (T := TX9) (N := 9) hx hb hts in_X9 hown hK hP 1 rfl rfl 2 (by decide) lk2 (fun _ h9 => h9) rfl dX12_chalked_30 ?_
        refine lv_iload hx hb dX12_chalked_33 (lv_at hl 4 rfl) ?_
        obtain ⟨v3, hv4, h⟩ := ok_bind h
        refine cl_vi (w2 := fun (_ : Unit) => w_X12_chalked cy a0 gg gvn gdn gcn) (As := [.ref (a0 3), .int x4]) (rest := []) ⟨hx, hb, hml, hown, hts⟩ (c_X8_fit l dC dI cy (fun k => a0 (k + 8)) (fun k => a0 (k + 3)) gcn gdn x4 H.size v3 hv4) (cwV 2 hts gX12_chalked_X8_fit rfl rfl rfl (by decide +kernel) ⟨Nat.le_of_ble_eq_true rfl, Nat.le_of_ble_eq_true rfl⟩) (va_recv hK hP (ci := 6) (q0 := 7) rfl rfl) cl_blind (cl_pre hK hP hD [7, 8, 9, 10, 2, 3, 4, 5, 6] (by decide) rfl) hP hD hS hA [7, 8, 9, 10, 2, 3, 4, 5, 6] rfl rfl hl.1 rfl (lv_room (Nat.le_of_ble_eq_true rfl)) dX12_chalked_35 ⟨Nat.le_of_ble_eq_true rfl, Nat.le_of_ble_eq_true rfl⟩ ⟨rfl, rfl⟩ (fun _ => updR [7, 8, 9, 10, 2, 3, 4, 5, 6] rfl) (fun r u H locs hw hP hD hS => ?_)
        have hw := hw.symm
        subst hw
        have hP : va_P (dC, dI) vwCl (w_X12_chalked cy a0 gg gvn gdn gcn) H := hP
        have hD : va_D A (w_X12_chalked cy a0 gg gvn gdn gcn) := hD
        refine lv_if_eq (tgt := 47) hx hb dX12_chalked_38 (by decide) (fun c5 => ?_) (fun c5 => ?_)
        · rw [if_pos c5] at h
          exact c47 (p_X12_chalked_13 gg gvn gdn gcn n) ih x1 x2 x3 x4 H locs ls h hP hD hS (lv_sub hl [0, 1, 2, 3, 4] rfl)
        · rw [if_neg c5] at h
          refine lv_iinc (v := (x2 + (1 : Int32))) (lv' := [(2, .int (x2 + (1 : Int32))), (0, .ref (a0 0)), (1, .int x1), (3, .int x3), (4, .int x4)]) hx hb dX12_chalked_41 hl (k := 2) rfl rfl (by decide) rfl (fun ls hl => ?_)
          refine lv_iload hx hb dX12_chalked_44 (lv_at hl 4 rfl) ?_
          refine lv_istore_n (lv' := [(3, .int x4), (2, .int (x2 + (1 : Int32))), (0, .ref (a0 0)), (1, .int x1), (4, .int x4)]) hx hb dX12_chalked_46 rfl hl (by decide) rfl (fun ls hl => ?_)
          exact c47 (p_X12_chalked_13 gg gvn gdn gcn n) ih x1 (x2 + (1 : Int32)) x4 x4 H locs ls h hP hD hS (lv_sub hl [2, 3, 1, 0, 4] rfl)
  obtain ⟨H, hH⟩ : ∃ H : Heap, H = s.heap := ⟨_, rfl⟩
  obtain ⟨locs, hlocs⟩ : ∃ locs : List Loc, locs = [] := ⟨_, rfl⟩
  have hS : va_S A s.heap H locs := by rw [hH, hlocs]; exact hS
  rw [← hH] at hP
  suffices hg : W p l e rm_X12_chalked s m aa below meth c H locs 0 0 (vx_MQ below qq xx aa s 1 6 A) (F0 m 0 ls []) by subst hH; subst hlocs; exact hg
  unfold p_X12_chalked at h
  refine lv_iload_n hx hb dX12_chalked_0 rfl (lv_at hl 1 rfl) ?_
  refine lv_iconst (v := (1 : Int32)) hx hb dX12_chalked_1 (by decide) ?_
  obtain ⟨v1, hv2, h⟩ := ok_bind h
  refine cx_sv (w2 := fun (_ : Unit) => w_X12_chalked cy a0 gg gvn gdn gcn) (w2x := fun (_ : Unit) => w_X12_chalked cy a0 gg gvn gdn gcn) (As := [.int x1, .int (1 : Int32)]) (rest := []) ⟨hx, hb, hml, hown, hts⟩ (c_X12_needWhat l dC dI cy z hl9  x1 (1 : Int32) H.size v1 hv2) (va_cwS 2 hts gX12_chalked_X12_needWhat rfl rfl rfl (by decide +kernel) ⟨Nat.le_of_ble_eq_true rfl, Nat.le_of_ble_eq_true rfl⟩) cl_blindS (cl_preS hK hP hD hS hA hX [] (by decide) rfl) hP hD hS hA [] rfl rfl hl.1 rfl (lv_room (Nat.le_of_ble_eq_true rfl)) dX12_chalked_2 ⟨Nat.le_of_ble_eq_true rfl, Nat.le_of_ble_eq_true rfl⟩ (cells' := 1) (slots' := 6) ⟨rfl, rfl⟩ (fun _ => updR [] rfl) (fun _ => updR [] rfl) (fun E ce q9 u H locs hw hE hP hD hS hc1 hc2 hc3 => ?_) (fun u H locs hw hP hD hS => ?_)
  · subst hw
    have hP : va_P (dC, dI) vwCl (w_X12_chalked cy a0 gg gvn gdn gcn) H := hP
    obtain ⟨hE1, hE2⟩ := exE_pass hE h
    exact vx_out (fun x9 hx9 => (htab x9 hx9).elim) hlocks hc1 hc2 hc3 (fun t h1 h2 => by rw [hxx]; exact ⟨_, hE2.symm, ⟨hE1, by rw [h1]; exact hP, va_K.moved h2 hK⟩, hS.F h1⟩) hS.2.2 (by decide) (by decide)
  obtain ⟨hw1, hw2⟩ := hw
  subst hw2
  rw [← hw1] at h
  dsimp only [xb] at h
  have hP : va_P (dC, dI) vwCl (w_X12_chalked cy a0 gg gvn gdn gcn) H := hP
  have hD : va_D A (w_X12_chalked cy a0 gg gvn gdn gcn) := hD
  refine lv_iconst (v := (0 : Int32)) hx hb dX12_chalked_5 (by decide) ?_
  refine lv_istore_n (lv' := [(2, .int (0 : Int32)), (0, .ref (a0 0)), (1, .int x1)]) hx hb dX12_chalked_6 rfl hl (by decide) rfl (fun ls hl => ?_)
  refine lv_iconst (v := (-1 : Int32)) hx hb dX12_chalked_7 (by decide) ?_
  refine lv_istore_n (lv' := [(3, .int (-1 : Int32)), (2, .int (0 : Int32)), (0, .ref (a0 0)), (1, .int x1)]) hx hb dX12_chalked_8 rfl hl (by decide) rfl (fun ls hl => ?_)
  refine lv_bipush (v := (40 : Int32)) hx hb dX12_chalked_9 (by decide) ?_
  refine lv_istore (lv' := [(4, .int (40 : Int32)), (3, .int (-1 : Int32)), (2, .int (0 : Int32)), (0, .ref (a0 0)), (1, .int x1)]) hx hb dX12_chalked_11 hl (by decide) rfl (fun ls hl => ?_)
  exact c13 fu x1 (0 : Int32) (-1 : Int32) (40 : Int32) H locs ls h hP hD hS (lv_sub hl [3, 4, 2, 1, 0] rfl)

abbrev w_X12_fewestToVoid (cy : Nat → ClassId) (a0 : Nat → Nat) (gg : Int32 × Int32 × Int32 × Int32 × Int32 × Int32) (gvn : Int32 × Int32 × (Nat → Int32) × (Nat → Int32) × (Nat → Int32) × (Nat → Int32) × (Nat → Int32)) (gdn : Int32 × Int32 × (Nat → Int32) × (Nat → Int32) × (Nat → Int32) × (Nat → Int32)) : va_W := [(a0 0, .inr (10, [.ref (a0 1), .int (gg.1), .int (gg.2.1), .int (gg.2.2.1), .int (gg.2.2.2.1), .int (gg.2.2.2.2.1), .ref (a0 2), .ref (a0 17), .ref (a0 32), .int (gg.2.2.2.2.2), .ref (a0 47), .ref (a0 48), .ref (a0 49), .ref (a0 50), .ref (a0 68), .ref (a0 78), .ref (a0 80)])), (a0 2, .inr (7, [.int (gvn.1), .int (gvn.2.1), .ref (a0 3), .ref (a0 8), .ref (a0 12), .ref (a0 13), .ref (a0 14), .ref (a0 15), .ref (a0 16)])), (a0 3, .inr (2, [.int (gdn.1), .int (gdn.2.1), .ref (a0 4), .ref (a0 5), .ref (a0 6), .ref (a0 7)])), (a0 4, .inl (cy 1, 10, .inl (gdn.2.2.1))), (a0 5, .inl (cy 1, 10, .inl (gdn.2.2.2.1))), (a0 6, .inl (cy 1, 10, .inl (gdn.2.2.2.2.1))), (a0 7, .inl (cy 1, 50, .inl (gdn.2.2.2.2.2))), (a0 12, .inl (cy 1, 5, .inl (gvn.2.2.1))), (a0 13, .inl (cy 1, 5, .inl (gvn.2.2.2.1))), (a0 14, .inl (cy 1, 5, .inl (gvn.2.2.2.2.1))), (a0 15, .inl (cy 1, 5, .inl (gvn.2.2.2.2.2.1))), (a0 16, .inl (cy 1, 5, .inl (gvn.2.2.2.2.2.2)))]
abbrev rm_X12_fewestToVoid : Room := { frames := 4, cells := 0, slots := 0, locals := 93 }
def p_X12_fewestToVoid_25 (gg : Int32 × Int32 × Int32 × Int32 × Int32 × Int32) (gvn : Int32 × Int32 × (Nat → Int32) × (Nat → Int32) × (Nat → Int32) × (Nat → Int32) × (Nat → Int32)) (gdn : Int32 × Int32 × (Nat → Int32) × (Nat → Int32) × (Nat → Int32) × (Nat → Int32)) : Nat → Int32 → Int32 → Option (Int32)
  | 0, _, _ => none
  | n + 1, x1, x2 => (if x2 < (2 : Int32) then some (-1 : Int32) else ((p_X4_worthIn gdn x1 x2).bind fun v2 => (if v2 = (0 : Int32) then some (gvn.2.1 - x2) else p_X12_fewestToVoid_25 gg gvn gdn n x1 (x2 + (-1 : Int32)))))
def p_X12_fewestToVoid (gg : Int32 × Int32 × Int32 × Int32 × Int32 × Int32) (gvn : Int32 × Int32 × (Nat → Int32) × (Nat → Int32) × (Nat → Int32) × (Nat → Int32) × (Nat → Int32)) (gdn : Int32 × Int32 × (Nat → Int32) × (Nat → Int32) × (Nat → Int32) × (Nat → Int32)) (x1 : Int32) : Option (Int32) := (if gdn.1 = (0 : Int32) then p_X12_fewestToVoid_25 gg gvn gdn fu x1 (gvn.2.1 - (1 : Int32)) else some (-1 : Int32))
set_option maxHeartbeats 1000000 in
set_option maxRecDepth 100000 in
theorem c_X12_fewestToVoid (l : Launch) (dC : Nat → ClassId) (dI : Nat → Nat → Nat) (cy : Nat → ClassId) (a0 : Nat → Nat) (gg : Int32 × Int32 × Int32 × Int32 × Int32 × Int32) (gvn : Int32 × Int32 × (Nat → Int32) × (Nat → Int32) × (Nat → Int32) × (Nat → Int32) × (Nat → Int32)) (gdn : Int32 × Int32 × (Nat → Int32) × (Nat → Int32) × (Nat → Int32) × (Nat → Int32)) (x1 : Int32) (sz : Nat) (R0 : Int32) (h : p_X12_fewestToVoid gg gvn gdn x1 = some R0) : Met l yX12_fewestToVoid wsX12_fewestToVoid rm_X12_fewestToVoid (va_Pc [.ref (a0 0), .int x1] (prC dC dI cy (w_X12_fewestToVoid cy a0 gg gvn gdn) sz)) (va_Qi (fun (r : Int32) (_ : Unit) => r = R0) (fun (_ : Unit) t => poC dC dI cy (w_X12_fewestToVoid cy a0 gg gvn gdn) t) (va_A (w_X12_fewestToVoid cy a0 gg gvn gdn) sz)) 0 0 (va_A (w_X12_fewestToVoid cy a0 gg gvn gdn) sz) := by
  refine Met.ofW (cc := cX12_fewestToVoid) (maxL := 3) (ret := (some .int)) (by decide) rfl ?_
  intro p e s m aa below meth c s₁ B hml hv
  obtain ⟨haa, hsz, hP, hK, hD0⟩ := hv
  have hx := B.exec
  have hb := B.bytes
  have hr := B.returns
  have hts := atoms_spec (ws := wsX12_fewestToVoid) B.pre
  have hown : s.vm.findClass RX12 = some m.cls := findClass_of_methodNamed B.named
  have hlocks := B.notSynchronized
  subst hsz
  have hD := hD0.self (sz := s.heap.size)
  obtain ⟨qq, hqq⟩ : ∃ qq, qq = (va_Qi (fun (r : Int32) (_ : Unit) => r = R0) (fun (_ : Unit) t => poC dC dI cy (w_X12_fewestToVoid cy a0 gg gvn gdn) t) (va_A (w_X12_fewestToVoid cy a0 gg gvn gdn) s.heap.size)) := ⟨_, rfl⟩
  rw [← hqq]
  generalize hAe : va_A (w_X12_fewestToVoid cy a0 gg gvn gdn) s.heap.size = A at hD hqq ⊢
  have hA : ∀ q : Nat, s.heap.size ≤ q → A q := fun q h => by rw [← hAe]; exact Or.inr h
  have hS : va_S A s.heap s.heap [] := va_S.rf
  have hl := lv_entry ([.ref (a0 0), .int x1]) (n := 3) (Nat.le_of_ble_eq_true rfl)
  have hE : entryFrame m aa 3 = F0 m 0 ((lg_sl ([.ref (a0 0), .int x1]) ++ List.replicate (3 - (lg_sl ([.ref (a0 0), .int x1])).length) Slot.unset).toArray) [] := by rw [haa]; exact lg_entry_eq m _ 3
  refine W.eq hE ?_
  generalize (lg_sl ([.ref (a0 0), .int x1]) ++ List.replicate (3 - (lg_sl ([.ref (a0 0), .int x1])).length) Slot.unset).toArray = ls at hl ⊢
  have hl : lv_has ls 3 [(0, .ref (a0 0)), (1, .int x1)] := hl
  change W p l e rm_X12_fewestToVoid s m aa below meth c s.heap [] 0 0 (MQ below qq aa s 0 0 A) (F0 m 0 ls [])
  have hS0 := hS
  have lk0 := hts (.fieldLink RX12 20 "GoatDoors" "now" "LGoatDoors$Village;") (by decide +kernel)
  have lk1 := hts (.fieldLink RX12 130 "GoatDoors$Village" "doors" "LGoatDoors$Doors;") (by decide +kernel)
  have lk2 := hts (.fieldLink RX12 142 "GoatDoors$Village" "base" "I") (by decide +kernel)
  have lk3 := hts (.fieldLink RX12 139 "GoatDoors$Doors" "law" "I") (by decide +kernel)
  have in_X12 : ∀ w ∈ wsX120, w ∈ wsX12_fewestToVoid := by decide +kernel
  have in_X9 : ∀ w ∈ wsX90, w ∈ wsX12_fewestToVoid := by decide +kernel
  have in_X4 : ∀ w ∈ wsX40, w ∈ wsX12_fewestToVoid := by decide +kernel
  have c25 : ∀ (n : Nat), ∀ (x1 : Int32) (x2 : Int32) (H : Heap) (locs : List Loc) (ls : Array Slot), p_X12_fewestToVoid_25 gg gvn gdn n x1 x2 = some R0 → va_P (dC, dI) vwCl (w_X12_fewestToVoid cy a0 gg gvn gdn) H → va_D A (w_X12_fewestToVoid cy a0 gg gvn gdn) → va_S A s.heap H locs → lv_has ls 3 [(0, .ref (a0 0)), (1, .int x1), (2, .int x2)] → W p l e rm_X12_fewestToVoid s m aa below meth c H locs 0 0 (MQ below qq aa s 0 0 A) (F0 m 25 ls []) := by
    intro  n
    induction n with
    | zero => intro x1 x2 H locs ls h; exact no_some h
    | succ n ih =>
      intro x1 x2 H locs ls h hP hD hS hl
      rw [p_X12_fewestToVoid_25.eq_2] at h
      refine lv_iload_n hx hb dX12_fewestToVoid_25 rfl (lv_at hl 2 rfl) ?_
      refine lv_iconst (v := (2 : Int32)) hx hb dX12_fewestToVoid_26 (by decide) ?_
      refine lv_icmp_lt (tgt := 61) hx hb dX12_fewestToVoid_27 (by decide) (fun c1 => ?_) (fun c1 => ?_)
      · rw [if_pos c1] at h
        refine lv_iconst (v := (-1 : Int32)) hx hb dX12_fewestToVoid_61 (by decide) ?_
        exact W.iret (v := (-1 : Int32)) hx hb hr (fun t ht hW => by rw [hqq]; have hh := Option.some.inj h; exact ⟨⟨(-1 : Int32), (()), rfl, Option.some.inj h, by rw [ht]; exact hP, va_K.moved hW.alike hK⟩, hS.F ht⟩) hS.2.2 dX12_fewestToVoid_62
      · rw [if_neg c1] at h
        refine lv_aload_n hx hb dX12_fewestToVoid_30 rfl (lv_at hl 0 rfl) ?_
        refine va_get (D := (dC, dI)) (ci := 10) (v := .ref (a0 2)) (C := RX12) (T := TX12) (N := 17) hx hb hts in_X12 hown hK hP 0 rfl rfl 6 (by decide) lk0 (fun _ h9 => h9) rfl dX12_fewestToVoid_31 ?_
        refine va_get (D := (dC, dI)) (ci := 7) (v := .ref (a0 3)) (C := RX9) (T := TX9) (N := 9) hx hb hts in_X9 hown hK hP 1 rfl rfl 2 (by decide) lk1 (fun _ h9 => h9) rfl dX12_fewestToVoid_34 ?_
        refine lv_iload_n hx hb dX12_fewestToVoid_37 rfl (lv_at hl 1 rfl) ?_
        refine lv_iload_n hx hb dX12_fewestToVoid_38 rfl (lv_at hl 2 rfl) ?_
        obtain ⟨v2, hv3, h⟩ := ok_bind h
        refine cl_vi (w2 := fun (_ : Unit) => w_X12_fewestToVoid cy a0 gg gvn gdn) (As := [.int x1, .int x2]) (rest := []) ⟨hx, hb, hml, hown, hts⟩ (c_X4_worthIn l dC dI cy (fun k => a0 (k + 3)) gdn x1 x2 H.size v2 hv3) (cwV 2 hts gX12_fewestToVoid_X4_worthIn rfl rfl rfl (by decide +kernel) ⟨Nat.le_of_ble_eq_true rfl, Nat.le_of_ble_eq_true rfl⟩) (va_recv hK hP (ci := 2) (q0 := 2) rfl rfl) cl_blind (cl_pre hK hP hD [2, 3, 4, 5, 6] (by decide) rfl) hP hD hS hA [2, 3, 4, 5, 6] rfl rfl hl.1 rfl (lv_room (Nat.le_of_ble_eq_true rfl)) dX12_fewestToVoid_39 ⟨Nat.le_of_ble_eq_true rfl, Nat.le_of_ble_eq_true rfl⟩ ⟨rfl, rfl⟩ (fun _ => updR [2, 3, 4, 5, 6] rfl) (fun r u H locs hw hP hD hS => ?_)
        have hw := hw.symm
        subst hw
        have hP : va_P (dC, dI) vwCl (w_X12_fewestToVoid cy a0 gg gvn gdn) H := hP
        have hD : va_D A (w_X12_fewestToVoid cy a0 gg gvn gdn) := hD
        refine lv_if_ne (tgt := 55) hx hb dX12_fewestToVoid_42 (by decide) (fun c4 => ?_) (fun c4 => ?_)
        · rw [if_neg c4] at h
          refine lv_iinc (v := (x2 + (-1 : Int32))) (lv' := [(2, .int (x2 + (-1 : Int32))), (0, .ref (a0 0)), (1, .int x1)]) hx hb dX12_fewestToVoid_55 hl (k := 2) rfl rfl (by decide) rfl (fun ls hl => ?_)
          refine lv_goto (tgt := 25) hx hb dX12_fewestToVoid_58 (by decide) ?_
          exact ih x1 (x2 + (-1 : Int32)) H locs ls h hP hD hS (lv_sub hl [1, 2, 0] rfl)
        · rw [if_pos c4] at h
          refine lv_aload_n hx hb dX12_fewestToVoid_45 rfl (lv_at hl 0 rfl) ?_
          refine va_get (D := (dC, dI)) (ci := 10) (v := .ref (a0 2)) (C := RX12) (T := TX12) (N := 17) hx hb hts in_X12 hown hK hP 0 rfl rfl 6 (by decide) lk0 (fun _ h9 => h9) rfl dX12_fewestToVoid_46 ?_
          refine va_get (D := (dC, dI)) (ci := 7) (v := .int gvn.2.1) (C := RX9) (T := TX9) (N := 9) hx hb hts in_X9 hown hK hP 1 rfl rfl 1 (by decide) lk2 (fun _ h9 => h9) rfl dX12_fewestToVoid_49 ?_
          refine lv_iload_n hx hb dX12_fewestToVoid_52 rfl (lv_at hl 2 rfl) ?_
          refine lv_isub hx hb dX12_fewestToVoid_53 ?_
          exact W.iret (v := (gvn.2.1 - x2)) hx hb hr (fun t ht hW => by rw [hqq]; have hh := Option.some.inj h; exact ⟨⟨(gvn.2.1 - x2), (()), rfl, Option.some.inj h, by rw [ht]; exact hP, va_K.moved hW.alike hK⟩, hS.F ht⟩) hS.2.2 dX12_fewestToVoid_54
  obtain ⟨H, hH⟩ : ∃ H : Heap, H = s.heap := ⟨_, rfl⟩
  obtain ⟨locs, hlocs⟩ : ∃ locs : List Loc, locs = [] := ⟨_, rfl⟩
  have hS : va_S A s.heap H locs := by rw [hH, hlocs]; exact hS
  rw [← hH] at hP
  suffices hg : W p l e rm_X12_fewestToVoid s m aa below meth c H locs 0 0 (MQ below qq aa s 0 0 A) (F0 m 0 ls []) by subst hH; subst hlocs; exact hg
  unfold p_X12_fewestToVoid at h
  refine lv_aload_n hx hb dX12_fewestToVoid_0 rfl (lv_at hl 0 rfl) ?_
  refine va_get (D := (dC, dI)) (ci := 10) (v := .ref (a0 2)) (C := RX12) (T := TX12) (N := 17) hx hb hts in_X12 hown hK hP 0 rfl rfl 6 (by decide) lk0 (fun _ h9 => h9) rfl dX12_fewestToVoid_1 ?_
  refine va_get (D := (dC, dI)) (ci := 7) (v := .ref (a0 3)) (C := RX9) (T := TX9) (N := 9) hx hb hts in_X9 hown hK hP 1 rfl rfl 2 (by decide) lk1 (fun _ h9 => h9) rfl dX12_fewestToVoid_4 ?_
  refine va_get (D := (dC, dI)) (ci := 2) (v := .int gdn.1) (C := RX4) (T := TX4) (N := 6) hx hb hts in_X4 hown hK hP 2 rfl rfl 0 (by decide) lk3 (fun _ h9 => h9) rfl dX12_fewestToVoid_7 ?_
  refine lv_if_eq (tgt := 15) hx hb dX12_fewestToVoid_10 (by decide) (fun c1 => ?_) (fun c1 => ?_)
  · rw [if_pos c1] at h
    refine lv_aload_n hx hb dX12_fewestToVoid_15 rfl (lv_at hl 0 rfl) ?_
    refine va_get (D := (dC, dI)) (ci := 10) (v := .ref (a0 2)) (C := RX12) (T := TX12) (N := 17) hx hb hts in_X12 hown hK hP 0 rfl rfl 6 (by decide) lk0 (fun _ h9 => h9) rfl dX12_fewestToVoid_16 ?_
    refine va_get (D := (dC, dI)) (ci := 7) (v := .int gvn.2.1) (C := RX9) (T := TX9) (N := 9) hx hb hts in_X9 hown hK hP 1 rfl rfl 1 (by decide) lk2 (fun _ h9 => h9) rfl dX12_fewestToVoid_19 ?_
    refine lv_iconst (v := (1 : Int32)) hx hb dX12_fewestToVoid_22 (by decide) ?_
    refine lv_isub hx hb dX12_fewestToVoid_23 ?_
    refine lv_istore_n (lv' := [(2, .int (gvn.2.1 - (1 : Int32))), (0, .ref (a0 0)), (1, .int x1)]) hx hb dX12_fewestToVoid_24 rfl hl (by decide) rfl (fun ls hl => ?_)
    exact c25 fu x1 (gvn.2.1 - (1 : Int32)) H locs ls h hP hD hS (lv_sub hl [1, 2, 0] rfl)
  · rw [if_neg c1] at h
    refine lv_iconst (v := (-1 : Int32)) hx hb dX12_fewestToVoid_13 (by decide) ?_
    exact W.iret (v := (-1 : Int32)) hx hb hr (fun t ht hW => by rw [hqq]; have hh := Option.some.inj h; exact ⟨⟨(-1 : Int32), (()), rfl, Option.some.inj h, by rw [ht]; exact hP, va_K.moved hW.alike hK⟩, hS.F ht⟩) hS.2.2 dX12_fewestToVoid_14

abbrev w_X12_voids (cy : Nat → ClassId) (a0 : Nat → Nat) (gg : Int32 × Int32 × Int32 × Int32 × Int32 × Int32) (gvn : Int32 × Int32 × (Nat → Int32) × (Nat → Int32) × (Nat → Int32) × (Nat → Int32) × (Nat → Int32)) (gdn : Int32 × Int32 × (Nat → Int32) × (Nat → Int32) × (Nat → Int32) × (Nat → Int32)) : va_W := [(a0 0, .inr (10, [.ref (a0 1), .int (gg.1), .int (gg.2.1), .int (gg.2.2.1), .int (gg.2.2.2.1), .int (gg.2.2.2.2.1), .ref (a0 2), .ref (a0 17), .ref (a0 32), .int (gg.2.2.2.2.2), .ref (a0 47), .ref (a0 48), .ref (a0 49), .ref (a0 50), .ref (a0 68), .ref (a0 78), .ref (a0 80)])), (a0 2, .inr (7, [.int (gvn.1), .int (gvn.2.1), .ref (a0 3), .ref (a0 8), .ref (a0 12), .ref (a0 13), .ref (a0 14), .ref (a0 15), .ref (a0 16)])), (a0 3, .inr (2, [.int (gdn.1), .int (gdn.2.1), .ref (a0 4), .ref (a0 5), .ref (a0 6), .ref (a0 7)])), (a0 4, .inl (cy 1, 10, .inl (gdn.2.2.1))), (a0 5, .inl (cy 1, 10, .inl (gdn.2.2.2.1))), (a0 6, .inl (cy 1, 10, .inl (gdn.2.2.2.2.1))), (a0 7, .inl (cy 1, 50, .inl (gdn.2.2.2.2.2))), (a0 12, .inl (cy 1, 5, .inl (gvn.2.2.1))), (a0 13, .inl (cy 1, 5, .inl (gvn.2.2.2.1))), (a0 14, .inl (cy 1, 5, .inl (gvn.2.2.2.2.1))), (a0 15, .inl (cy 1, 5, .inl (gvn.2.2.2.2.2.1))), (a0 16, .inl (cy 1, 5, .inl (gvn.2.2.2.2.2.2)))]
abbrev rm_X12_voids : Room := { frames := 7, cells := 2, slots := 12, locals := 115 }
def p_X12_voids_25 (gg : Int32 × Int32 × Int32 × Int32 × Int32 × Int32) (gvn : Int32 × Int32 × (Nat → Int32) × (Nat → Int32) × (Nat → Int32) × (Nat → Int32) × (Nat → Int32)) (gdn : Int32 × Int32 × (Nat → Int32) × (Nat → Int32) × (Nat → Int32) × (Nat → Int32))  (x3 : Int32) : Option ((Int32 ⊕ Nat) × (Unit)) := some (Sum.inl x3, ())
def p_X12_voids (gg : Int32 × Int32 × Int32 × Int32 × Int32 × Int32) (gvn : Int32 × Int32 × (Nat → Int32) × (Nat → Int32) × (Nat → Int32) × (Nat → Int32) × (Nat → Int32)) (gdn : Int32 × Int32 × (Nat → Int32) × (Nat → Int32) × (Nat → Int32) × (Nat → Int32)) (x1 : Int32) (x2 : Int32) : Option ((Int32 ⊕ Nat) × (Unit)) := ((p_X12_needDoor gg gvn gdn x1).bind fun v1 => xb v1.1 (fun _r => ((p_X12_needWhat x2 (1 : Int32)).bind fun v3 => xb v3.1 (fun _r => ((p_X12_fewestToVoid gg gvn gdn x1).bind fun v5 => (if x2 = (0 : Int32) then p_X12_voids_25 gg gvn gdn v5 else (if v5 = (-1 : Int32) then p_X12_voids_25 gg gvn gdn v5 else ((p_X9_ownersWith gvn v5).bind fun v9 => some (Sum.inl v9, ())))))) (fun k => some (Sum.inr k, ())))) (fun k => some (Sum.inr k, ())))
set_option maxHeartbeats 1000000 in
set_option maxRecDepth 100000 in
theorem c_X12_voids (l : Launch) (dC : Nat → ClassId) (dI : Nat → Nat → Nat) (cy : Nat → ClassId) (z : Nat → Nat) (hl9 : l.stackTraces = false) (a0 : Nat → Nat) (gg : Int32 × Int32 × Int32 × Int32 × Int32 × Int32) (gvn : Int32 × Int32 × (Nat → Int32) × (Nat → Int32) × (Nat → Int32) × (Nat → Int32) × (Nat → Int32)) (gdn : Int32 × Int32 × (Nat → Int32) × (Nat → Int32) × (Nat → Int32) × (Nat → Int32)) (x1 : Int32) (x2 : Int32) (sz : Nat) (R0 : (Int32 ⊕ Nat) × (Unit)) (h : p_X12_voids gg gvn gdn x1 x2 = some R0) : vx_Met l yX12_voids wsX12_voids rm_X12_voids (va_Pc [.ref (a0 0), .int x1, .int x2] (prS dC dI cy z (w_X12_voids cy a0 gg gvn gdn) sz)) (va_Qi (fun (r : Int32) (u : Unit) => Sum.inl r = R0.1 ∧ u = R0.2) (fun (_ : Unit) t => poC dC dI cy (w_X12_voids cy a0 gg gvn gdn) t) (va_A (w_X12_voids cy a0 gg gvn gdn) sz)) (vx_X (fun (u : Unit) => u = R0.2) (fun E (_ : Unit) t => exE E R0.1 ∧ poC dC dI cy (w_X12_voids cy a0 gg gvn gdn) t) (va_A (w_X12_voids cy a0 gg gvn gdn) sz)) 2 12 (va_A (w_X12_voids cy a0 gg gvn gdn) sz) := by
  refine vx_ofW (cc := cX12_voids) (maxL := 4) (ret := (some .int)) (by decide) rfl ?_
  intro p e s m aa below meth c s₁ B hml htab hv
  obtain ⟨haa, ⟨hsz, hP, hK, hD0⟩, hX⟩ := hv
  have hx := B.exec
  have hb := B.bytes
  have hr := B.returns
  have hts := atoms_spec (ws := wsX12_voids) B.pre
  have hown : s.vm.findClass RX12 = some m.cls := findClass_of_methodNamed B.named
  have hlocks := B.notSynchronized
  subst hsz
  have hD := hD0.self (sz := s.heap.size)
  obtain ⟨qq, hqq⟩ : ∃ qq, qq = (va_Qi (fun (r : Int32) (u : Unit) => Sum.inl r = R0.1 ∧ u = R0.2) (fun (_ : Unit) t => poC dC dI cy (w_X12_voids cy a0 gg gvn gdn) t) (va_A (w_X12_voids cy a0 gg gvn gdn) s.heap.size)) := ⟨_, rfl⟩
  obtain ⟨xx, hxx⟩ : ∃ xx, xx = (vx_X (fun (u : Unit) => u = R0.2) (fun E (_ : Unit) t => exE E R0.1 ∧ poC dC dI cy (w_X12_voids cy a0 gg gvn gdn) t) (va_A (w_X12_voids cy a0 gg gvn gdn) s.heap.size)) := ⟨_, rfl⟩
  rw [← hqq, ← hxx]
  generalize hAe : va_A (w_X12_voids cy a0 gg gvn gdn) s.heap.size = A at hD hqq hxx hX ⊢
  have hA : ∀ q : Nat, s.heap.size ≤ q → A q := fun q h => by rw [← hAe]; exact Or.inr h
  have hS : va_S A s.heap s.heap [] := va_S.rf
  have hl := lv_entry ([.ref (a0 0), .int x1, .int x2]) (n := 4) (Nat.le_of_ble_eq_true rfl)
  have hE : entryFrame m aa 4 = F0 m 0 ((lg_sl ([.ref (a0 0), .int x1, .int x2]) ++ List.replicate (4 - (lg_sl ([.ref (a0 0), .int x1, .int x2])).length) Slot.unset).toArray) [] := by rw [haa]; exact lg_entry_eq m _ 4
  refine W.eq hE ?_
  generalize (lg_sl ([.ref (a0 0), .int x1, .int x2]) ++ List.replicate (4 - (lg_sl ([.ref (a0 0), .int x1, .int x2])).length) Slot.unset).toArray = ls at hl ⊢
  have hl : lv_has ls 4 [(0, .ref (a0 0)), (1, .int x1), (2, .int x2)] := hl
  change W p l e rm_X12_voids s m aa below meth c s.heap [] 0 0 (vx_MQ below qq xx aa s 2 12 A) (F0 m 0 ls [])
  have hS0 := hS
  have lk0 := hts (.fieldLink RX12 20 "GoatDoors" "now" "LGoatDoors$Village;") (by decide +kernel)
  have in_X12 : ∀ w ∈ wsX120, w ∈ wsX12_voids := by decide +kernel
  have c25 : ∀ (_u : Unit), ∀ (x3 : Int32) (H : Heap) (locs : List Loc) (ls : Array Slot), p_X12_voids_25 gg gvn gdn x3 = some R0 → va_P (dC, dI) vwCl (w_X12_voids cy a0 gg gvn gdn) H → va_D A (w_X12_voids cy a0 gg gvn gdn) → va_S A s.heap H locs → lv_has ls 4 [(3, .int x3)] → W p l e rm_X12_voids s m aa below meth c H locs 2 12 (vx_MQ below qq xx aa s 2 12 A) (F0 m 25 ls []) := by
    intro _ x3 H locs ls h hP hD hS hl
    unfold p_X12_voids_25 at h
    refine lv_iload_n hx hb dX12_voids_25 rfl (lv_at hl 0 rfl) ?_
    refine lv_goto (tgt := 37) hx hb dX12_voids_26 (by decide) ?_
    refine vx_ret ?_
    exact W.iret (v := x3) hx hb hr (fun t ht hW => by rw [hqq]; have hh := Option.some.inj h; exact ⟨⟨x3, (()), rfl, ⟨fst_of hh, snd_of hh⟩, by rw [ht]; exact hP, va_K.moved hW.alike hK⟩, hS.F ht⟩) hS.2.2 dX12_voids_37
  obtain ⟨H, hH⟩ : ∃ H : Heap, H = s.heap := ⟨_, rfl⟩
  obtain ⟨locs, hlocs⟩ : ∃ locs : List Loc, locs = [] := ⟨_, rfl⟩
  have hS : va_S A s.heap H locs := by rw [hH, hlocs]; exact hS
  rw [← hH] at hP
  suffices hg : W p l e rm_X12_voids s m aa below meth c H locs 0 0 (vx_MQ below qq xx aa s 2 12 A) (F0 m 0 ls []) by subst hH; subst hlocs; exact hg
  unfold p_X12_voids at h
  refine lv_aload_n hx hb dX12_voids_0 rfl (lv_at hl 0 rfl) ?_
  refine lv_iload_n hx hb dX12_voids_1 rfl (lv_at hl 1 rfl) ?_
  obtain ⟨v1, hv2, h⟩ := ok_bind h
  refine cx_vv (w2 := fun (_ : Unit) => w_X12_voids cy a0 gg gvn gdn) (w2x := fun (_ : Unit) => w_X12_voids cy a0 gg gvn gdn) (As := [.int x1]) (rest := []) ⟨hx, hb, hml, hown, hts⟩ (c_X12_needDoor l dC dI cy z hl9 a0 gg gvn gdn x1 H.size v1 hv2) (cwV 1 hts gX12_voids_X12_needDoor rfl rfl rfl (by decide +kernel) ⟨Nat.le_of_ble_eq_true rfl, Nat.le_of_ble_eq_true rfl⟩) (va_recv hK hP (ci := 10) (q0 := 0) rfl rfl) cl_blindS (cl_preS hK hP hD hS hA hX [0, 1, 2, 3, 4, 5, 6, 7, 8, 9, 10, 11] (by decide) rfl) hP hD hS hA [0, 1, 2, 3, 4, 5, 6, 7, 8, 9, 10, 11] rfl rfl hl.1 rfl (lv_room (Nat.le_of_ble_eq_true rfl)) dX12_voids_2 ⟨Nat.le_of_ble_eq_true rfl, Nat.le_of_ble_eq_true rfl⟩ (cells' := 1) (slots' := 6) ⟨rfl, rfl⟩ (fun _ => updR [0, 1, 2, 3, 4, 5, 6, 7, 8, 9, 10, 11] rfl) (fun _ => updR [0, 1, 2, 3, 4, 5, 6, 7, 8, 9, 10, 11] rfl) (fun E ce q9 u H locs hw hE hP hD hS hc1 hc2 hc3 => ?_) (fun u H locs hw hP hD hS => ?_)
  · subst hw
    have hP : va_P (dC, dI) vwCl (w_X12_voids cy a0 gg gvn gdn) H := hP
    obtain ⟨hE1, hE2⟩ := exE_pass hE h
    exact vx_out (fun x9 hx9 => (htab x9 hx9).elim) hlocks hc1 hc2 hc3 (fun t h1 h2 => by rw [hxx]; exact ⟨_, hE2.symm, ⟨hE1, by rw [h1]; exact hP, va_K.moved h2 hK⟩, hS.F h1⟩) hS.2.2 (by decide) (by decide)
  obtain ⟨hw1, hw2⟩ := hw
  subst hw2
  rw [← hw1] at h
  dsimp only [xb] at h
  have hP : va_P (dC, dI) vwCl (w_X12_voids cy a0 gg gvn gdn) H := hP
  have hD : va_D A (w_X12_voids cy a0 gg gvn gdn) := hD
  refine lv_iload_n hx hb dX12_voids_5 rfl (lv_at hl 2 rfl) ?_
  refine lv_iconst (v := (1 : Int32)) hx hb dX12_voids_6 (by decide) ?_
  obtain ⟨v3, hv4, h⟩ := ok_bind h
  refine cx_sv (w2 := fun (_ : Unit) => w_X12_voids cy a0 gg gvn gdn) (w2x := fun (_ : Unit) => w_X12_voids cy a0 gg gvn gdn) (As := [.int x2, .int (1 : Int32)]) (rest := []) ⟨hx, hb, hml, hown, hts⟩ (c_X12_needWhat l dC dI cy z hl9  x2 (1 : Int32) H.size v3 hv4) (va_cwS 2 hts gX12_voids_X12_needWhat rfl rfl rfl (by decide +kernel) ⟨Nat.le_of_ble_eq_true rfl, Nat.le_of_ble_eq_true rfl⟩) cl_blindS (cl_preS hK hP hD hS hA hX [] (by decide) rfl) hP hD hS hA [] rfl rfl hl.1 rfl (lv_room (Nat.le_of_ble_eq_true rfl)) dX12_voids_7 ⟨Nat.le_of_ble_eq_true rfl, Nat.le_of_ble_eq_true rfl⟩ (cells' := 2) (slots' := 12) ⟨rfl, rfl⟩ (fun _ => updR [] rfl) (fun _ => updR [] rfl) (fun E ce q9 u H locs hw hE hP hD hS hc1 hc2 hc3 => ?_) (fun u H locs hw hP hD hS => ?_)
  · subst hw
    have hP : va_P (dC, dI) vwCl (w_X12_voids cy a0 gg gvn gdn) H := hP
    obtain ⟨hE1, hE2⟩ := exE_pass hE h
    exact vx_out (fun x9 hx9 => (htab x9 hx9).elim) hlocks hc1 hc2 hc3 (fun t h1 h2 => by rw [hxx]; exact ⟨_, hE2.symm, ⟨hE1, by rw [h1]; exact hP, va_K.moved h2 hK⟩, hS.F h1⟩) hS.2.2 (by decide) (by decide)
  obtain ⟨hw1, hw2⟩ := hw
  subst hw2
  rw [← hw1] at h
  dsimp only [xb] at h
  have hP : va_P (dC, dI) vwCl (w_X12_voids cy a0 gg gvn gdn) H := hP
  have hD : va_D A (w_X12_voids cy a0 gg gvn gdn) := hD
  refine lv_aload_n hx hb dX12_voids_10 rfl (lv_at hl 0 rfl) ?_
  refine lv_iload_n hx hb dX12_voids_11 rfl (lv_at hl 1 rfl) ?_
  obtain ⟨v5, hv6, h⟩ := ok_bind h
  refine cl_vi (w2 := fun (_ : Unit) => w_X12_voids cy a0 gg gvn gdn) (As := [.int x1]) (rest := []) ⟨hx, hb, hml, hown, hts⟩ (c_X12_fewestToVoid l dC dI cy a0 gg gvn gdn x1 H.size v5 hv6) (cwV 1 hts gX12_voids_X12_fewestToVoid rfl rfl rfl (by decide +kernel) ⟨Nat.le_of_ble_eq_true rfl, Nat.le_of_ble_eq_true rfl⟩) (va_recv hK hP (ci := 10) (q0 := 0) rfl rfl) cl_blind (cl_pre hK hP hD [0, 1, 2, 3, 4, 5, 6, 7, 8, 9, 10, 11] (by decide) rfl) hP hD hS hA [0, 1, 2, 3, 4, 5, 6, 7, 8, 9, 10, 11] rfl rfl hl.1 rfl (lv_room (Nat.le_of_ble_eq_true rfl)) dX12_voids_12 ⟨Nat.le_of_ble_eq_true rfl, Nat.le_of_ble_eq_true rfl⟩ ⟨rfl, rfl⟩ (fun _ => updR [0, 1, 2, 3, 4, 5, 6, 7, 8, 9, 10, 11] rfl) (fun r u H locs hw hP hD hS => ?_)
  have hw := hw.symm
  subst hw
  have hP : va_P (dC, dI) vwCl (w_X12_voids cy a0 gg gvn gdn) H := hP
  have hD : va_D A (w_X12_voids cy a0 gg gvn gdn) := hD
  refine lv_istore_n (lv' := [(3, .int v5), (0, .ref (a0 0)), (1, .int x1), (2, .int x2)]) hx hb dX12_voids_15 rfl hl (by decide) rfl (fun ls hl => ?_)
  refine lv_iload_n hx hb dX12_voids_16 rfl (lv_at hl 3 rfl) ?_
  refine lv_if_eq (tgt := 25) hx hb dX12_voids_17 (by decide) (fun c7 => ?_) (fun c7 => ?_)
  · rw [if_pos c7] at h
    exact c25 () v5 H locs ls h hP hD hS (lv_sub hl [0] rfl)
  · rw [if_neg c7] at h
    refine lv_iload_n hx hb dX12_voids_20 rfl (lv_at hl 0 rfl) ?_
    refine lv_iconst (v := (-1 : Int32)) hx hb dX12_voids_21 (by decide) ?_
    refine lv_icmp_ne (tgt := 29) hx hb dX12_voids_22 (by decide) (fun c8 => ?_) (fun c8 => ?_)
    · rw [if_neg c8] at h
      refine lv_aload_n hx hb dX12_voids_29 rfl (lv_at hl 1 rfl) ?_
      refine va_get (D := (dC, dI)) (ci := 10) (v := .ref (a0 2)) (C := RX12) (T := TX12) (N := 17) hx hb hts in_X12 hown hK hP 0 rfl rfl 6 (by decide) lk0 (fun _ h9 => h9) rfl dX12_voids_30 ?_
      refine lv_iload_n hx hb dX12_voids_33 rfl (lv_at hl 0 rfl) ?_
      obtain ⟨v9, hv10, h⟩ := ok_bind h
      refine cl_vi (w2 := fun (_ : Unit) => w_X12_voids cy a0 gg gvn gdn) (As := [.int v5]) (rest := []) ⟨hx, hb, hml, hown, hts⟩ (c_X9_ownersWith l dC dI cy (fun k => a0 (k + 2)) gvn v5 H.size v9 hv10) (cwV 1 hts gX12_voids_X9_ownersWith rfl rfl rfl (by decide +kernel) ⟨Nat.le_of_ble_eq_true rfl, Nat.le_of_ble_eq_true rfl⟩) (va_recv hK hP (ci := 7) (q0 := 1) rfl rfl) cl_blind (cl_pre hK hP hD [1, 7, 8, 9, 10, 11] (by decide) rfl) hP hD hS hA [1, 7, 8, 9, 10, 11] rfl rfl hl.1 rfl (lv_room (Nat.le_of_ble_eq_true rfl)) dX12_voids_34 ⟨Nat.le_of_ble_eq_true rfl, Nat.le_of_ble_eq_true rfl⟩ ⟨rfl, rfl⟩ (fun _ => updR [1, 7, 8, 9, 10, 11] rfl) (fun r u H locs hw hP hD hS => ?_)
      have hw := hw.symm
      subst hw
      have hP : va_P (dC, dI) vwCl (w_X12_voids cy a0 gg gvn gdn) H := hP
      have hD : va_D A (w_X12_voids cy a0 gg gvn gdn) := hD
      refine vx_ret ?_
      exact W.iret (v := v9) hx hb hr (fun t ht hW => by rw [hqq]; have hh := Option.some.inj h; exact ⟨⟨v9, (()), rfl, ⟨fst_of hh, snd_of hh⟩, by rw [ht]; exact hP, va_K.moved hW.alike hK⟩, hS.F ht⟩) hS.2.2 dX12_voids_37
    · rw [if_pos c8] at h
      exact c25 () v5 H locs ls h hP hD hS (lv_sub hl [0] rfl)

abbrev w_X12_needTenths (cy : Nat → ClassId)   : va_W := []
abbrev rm_X12_needTenths : Room := { frames := 6, cells := 1, slots := 6, locals := 90 }
def p_X12_needTenths  (x0 : Int32) (x1 : Int32) : Option ((Unit ⊕ Nat) × (Unit)) := (if x0 < (0 : Int32) then some (Sum.inr 2, ()) else (if (10 : Int32) < x0 then some (Sum.inr 2, ()) else (if x1 < (0 : Int32) then some (Sum.inr 2, ()) else (if (10 : Int32) < x1 then some (Sum.inr 2, ()) else (if (x0 + x1) ≤ (10 : Int32) then some (Sum.inl (), ()) else some (Sum.inr 2, ()))))))
set_option maxHeartbeats 1000000 in
set_option maxRecDepth 100000 in
theorem c_X12_needTenths (l : Launch) (dC : Nat → ClassId) (dI : Nat → Nat → Nat) (cy : Nat → ClassId) (z : Nat → Nat) (hl9 : l.stackTraces = false)   (x0 : Int32) (x1 : Int32) (sz : Nat) (R0 : (Unit ⊕ Nat) × (Unit)) (h : p_X12_needTenths x0 x1 = some R0) : vx_Met l yX12_needTenths wsX12_needTenths rm_X12_needTenths (va_Pc [.int x0, .int x1] (prS dC dI cy z (w_X12_needTenths cy  ) sz)) (va_Qv (fun (u : Unit) => Sum.inl () = R0.1 ∧ u = R0.2) (fun (_ : Unit) t => poC dC dI cy (w_X12_needTenths cy  ) t) (va_A (w_X12_needTenths cy  ) sz)) (vx_X (fun (u : Unit) => u = R0.2) (fun E (_ : Unit) t => exE E R0.1 ∧ poC dC dI cy (w_X12_needTenths cy  ) t) (va_A (w_X12_needTenths cy  ) sz)) 1 6 (va_A (w_X12_needTenths cy  ) sz) := by
  refine vx_ofW (cc := cX12_needTenths) (maxL := 2) (ret := none) (by decide) rfl ?_
  intro p e s m aa below meth c s₁ B hml htab hv
  obtain ⟨haa, ⟨hsz, hP, hK, hD0⟩, hX⟩ := hv
  have hx := B.exec
  have hb := B.bytes
  have hr := B.returns
  have hts := atoms_spec (ws := wsX12_needTenths) B.pre
  have hown : s.vm.findClass RX12 = some m.cls := findClass_of_methodNamed B.named
  have hlocks := B.notSynchronized
  subst hsz
  have hD := hD0.self (sz := s.heap.size)
  obtain ⟨qq, hqq⟩ : ∃ qq, qq = (va_Qv (fun (u : Unit) => Sum.inl () = R0.1 ∧ u = R0.2) (fun (_ : Unit) t => poC dC dI cy (w_X12_needTenths cy  ) t) (va_A (w_X12_needTenths cy  ) s.heap.size)) := ⟨_, rfl⟩
  obtain ⟨xx, hxx⟩ : ∃ xx, xx = (vx_X (fun (u : Unit) => u = R0.2) (fun E (_ : Unit) t => exE E R0.1 ∧ poC dC dI cy (w_X12_needTenths cy  ) t) (va_A (w_X12_needTenths cy  ) s.heap.size)) := ⟨_, rfl⟩
  rw [← hqq, ← hxx]
  generalize hAe : va_A (w_X12_needTenths cy  ) s.heap.size = A at hD hqq hxx hX ⊢
  have hA : ∀ q : Nat, s.heap.size ≤ q → A q := fun q h => by rw [← hAe]; exact Or.inr h
  have hS : va_S A s.heap s.heap [] := va_S.rf
  have hl := lv_entry ([.int x0, .int x1]) (n := 2) (Nat.le_of_ble_eq_true rfl)
  have hE : entryFrame m aa 2 = F0 m 0 ((lg_sl ([.int x0, .int x1]) ++ List.replicate (2 - (lg_sl ([.int x0, .int x1])).length) Slot.unset).toArray) [] := by rw [haa]; exact lg_entry_eq m _ 2
  refine W.eq hE ?_
  generalize (lg_sl ([.int x0, .int x1]) ++ List.replicate (2 - (lg_sl ([.int x0, .int x1])).length) Slot.unset).toArray = ls at hl ⊢
  have hl : lv_has ls 2 [(0, .int x0), (1, .int x1)] := hl
  change W p l e rm_X12_needTenths s m aa below meth c s.heap [] 0 0 (vx_MQ below qq xx aa s 1 6 A) (F0 m 0 ls [])
  have hS0 := hS
  have lk0 := hts (.classLink RX12 252 "java/lang/IllegalArgumentException") (by decide +kernel)
  have lk1 := hts (.initialized "java/lang/IllegalArgumentException") (by decide +kernel)
  have gd256 : ∀ w ∈ (vx_atS RX12 256 "java/lang/IllegalArgumentException" ["java/lang/RuntimeException", "java/lang/Exception"]).filter goodWord, w.before aa s = true := fun w hw => hts w ((show ∀ w ∈ (vx_atS RX12 256 "java/lang/IllegalArgumentException" ["java/lang/RuntimeException", "java/lang/Exception"]).filter goodWord, w ∈ wsX12_needTenths by decide +kernel) w hw)
  obtain ⟨H, hH⟩ : ∃ H : Heap, H = s.heap := ⟨_, rfl⟩
  obtain ⟨locs, hlocs⟩ : ∃ locs : List Loc, locs = [] := ⟨_, rfl⟩
  have hS : va_S A s.heap H locs := by rw [hH, hlocs]; exact hS
  rw [← hH] at hP
  suffices hg : W p l e rm_X12_needTenths s m aa below meth c H locs 0 0 (vx_MQ below qq xx aa s 1 6 A) (F0 m 0 ls []) by subst hH; subst hlocs; exact hg
  unfold p_X12_needTenths at h
  refine lv_iload_n hx hb dX12_needTenths_0 rfl (lv_at hl 0 rfl) ?_
  refine lv_if_lt (tgt := 28) hx hb dX12_needTenths_1 (by decide) (fun c1 => ?_) (fun c1 => ?_)
  · rw [if_pos c1] at h
    refine vx_throwSW (XC := xx) (text := "no such tenths") (names := ["java/lang/RuntimeException", "java/lang/Exception"]) hx hb hl9 hown (by decide) (by decide) lk0 lk1 (hX.tx 371 "no such tenths" (by decide)) (ex_at256 gd256 hX) (by decide +kernel) hX.us hX.ss hS (by rw [hml]; exact hl.1) dX12_needTenths_28 dX12_needTenths_31 dX12_needTenths_32 dX12_needTenths_35 dX12_needTenths_38 (fun x9 hx9 => (htab x9 hx9).elim) (Nat.le_of_ble_eq_true rfl) (Nat.le_of_ble_eq_true rfl) (Nat.le_of_ble_eq_true rfl) (Nat.le_of_ble_eq_true rfl) hlocks (fun t h1 h2 h3 => by rw [hxx]; have hh := Option.some.inj h; exact ⟨(()), snd_of hh, ⟨exE_2 (fst_of hh).symm, ex_po hP hK h1 h3⟩, ex_F hS h2 h3⟩) hS.2.2 (by decide) (by decide)
  · rw [if_neg c1] at h
    refine lv_iload_n hx hb dX12_needTenths_4 rfl (lv_at hl 0 rfl) ?_
    refine lv_bipush (v := (10 : Int32)) hx hb dX12_needTenths_5 (by decide) ?_
    refine lv_icmp_gt (tgt := 28) hx hb dX12_needTenths_7 (by decide) (fun c2 => ?_) (fun c2 => ?_)
    · rw [if_pos c2] at h
      refine vx_throwSW (XC := xx) (text := "no such tenths") (names := ["java/lang/RuntimeException", "java/lang/Exception"]) hx hb hl9 hown (by decide) (by decide) lk0 lk1 (hX.tx 371 "no such tenths" (by decide)) (ex_at256 gd256 hX) (by decide +kernel) hX.us hX.ss hS (by rw [hml]; exact hl.1) dX12_needTenths_28 dX12_needTenths_31 dX12_needTenths_32 dX12_needTenths_35 dX12_needTenths_38 (fun x9 hx9 => (htab x9 hx9).elim) (Nat.le_of_ble_eq_true rfl) (Nat.le_of_ble_eq_true rfl) (Nat.le_of_ble_eq_true rfl) (Nat.le_of_ble_eq_true rfl) hlocks (fun t h1 h2 h3 => by rw [hxx]; have hh := Option.some.inj h; exact ⟨(()), snd_of hh, ⟨exE_2 (fst_of hh).symm, ex_po hP hK h1 h3⟩, ex_F hS h2 h3⟩) hS.2.2 (by decide) (by decide)
    · rw [if_neg c2] at h
      refine lv_iload_n hx hb dX12_needTenths_10 rfl (lv_at hl 1 rfl) ?_
      refine lv_if_lt (tgt := 28) hx hb dX12_needTenths_11 (by decide) (fun c3 => ?_) (fun c3 => ?_)
      · rw [if_pos c3] at h
        refine vx_throwSW (XC := xx) (text := "no such tenths") (names := ["java/lang/RuntimeException", "java/lang/Exception"]) hx hb hl9 hown (by decide) (by decide) lk0 lk1 (hX.tx 371 "no such tenths" (by decide)) (ex_at256 gd256 hX) (by decide +kernel) hX.us hX.ss hS (by rw [hml]; exact hl.1) dX12_needTenths_28 dX12_needTenths_31 dX12_needTenths_32 dX12_needTenths_35 dX12_needTenths_38 (fun x9 hx9 => (htab x9 hx9).elim) (Nat.le_of_ble_eq_true rfl) (Nat.le_of_ble_eq_true rfl) (Nat.le_of_ble_eq_true rfl) (Nat.le_of_ble_eq_true rfl) hlocks (fun t h1 h2 h3 => by rw [hxx]; have hh := Option.some.inj h; exact ⟨(()), snd_of hh, ⟨exE_2 (fst_of hh).symm, ex_po hP hK h1 h3⟩, ex_F hS h2 h3⟩) hS.2.2 (by decide) (by decide)
      · rw [if_neg c3] at h
        refine lv_iload_n hx hb dX12_needTenths_14 rfl (lv_at hl 1 rfl) ?_
        refine lv_bipush (v := (10 : Int32)) hx hb dX12_needTenths_15 (by decide) ?_
        refine lv_icmp_gt (tgt := 28) hx hb dX12_needTenths_17 (by decide) (fun c4 => ?_) (fun c4 => ?_)
        · rw [if_pos c4] at h
          refine vx_throwSW (XC := xx) (text := "no such tenths") (names := ["java/lang/RuntimeException", "java/lang/Exception"]) hx hb hl9 hown (by decide) (by decide) lk0 lk1 (hX.tx 371 "no such tenths" (by decide)) (ex_at256 gd256 hX) (by decide +kernel) hX.us hX.ss hS (by rw [hml]; exact hl.1) dX12_needTenths_28 dX12_needTenths_31 dX12_needTenths_32 dX12_needTenths_35 dX12_needTenths_38 (fun x9 hx9 => (htab x9 hx9).elim) (Nat.le_of_ble_eq_true rfl) (Nat.le_of_ble_eq_true rfl) (Nat.le_of_ble_eq_true rfl) (Nat.le_of_ble_eq_true rfl) hlocks (fun t h1 h2 h3 => by rw [hxx]; have hh := Option.some.inj h; exact ⟨(()), snd_of hh, ⟨exE_2 (fst_of hh).symm, ex_po hP hK h1 h3⟩, ex_F hS h2 h3⟩) hS.2.2 (by decide) (by decide)
        · rw [if_neg c4] at h
          refine lv_iload_n hx hb dX12_needTenths_20 rfl (lv_at hl 0 rfl) ?_
          refine lv_iload_n hx hb dX12_needTenths_21 rfl (lv_at hl 1 rfl) ?_
          refine lv_iadd hx hb dX12_needTenths_22 ?_
          refine lv_bipush (v := (10 : Int32)) hx hb dX12_needTenths_23 (by decide) ?_
          refine lv_icmp_le (tgt := 39) hx hb dX12_needTenths_25 (by decide) (fun c5 => ?_) (fun c5 => ?_)
          · rw [if_pos c5] at h
            refine vx_ret ?_
            refine W.widen (k := 1) (n := 6) (by decide) (by decide) ?_
            exact W.vret hx hb hr (fun t ht hW => by rw [hqq]; have hh := Option.some.inj h; exact ⟨⟨(()), rfl, ⟨fst_of hh, snd_of hh⟩, by rw [ht]; exact hP, va_K.moved hW.alike hK⟩, hS.F ht⟩) hS.2.2 dX12_needTenths_39
          · rw [if_neg c5] at h
            refine vx_throwSW (XC := xx) (text := "no such tenths") (names := ["java/lang/RuntimeException", "java/lang/Exception"]) hx hb hl9 hown (by decide) (by decide) lk0 lk1 (hX.tx 371 "no such tenths" (by decide)) (ex_at256 gd256 hX) (by decide +kernel) hX.us hX.ss hS (by rw [hml]; exact hl.1) dX12_needTenths_28 dX12_needTenths_31 dX12_needTenths_32 dX12_needTenths_35 dX12_needTenths_38 (fun x9 hx9 => (htab x9 hx9).elim) (Nat.le_of_ble_eq_true rfl) (Nat.le_of_ble_eq_true rfl) (Nat.le_of_ble_eq_true rfl) (Nat.le_of_ble_eq_true rfl) hlocks (fun t h1 h2 h3 => by rw [hxx]; have hh := Option.some.inj h; exact ⟨(()), snd_of hh, ⟨exE_2 (fst_of hh).symm, ex_po hP hK h1 h3⟩, ex_F hS h2 h3⟩) hS.2.2 (by decide) (by decide)

abbrev w_X12_mean (cy : Nat → ClassId) (a0 : Nat → Nat) (gg : Int32 × Int32 × Int32 × Int32 × Int32 × Int32) (gvn : Int32 × Int32 × (Nat → Int32) × (Nat → Int32) × (Nat → Int32) × (Nat → Int32) × (Nat → Int32)) (gdn : Int32 × Int32 × (Nat → Int32) × (Nat → Int32) × (Nat → Int32) × (Nat → Int32)) (gwa : (Nat → Int64) × Int64) : va_W := [(a0 0, .inr (10, [.ref (a0 1), .int (gg.1), .int (gg.2.1), .int (gg.2.2.1), .int (gg.2.2.2.1), .int (gg.2.2.2.2.1), .ref (a0 2), .ref (a0 17), .ref (a0 32), .int (gg.2.2.2.2.2), .ref (a0 47), .ref (a0 48), .ref (a0 49), .ref (a0 50), .ref (a0 68), .ref (a0 78), .ref (a0 80)])), (a0 2, .inr (7, [.int (gvn.1), .int (gvn.2.1), .ref (a0 3), .ref (a0 8), .ref (a0 12), .ref (a0 13), .ref (a0 14), .ref (a0 15), .ref (a0 16)])), (a0 3, .inr (2, [.int (gdn.1), .int (gdn.2.1), .ref (a0 4), .ref (a0 5), .ref (a0 6), .ref (a0 7)])), (a0 4, .inl (cy 1, 10, .inl (gdn.2.2.1))), (a0 5, .inl (cy 1, 10, .inl (gdn.2.2.2.1))), (a0 6, .inl (cy 1, 10, .inl (gdn.2.2.2.2.1))), (a0 7, .inl (cy 1, 50, .inl (gdn.2.2.2.2.2))), (a0 12, .inl (cy 1, 5, .inl (gvn.2.2.1))), (a0 13, .inl (cy 1, 5, .inl (gvn.2.2.2.1))), (a0 14, .inl (cy 1, 5, .inl (gvn.2.2.2.2.1))), (a0 15, .inl (cy 1, 5, .inl (gvn.2.2.2.2.2.1))), (a0 16, .inl (cy 1, 5, .inl (gvn.2.2.2.2.2.2))), (a0 80, .inr (9, [.ref (a0 81), .long (gwa.2)])), (a0 81, .inl (cy 2, 49, .inr (.inl (gwa.1))))]
abbrev rm_X12_mean : Room := { frames := 7, cells := 3, slots := 18, locals := 118 }
def p_X12_mean_49 (gg : Int32 × Int32 × Int32 × Int32 × Int32 × Int32) (gvn : Int32 × Int32 × (Nat → Int32) × (Nat → Int32) × (Nat → Int32) × (Nat → Int32) × (Nat → Int32)) (gdn : Int32 × Int32 × (Nat → Int32) × (Nat → Int32) × (Nat → Int32) × (Nat → Int32)) : Nat → ((Nat → Int64) × Int64) → Int32 → Int32 → Int32 → Int32 → Int32 → Option ((Int32 ⊕ Nat) × (((Nat → Int64) × Int64)))
  | 0, _, _, _, _, _, _ => none
  | n + 1, gwa, x1, x2, x3, x4, x5 => (if x2 ≤ x5 then ((p_X11_meanOf gwa gdn x1).bind fun v2 => some (Sum.inl v2.toInt32, gwa)) else ((p_X11_step gwa x3 x4).bind fun v4 => p_X12_mean_49 gg gvn gdn n v4 x1 x2 x3 x4 (x5 + (1 : Int32))))
def p_X12_mean (gg : Int32 × Int32 × Int32 × Int32 × Int32 × Int32) (gvn : Int32 × Int32 × (Nat → Int32) × (Nat → Int32) × (Nat → Int32) × (Nat → Int32) × (Nat → Int32)) (gdn : Int32 × Int32 × (Nat → Int32) × (Nat → Int32) × (Nat → Int32) × (Nat → Int32)) (gwa : (Nat → Int64) × Int64) (x1 : Int32) (x2 : Int32) (x3 : Int32) (x4 : Int32) : Option ((Int32 ⊕ Nat) × (((Nat → Int64) × Int64))) := ((p_X12_needDoor gg gvn gdn x1).bind fun v1 => xb v1.1 (fun _r => ((p_X12_needTenths x3 x4).bind fun v3 => xb v3.1 (fun _r => (if x2 < (0 : Int32) then some (Sum.inr 2, gwa) else (if x2 ≤ (8 : Int32) then ((p_X11_begin gwa gvn.2.1).bind fun v7 => p_X12_mean_49 gg gvn gdn fu v7 x1 x2 x3 x4 (0 : Int32)) else some (Sum.inr 2, gwa)))) (fun k => some (Sum.inr k, gwa)))) (fun k => some (Sum.inr k, gwa)))
set_option maxHeartbeats 1000000 in
set_option maxRecDepth 100000 in
theorem c_X12_mean (l : Launch) (dC : Nat → ClassId) (dI : Nat → Nat → Nat) (cy : Nat → ClassId) (z : Nat → Nat) (hl9 : l.stackTraces = false) (a0 : Nat → Nat) (gg : Int32 × Int32 × Int32 × Int32 × Int32 × Int32) (gvn : Int32 × Int32 × (Nat → Int32) × (Nat → Int32) × (Nat → Int32) × (Nat → Int32) × (Nat → Int32)) (gdn : Int32 × Int32 × (Nat → Int32) × (Nat → Int32) × (Nat → Int32) × (Nat → Int32)) (gwa : (Nat → Int64) × Int64) (x1 : Int32) (x2 : Int32) (x3 : Int32) (x4 : Int32) (sz : Nat) (R0 : (Int32 ⊕ Nat) × (((Nat → Int64) × Int64))) (h : p_X12_mean gg gvn gdn gwa x1 x2 x3 x4 = some R0) : vx_Met l yX12_mean wsX12_mean rm_X12_mean (va_Pc [.ref (a0 0), .int x1, .int x2, .int x3, .int x4] (prS dC dI cy z (w_X12_mean cy a0 gg gvn gdn gwa) sz)) (va_Qi (fun (r : Int32) (u : ((Nat → Int64) × Int64)) => Sum.inl r = R0.1 ∧ u = R0.2) (fun (u : ((Nat → Int64) × Int64)) t => poC dC dI cy (w_X12_mean cy a0 gg gvn gdn u) t) (va_A (w_X12_mean cy a0 gg gvn gdn gwa) sz)) (vx_X (fun (u : ((Nat → Int64) × Int64)) => u = R0.2) (fun E (u : ((Nat → Int64) × Int64)) t => exE E R0.1 ∧ poC dC dI cy (w_X12_mean cy a0 gg gvn gdn u) t) (va_A (w_X12_mean cy a0 gg gvn gdn gwa) sz)) 3 18 (va_A (w_X12_mean cy a0 gg gvn gdn gwa) sz) := by
  refine vx_ofW (cc := cX12_mean) (maxL := 6) (ret := (some .int)) (by decide) rfl ?_
  intro p e s m aa below meth c s₁ B hml htab hv
  obtain ⟨haa, ⟨hsz, hP, hK, hD0⟩, hX⟩ := hv
  have hx := B.exec
  have hb := B.bytes
  have hr := B.returns
  have hts := atoms_spec (ws := wsX12_mean) B.pre
  have hown : s.vm.findClass RX12 = some m.cls := findClass_of_methodNamed B.named
  have hlocks := B.notSynchronized
  subst hsz
  have hD := hD0.self (sz := s.heap.size)
  obtain ⟨qq, hqq⟩ : ∃ qq, qq = (va_Qi (fun (r : Int32) (u : ((Nat → Int64) × Int64)) => Sum.inl r = R0.1 ∧ u = R0.2) (fun (u : ((Nat → Int64) × Int64)) t => poC dC dI cy (w_X12_mean cy a0 gg gvn gdn u) t) (va_A (w_X12_mean cy a0 gg gvn gdn gwa) s.heap.size)) := ⟨_, rfl⟩
  obtain ⟨xx, hxx⟩ : ∃ xx, xx = (vx_X (fun (u : ((Nat → Int64) × Int64)) => u = R0.2) (fun E (u : ((Nat → Int64) × Int64)) t => exE E R0.1 ∧ poC dC dI cy (w_X12_mean cy a0 gg gvn gdn u) t) (va_A (w_X12_mean cy a0 gg gvn gdn gwa) s.heap.size)) := ⟨_, rfl⟩
  rw [← hqq, ← hxx]
  generalize hAe : va_A (w_X12_mean cy a0 gg gvn gdn gwa) s.heap.size = A at hD hqq hxx hX ⊢
  have hA : ∀ q : Nat, s.heap.size ≤ q → A q := fun q h => by rw [← hAe]; exact Or.inr h
  have hS : va_S A s.heap s.heap [] := va_S.rf
  have hl := lv_entry ([.ref (a0 0), .int x1, .int x2, .int x3, .int x4]) (n := 6) (Nat.le_of_ble_eq_true rfl)
  have hE : entryFrame m aa 6 = F0 m 0 ((lg_sl ([.ref (a0 0), .int x1, .int x2, .int x3, .int x4]) ++ List.replicate (6 - (lg_sl ([.ref (a0 0), .int x1, .int x2, .int x3, .int x4])).length) Slot.unset).toArray) [] := by rw [haa]; exact lg_entry_eq m _ 6
  refine W.eq hE ?_
  generalize (lg_sl ([.ref (a0 0), .int x1, .int x2, .int x3, .int x4]) ++ List.replicate (6 - (lg_sl ([.ref (a0 0), .int x1, .int x2, .int x3, .int x4])).length) Slot.unset).toArray = ls at hl ⊢
  have hl : lv_has ls 6 [(0, .ref (a0 0)), (1, .int x1), (2, .int x2), (3, .int x3), (4, .int x4)] := hl
  change W p l e rm_X12_mean s m aa below meth c s.heap [] 0 0 (vx_MQ below qq xx aa s 3 18 A) (F0 m 0 ls [])
  have hS0 := hS
  have lk0 := hts (.fieldLink RX12 79 "GoatDoors" "walk" "LGoatDoors$Walk;") (by decide +kernel)
  have lk1 := hts (.fieldLink RX12 20 "GoatDoors" "now" "LGoatDoors$Village;") (by decide +kernel)
  have lk2 := hts (.fieldLink RX12 130 "GoatDoors$Village" "doors" "LGoatDoors$Doors;") (by decide +kernel)
  have lk3 := hts (.classLink RX12 252 "java/lang/IllegalArgumentException") (by decide +kernel)
  have lk4 := hts (.initialized "java/lang/IllegalArgumentException") (by decide +kernel)
  have lk5 := hts (.fieldLink RX12 142 "GoatDoors$Village" "base" "I") (by decide +kernel)
  have in_X12 : ∀ w ∈ wsX120, w ∈ wsX12_mean := by decide +kernel
  have in_X9 : ∀ w ∈ wsX90, w ∈ wsX12_mean := by decide +kernel
  have gd256 : ∀ w ∈ (vx_atS RX12 256 "java/lang/IllegalArgumentException" ["java/lang/RuntimeException", "java/lang/Exception"]).filter goodWord, w.before aa s = true := fun w hw => hts w ((show ∀ w ∈ (vx_atS RX12 256 "java/lang/IllegalArgumentException" ["java/lang/RuntimeException", "java/lang/Exception"]).filter goodWord, w ∈ wsX12_mean by decide +kernel) w hw)
  have c49 : ∀ (n : Nat), ∀ (gwa : (Nat → Int64) × Int64) (x1 : Int32) (x2 : Int32) (x3 : Int32) (x4 : Int32) (x5 : Int32) (H : Heap) (locs : List Loc) (ls : Array Slot), p_X12_mean_49 gg gvn gdn n gwa x1 x2 x3 x4 x5 = some R0 → va_P (dC, dI) vwCl (w_X12_mean cy a0 gg gvn gdn gwa) H → va_D A (w_X12_mean cy a0 gg gvn gdn gwa) → va_S A s.heap H locs → lv_has ls 6 [(0, .ref (a0 0)), (1, .int x1), (2, .int x2), (3, .int x3), (4, .int x4), (5, .int x5)] → W p l e rm_X12_mean s m aa below meth c H locs 2 12 (vx_MQ below qq xx aa s 3 18 A) (F0 m 49 ls []) := by
    intro  n
    induction n with
    | zero => intro gwa x1 x2 x3 x4 x5 H locs ls h; exact no_some h
    | succ n ih =>
      intro gwa x1 x2 x3 x4 x5 H locs ls h hP hD hS hl
      rw [p_X12_mean_49.eq_2] at h
      refine lv_iload hx hb dX12_mean_49 (lv_at hl 5 rfl) ?_
      refine lv_iload_n hx hb dX12_mean_51 rfl (lv_at hl 2 rfl) ?_
      refine lv_icmp_ge (tgt := 71) hx hb dX12_mean_52 (by decide) (fun c1 => ?_) (fun c1 => ?_)
      · rw [if_pos c1] at h
        refine lv_aload_n hx hb dX12_mean_71 rfl (lv_at hl 0 rfl) ?_
        refine va_get (D := (dC, dI)) (ci := 10) (v := .ref (a0 80)) (C := RX12) (T := TX12) (N := 17) hx hb hts in_X12 hown hK hP 0 rfl rfl 16 (by decide) lk0 (fun _ h9 => h9) rfl dX12_mean_72 ?_
        refine lv_aload_n hx hb dX12_mean_75 rfl (lv_at hl 0 rfl) ?_
        refine va_get (D := (dC, dI)) (ci := 10) (v := .ref (a0 2)) (C := RX12) (T := TX12) (N := 17) hx hb hts in_X12 hown hK hP 0 rfl rfl 6 (by decide) lk1 (fun _ h9 => h9) rfl dX12_mean_76 ?_
        refine va_get (D := (dC, dI)) (ci := 7) (v := .ref (a0 3)) (C := RX9) (T := TX9) (N := 9) hx hb hts in_X9 hown hK hP 1 rfl rfl 2 (by decide) lk2 (fun _ h9 => h9) rfl dX12_mean_79 ?_
        refine lv_iload_n hx hb dX12_mean_82 rfl (lv_at hl 1 rfl) ?_
        obtain ⟨v2, hv3, h⟩ := ok_bind h
        refine cl_vl (w2 := fun (_ : Unit) => w_X12_mean cy a0 gg gvn gdn gwa) (As := [.ref (a0 3), .int x1]) (rest := []) ⟨hx, hb, hml, hown, hts⟩ (c_X11_meanOf l dC dI cy (fun k => a0 (k + 80)) (fun k => a0 (k + 3)) gwa gdn x1 H.size v2 hv3) (cwV 2 hts gX12_mean_X11_meanOf rfl rfl rfl (by decide +kernel) ⟨Nat.le_of_ble_eq_true rfl, Nat.le_of_ble_eq_true rfl⟩) (va_recv hK hP (ci := 9) (q0 := 12) rfl rfl) cl_blind (cl_pre hK hP hD [12, 13, 2, 3, 4, 5, 6] (by decide) rfl) hP hD hS hA [12, 13, 2, 3, 4, 5, 6] rfl rfl hl.1 rfl (lv_room (Nat.le_of_ble_eq_true rfl)) dX12_mean_83 ⟨Nat.le_of_ble_eq_true rfl, Nat.le_of_ble_eq_true rfl⟩ ⟨rfl, rfl⟩ (fun _ => updR [12, 13, 2, 3, 4, 5, 6] rfl) (fun r u H locs hw hP hD hS => ?_)
        have hw := hw.symm
        subst hw
        have hP : va_P (dC, dI) vwCl (w_X12_mean cy a0 gg gvn gdn gwa) H := hP
        have hD : va_D A (w_X12_mean cy a0 gg gvn gdn gwa) := hD
        refine lv_l2i hx hb dX12_mean_86 rfl ?_
        refine vx_ret ?_
        refine W.widen (k := 3) (n := 18) (by decide) (by decide) ?_
        exact W.iret (v := v2.toInt32) hx hb hr (fun t ht hW => by rw [hqq]; have hh := Option.some.inj h; exact ⟨⟨v2.toInt32, (gwa), rfl, ⟨fst_of hh, snd_of hh⟩, by rw [ht]; exact hP, va_K.moved hW.alike hK⟩, hS.F ht⟩) hS.2.2 dX12_mean_87
      · rw [if_neg c1] at h
        refine lv_aload_n hx hb dX12_mean_55 rfl (lv_at hl 0 rfl) ?_
        refine va_get (D := (dC, dI)) (ci := 10) (v := .ref (a0 80)) (C := RX12) (T := TX12) (N := 17) hx hb hts in_X12 hown hK hP 0 rfl rfl 16 (by decide) lk0 (fun _ h9 => h9) rfl dX12_mean_56 ?_
        refine lv_iload_n hx hb dX12_mean_59 rfl (lv_at hl 3 rfl) ?_
        refine lv_iload hx hb dX12_mean_60 (lv_at hl 4 rfl) ?_
        obtain ⟨v4, hv5, h⟩ := ok_bind h
        refine cl_vv (w2 := fun (u : ((Nat → Int64) × Int64)) => w_X12_mean cy a0 gg gvn gdn u) (As := [.int x3, .int x4]) (rest := []) ⟨hx, hb, hml, hown, hts⟩ (c_X11_step l dC dI cy (fun k => a0 (k + 80)) gwa x3 x4 H.size v4 hv5) (cwV 2 hts gX12_mean_X11_step rfl rfl rfl (by decide +kernel) ⟨Nat.le_of_ble_eq_true rfl, Nat.le_of_ble_eq_true rfl⟩) (va_recv hK hP (ci := 9) (q0 := 12) rfl rfl) cl_blind (cl_pre hK hP hD [12, 13] (by decide) rfl) hP hD hS hA [12, 13] rfl rfl hl.1 rfl (lv_room (Nat.le_of_ble_eq_true rfl)) dX12_mean_62 ⟨Nat.le_of_ble_eq_true rfl, Nat.le_of_ble_eq_true rfl⟩ ⟨rfl, rfl⟩ (fun _ => updM [12, 13] [0, 1, 2, 3, 4, 5, 6, 7, 8, 9, 10, 11] 14 rfl rfl rfl rfl (by decide +kernel) (by decide +kernel) rfl) (fun u H locs hw hP hD hS => ?_)
        have hw := hw.symm
        subst hw
        have hP : va_P (dC, dI) vwCl (w_X12_mean cy a0 gg gvn gdn v4) H := hP
        have hD : va_D A (w_X12_mean cy a0 gg gvn gdn v4) := hD
        refine lv_iinc (v := (x5 + (1 : Int32))) (lv' := [(5, .int (x5 + (1 : Int32))), (0, .ref (a0 0)), (1, .int x1), (2, .int x2), (3, .int x3), (4, .int x4)]) hx hb dX12_mean_65 hl (k := 5) rfl rfl (by decide) rfl (fun ls hl => ?_)
        refine lv_goto (tgt := 49) hx hb dX12_mean_68 (by decide) ?_
        exact ih v4 x1 x2 x3 x4 (x5 + (1 : Int32)) H locs ls h hP hD hS (lv_sub hl [1, 2, 3, 4, 5, 0] rfl)
  obtain ⟨H, hH⟩ : ∃ H : Heap, H = s.heap := ⟨_, rfl⟩
  obtain ⟨locs, hlocs⟩ : ∃ locs : List Loc, locs = [] := ⟨_, rfl⟩
  have hS : va_S A s.heap H locs := by rw [hH, hlocs]; exact hS
  rw [← hH] at hP
  suffices hg : W p l e rm_X12_mean s m aa below meth c H locs 0 0 (vx_MQ below qq xx aa s 3 18 A) (F0 m 0 ls []) by subst hH; subst hlocs; exact hg
  unfold p_X12_mean at h
  refine lv_aload_n hx hb dX12_mean_0 rfl (lv_at hl 0 rfl) ?_
  refine lv_iload_n hx hb dX12_mean_1 rfl (lv_at hl 1 rfl) ?_
  obtain ⟨v1, hv2, h⟩ := ok_bind h
  refine cx_vv (w2 := fun (_ : Unit) => w_X12_mean cy a0 gg gvn gdn gwa) (w2x := fun (_ : Unit) => w_X12_mean cy a0 gg gvn gdn gwa) (As := [.int x1]) (rest := []) ⟨hx, hb, hml, hown, hts⟩ (c_X12_needDoor l dC dI cy z hl9 a0 gg gvn gdn x1 H.size v1 hv2) (cwV 1 hts gX12_mean_X12_needDoor rfl rfl rfl (by decide +kernel) ⟨Nat.le_of_ble_eq_true rfl, Nat.le_of_ble_eq_true rfl⟩) (va_recv hK hP (ci := 10) (q0 := 0) rfl rfl) cl_blindS (cl_preS hK hP hD hS hA hX [0, 1, 2, 3, 4, 5, 6, 7, 8, 9, 10, 11] (by decide) rfl) hP hD hS hA [0, 1, 2, 3, 4, 5, 6, 7, 8, 9, 10, 11] rfl rfl hl.1 rfl (lv_room (Nat.le_of_ble_eq_true rfl)) dX12_mean_2 ⟨Nat.le_of_ble_eq_true rfl, Nat.le_of_ble_eq_true rfl⟩ (cells' := 1) (slots' := 6) ⟨rfl, rfl⟩ (fun _ => updR [0, 1, 2, 3, 4, 5, 6, 7, 8, 9, 10, 11] rfl) (fun _ => updR [0, 1, 2, 3, 4, 5, 6, 7, 8, 9, 10, 11] rfl) (fun E ce q9 u H locs hw hE hP hD hS hc1 hc2 hc3 => ?_) (fun u H locs hw hP hD hS => ?_)
  · subst hw
    have hP : va_P (dC, dI) vwCl (w_X12_mean cy a0 gg gvn gdn gwa) H := hP
    obtain ⟨hE1, hE2⟩ := exE_pass hE h
    exact vx_out (fun x9 hx9 => (htab x9 hx9).elim) hlocks hc1 hc2 hc3 (fun t h1 h2 => by rw [hxx]; exact ⟨_, hE2.symm, ⟨hE1, by rw [h1]; exact hP, va_K.moved h2 hK⟩, hS.F h1⟩) hS.2.2 (by decide) (by decide)
  obtain ⟨hw1, hw2⟩ := hw
  subst hw2
  rw [← hw1] at h
  dsimp only [xb] at h
  have hP : va_P (dC, dI) vwCl (w_X12_mean cy a0 gg gvn gdn gwa) H := hP
  have hD : va_D A (w_X12_mean cy a0 gg gvn gdn gwa) := hD
  refine lv_iload_n hx hb dX12_mean_5 rfl (lv_at hl 3 rfl) ?_
  refine lv_iload hx hb dX12_mean_6 (lv_at hl 4 rfl) ?_
  obtain ⟨v3, hv4, h⟩ := ok_bind h
  refine cx_sv (w2 := fun (_ : Unit) => w_X12_mean cy a0 gg gvn gdn gwa) (w2x := fun (_ : Unit) => w_X12_mean cy a0 gg gvn gdn gwa) (As := [.int x3, .int x4]) (rest := []) ⟨hx, hb, hml, hown, hts⟩ (c_X12_needTenths l dC dI cy z hl9  x3 x4 H.size v3 hv4) (va_cwS 2 hts gX12_mean_X12_needTenths rfl rfl rfl (by decide +kernel) ⟨Nat.le_of_ble_eq_true rfl, Nat.le_of_ble_eq_true rfl⟩) cl_blindS (cl_preS hK hP hD hS hA hX [] (by decide) rfl) hP hD hS hA [] rfl rfl hl.1 rfl (lv_room (Nat.le_of_ble_eq_true rfl)) dX12_mean_8 ⟨Nat.le_of_ble_eq_true rfl, Nat.le_of_ble_eq_true rfl⟩ (cells' := 2) (slots' := 12) ⟨rfl, rfl⟩ (fun _ => updR [] rfl) (fun _ => updR [] rfl) (fun E ce q9 u H locs hw hE hP hD hS hc1 hc2 hc3 => ?_) (fun u H locs hw hP hD hS => ?_)
  · subst hw
    have hP : va_P (dC, dI) vwCl (w_X12_mean cy a0 gg gvn gdn gwa) H := hP
    obtain ⟨hE1, hE2⟩ := exE_pass hE h
    exact vx_out (fun x9 hx9 => (htab x9 hx9).elim) hlocks hc1 hc2 hc3 (fun t h1 h2 => by rw [hxx]; exact ⟨_, hE2.symm, ⟨hE1, by rw [h1]; exact hP, va_K.moved h2 hK⟩, hS.F h1⟩) hS.2.2 (by decide) (by decide)
  obtain ⟨hw1, hw2⟩ := hw
  subst hw2
  rw [← hw1] at h
  dsimp only [xb] at h
  have hP : va_P (dC, dI) vwCl (w_X12_mean cy a0 gg gvn gdn gwa) H := hP
  have hD : va_D A (w_X12_mean cy a0 gg gvn gdn gwa) := hD
  refine lv_iload_n hx hb dX12_mean_11 rfl (lv_at hl 2 rfl) ?_
  refine lv_if_lt (tgt := 21) hx hb dX12_mean_12 (by decide) (fun c5 => ?_) (fun c5 => ?_)
  · rw [if_pos c5] at h
    refine vx_throwSW (XC := xx) (text := "no such day") (names := ["java/lang/RuntimeException", "java/lang/Exception"]) hx hb hl9 hown (by decide) (by decide) lk3 lk4 (hX.tx 327 "no such day" (by decide)) (ex_at256 gd256 hX) (by decide +kernel) hX.us hX.ss hS (by rw [hml]; exact hl.1) dX12_mean_21 dX12_mean_24 dX12_mean_25 dX12_mean_28 dX12_mean_31 (fun x9 hx9 => (htab x9 hx9).elim) (Nat.le_of_ble_eq_true rfl) (Nat.le_of_ble_eq_true rfl) (Nat.le_of_ble_eq_true rfl) (Nat.le_of_ble_eq_true rfl) hlocks (fun t h1 h2 h3 => by rw [hxx]; have hh := Option.some.inj h; exact ⟨(gwa), snd_of hh, ⟨exE_2 (fst_of hh).symm, ex_po hP hK h1 h3⟩, ex_F hS h2 h3⟩) hS.2.2 (by decide) (by decide)
  · rw [if_neg c5] at h
    refine lv_iload_n hx hb dX12_mean_15 rfl (lv_at hl 2 rfl) ?_
    refine lv_bipush (v := (8 : Int32)) hx hb dX12_mean_16 (by decide) ?_
    refine lv_icmp_le (tgt := 32) hx hb dX12_mean_18 (by decide) (fun c6 => ?_) (fun c6 => ?_)
    · rw [if_pos c6] at h
      refine lv_aload_n hx hb dX12_mean_32 rfl (lv_at hl 0 rfl) ?_
      refine va_get (D := (dC, dI)) (ci := 10) (v := .ref (a0 80)) (C := RX12) (T := TX12) (N := 17) hx hb hts in_X12 hown hK hP 0 rfl rfl 16 (by decide) lk0 (fun _ h9 => h9) rfl dX12_mean_33 ?_
      refine lv_aload_n hx hb dX12_mean_36 rfl (lv_at hl 0 rfl) ?_
      refine va_get (D := (dC, dI)) (ci := 10) (v := .ref (a0 2)) (C := RX12) (T := TX12) (N := 17) hx hb hts in_X12 hown hK hP 0 rfl rfl 6 (by decide) lk1 (fun _ h9 => h9) rfl dX12_mean_37 ?_
      refine va_get (D := (dC, dI)) (ci := 7) (v := .int gvn.2.1) (C := RX9) (T := TX9) (N := 9) hx hb hts in_X9 hown hK hP 1 rfl rfl 1 (by decide) lk5 (fun _ h9 => h9) rfl dX12_mean_40 ?_
      obtain ⟨v7, hv8, h⟩ := ok_bind h
      refine cl_vv (w2 := fun (u : ((Nat → Int64) × Int64)) => w_X12_mean cy a0 gg gvn gdn u) (As := [.int gvn.2.1]) (rest := []) ⟨hx, hb, hml, hown, hts⟩ (c_X11_begin l dC dI cy (fun k => a0 (k + 80)) gwa gvn.2.1 H.size v7 hv8) (cwV 1 hts gX12_mean_X11_begin rfl rfl rfl (by decide +kernel) ⟨Nat.le_of_ble_eq_true rfl, Nat.le_of_ble_eq_true rfl⟩) (va_recv hK hP (ci := 9) (q0 := 12) rfl rfl) cl_blind (cl_pre hK hP hD [12, 13] (by decide) rfl) hP hD hS hA [12, 13] rfl rfl hl.1 rfl (lv_room (Nat.le_of_ble_eq_true rfl)) dX12_mean_43 ⟨Nat.le_of_ble_eq_true rfl, Nat.le_of_ble_eq_true rfl⟩ ⟨rfl, rfl⟩ (fun _ => updM [12, 13] [0, 1, 2, 3, 4, 5, 6, 7, 8, 9, 10, 11] 14 rfl rfl rfl rfl (by decide +kernel) (by decide +kernel) rfl) (fun u H locs hw hP hD hS => ?_)
      have hw := hw.symm
      subst hw
      have hP : va_P (dC, dI) vwCl (w_X12_mean cy a0 gg gvn gdn v7) H := hP
      have hD : va_D A (w_X12_mean cy a0 gg gvn gdn v7) := hD
      refine lv_iconst (v := (0 : Int32)) hx hb dX12_mean_46 (by decide) ?_
      refine lv_istore (lv' := [(5, .int (0 : Int32)), (0, .ref (a0 0)), (1, .int x1), (2, .int x2), (3, .int x3), (4, .int x4)]) hx hb dX12_mean_47 hl (by decide) rfl (fun ls hl => ?_)
      exact c49 fu v7 x1 x2 x3 x4 (0 : Int32) H locs ls h hP hD hS (lv_sub hl [1, 2, 3, 4, 5, 0] rfl)
    · rw [if_neg c6] at h
      refine vx_throwSW (XC := xx) (text := "no such day") (names := ["java/lang/RuntimeException", "java/lang/Exception"]) hx hb hl9 hown (by decide) (by decide) lk3 lk4 (hX.tx 327 "no such day" (by decide)) (ex_at256 gd256 hX) (by decide +kernel) hX.us hX.ss hS (by rw [hml]; exact hl.1) dX12_mean_21 dX12_mean_24 dX12_mean_25 dX12_mean_28 dX12_mean_31 (fun x9 hx9 => (htab x9 hx9).elim) (Nat.le_of_ble_eq_true rfl) (Nat.le_of_ble_eq_true rfl) (Nat.le_of_ble_eq_true rfl) (Nat.le_of_ble_eq_true rfl) hlocks (fun t h1 h2 h3 => by rw [hxx]; have hh := Option.some.inj h; exact ⟨(gwa), snd_of hh, ⟨exE_2 (fst_of hh).symm, ex_po hP hK h1 h3⟩, ex_F hS h2 h3⟩) hS.2.2 (by decide) (by decide)

abbrev w_X12_pay (cy : Nat → ClassId) (a0 : Nat → Nat) (gg : Int32 × Int32 × Int32 × Int32 × Int32 × Int32) (gvn : Int32 × Int32 × (Nat → Int32) × (Nat → Int32) × (Nat → Int32) × (Nat → Int32) × (Nat → Int32)) (gdn : Int32 × Int32 × (Nat → Int32) × (Nat → Int32) × (Nat → Int32) × (Nat → Int32)) (gwa : (Nat → Int64) × Int64) : va_W := [(a0 0, .inr (10, [.ref (a0 1), .int (gg.1), .int (gg.2.1), .int (gg.2.2.1), .int (gg.2.2.2.1), .int (gg.2.2.2.2.1), .ref (a0 2), .ref (a0 17), .ref (a0 32), .int (gg.2.2.2.2.2), .ref (a0 47), .ref (a0 48), .ref (a0 49), .ref (a0 50), .ref (a0 68), .ref (a0 78), .ref (a0 80)])), (a0 2, .inr (7, [.int (gvn.1), .int (gvn.2.1), .ref (a0 3), .ref (a0 8), .ref (a0 12), .ref (a0 13), .ref (a0 14), .ref (a0 15), .ref (a0 16)])), (a0 3, .inr (2, [.int (gdn.1), .int (gdn.2.1), .ref (a0 4), .ref (a0 5), .ref (a0 6), .ref (a0 7)])), (a0 4, .inl (cy 1, 10, .inl (gdn.2.2.1))), (a0 5, .inl (cy 1, 10, .inl (gdn.2.2.2.1))), (a0 6, .inl (cy 1, 10, .inl (gdn.2.2.2.2.1))), (a0 7, .inl (cy 1, 50, .inl (gdn.2.2.2.2.2))), (a0 12, .inl (cy 1, 5, .inl (gvn.2.2.1))), (a0 13, .inl (cy 1, 5, .inl (gvn.2.2.2.1))), (a0 14, .inl (cy 1, 5, .inl (gvn.2.2.2.2.1))), (a0 15, .inl (cy 1, 5, .inl (gvn.2.2.2.2.2.1))), (a0 16, .inl (cy 1, 5, .inl (gvn.2.2.2.2.2.2))), (a0 80, .inr (9, [.ref (a0 81), .long (gwa.2)])), (a0 81, .inl (cy 2, 49, .inr (.inl (gwa.1))))]
abbrev rm_X12_pay : Room := { frames := 7, cells := 2, slots := 12, locals := 118 }
def p_X12_pay_96 (k47 : ((Nat → Int64) × Int64) → Int32 → Int32 → Int32 → Int32 → Int64 → Int32 → Option ((Int32 ⊕ Nat) × (((Nat → Int64) × Int64)))) (gg : Int32 × Int32 × Int32 × Int32 × Int32 × Int32) (gvn : Int32 × Int32 × (Nat → Int32) × (Nat → Int32) × (Nat → Int32) × (Nat → Int32) × (Nat → Int32)) (gdn : Int32 × Int32 × (Nat → Int32) × (Nat → Int32) × (Nat → Int32) × (Nat → Int32))  (gwa : (Nat → Int64) × Int64) (x1 : Int32) (x2 : Int32) (x3 : Int32) (x4 : Int32) (x5 : Int64) (x7 : Int32) : Option ((Int32 ⊕ Nat) × (((Nat → Int64) × Int64))) := k47 gwa x1 x2 x3 x4 x5 (x7 + (1 : Int32))
def p_X12_pay_47 (gg : Int32 × Int32 × Int32 × Int32 × Int32 × Int32) (gvn : Int32 × Int32 × (Nat → Int32) × (Nat → Int32) × (Nat → Int32) × (Nat → Int32) × (Nat → Int32)) (gdn : Int32 × Int32 × (Nat → Int32) × (Nat → Int32) × (Nat → Int32) × (Nat → Int32)) : Nat → ((Nat → Int64) × Int64) → Int32 → Int32 → Int32 → Int32 → Int64 → Int32 → Option ((Int32 ⊕ Nat) × (((Nat → Int64) × Int64)))
  | 0, _, _, _, _, _, _, _ => none
  | n + 1, gwa, x1, x2, x3, x4, x5, x7 => (if (8 : Int32) < x7 then some (Sum.inl x4, gwa) else ((p_X11_step gwa x2 x3).bind fun v2 => ((p_X11_meanOf v2 gdn x1).bind fun v4 => (if (0 : Int32) ≤ (lg_cmp v4 x5) then p_X12_pay_96 (p_X12_pay_47 gg gvn gdn n) gg gvn gdn v2 x1 x2 x3 x4 x5 x7 else p_X12_pay_96 (p_X12_pay_47 gg gvn gdn n) gg gvn gdn v2 x1 x2 x3 x7 v4 x7))))
def p_X12_pay (gg : Int32 × Int32 × Int32 × Int32 × Int32 × Int32) (gvn : Int32 × Int32 × (Nat → Int32) × (Nat → Int32) × (Nat → Int32) × (Nat → Int32) × (Nat → Int32)) (gdn : Int32 × Int32 × (Nat → Int32) × (Nat → Int32) × (Nat → Int32) × (Nat → Int32)) (gwa : (Nat → Int64) × Int64) (x1 : Int32) (x2 : Int32) (x3 : Int32) : Option ((Int32 ⊕ Nat) × (((Nat → Int64) × Int64))) := ((p_X12_needDoor gg gvn gdn x1).bind fun v1 => xb v1.1 (fun _r => ((p_X12_needTenths x2 x3).bind fun v3 => xb v3.1 (fun _r => ((p_X11_begin gwa gvn.2.1).bind fun v5 => ((p_X11_meanOf v5 gdn x1).bind fun v7 => p_X12_pay_47 gg gvn gdn fu v5 x1 x2 x3 (0 : Int32) v7 (1 : Int32)))) (fun k => some (Sum.inr k, gwa)))) (fun k => some (Sum.inr k, gwa)))
set_option maxHeartbeats 1000000 in
set_option maxRecDepth 100000 in
theorem c_X12_pay (l : Launch) (dC : Nat → ClassId) (dI : Nat → Nat → Nat) (cy : Nat → ClassId) (z : Nat → Nat) (hl9 : l.stackTraces = false) (a0 : Nat → Nat) (gg : Int32 × Int32 × Int32 × Int32 × Int32 × Int32) (gvn : Int32 × Int32 × (Nat → Int32) × (Nat → Int32) × (Nat → Int32) × (Nat → Int32) × (Nat → Int32)) (gdn : Int32 × Int32 × (Nat → Int32) × (Nat → Int32) × (Nat → Int32) × (Nat → Int32)) (gwa : (Nat → Int64) × Int64) (x1 : Int32) (x2 : Int32) (x3 : Int32) (sz : Nat) (R0 : (Int32 ⊕ Nat) × (((Nat → Int64) × Int64))) (h : p_X12_pay gg gvn gdn gwa x1 x2 x3 = some R0) : vx_Met l yX12_pay wsX12_pay rm_X12_pay (va_Pc [.ref (a0 0), .int x1, .int x2, .int x3] (prS dC dI cy z (w_X12_pay cy a0 gg gvn gdn gwa) sz)) (va_Qi (fun (r : Int32) (u : ((Nat → Int64) × Int64)) => Sum.inl r = R0.1 ∧ u = R0.2) (fun (u : ((Nat → Int64) × Int64)) t => poC dC dI cy (w_X12_pay cy a0 gg gvn gdn u) t) (va_A (w_X12_pay cy a0 gg gvn gdn gwa) sz)) (vx_X (fun (u : ((Nat → Int64) × Int64)) => u = R0.2) (fun E (u : ((Nat → Int64) × Int64)) t => exE E R0.1 ∧ poC dC dI cy (w_X12_pay cy a0 gg gvn gdn u) t) (va_A (w_X12_pay cy a0 gg gvn gdn gwa) sz)) 2 12 (va_A (w_X12_pay cy a0 gg gvn gdn gwa) sz) := by
  refine vx_ofW (cc := cX12_pay) (maxL := 10) (ret := (some .int)) (by decide) rfl ?_
  intro p e s m aa below meth c s₁ B hml htab hv
  obtain ⟨haa, ⟨hsz, hP, hK, hD0⟩, hX⟩ := hv
  have hx := B.exec
  have hb := B.bytes
  have hr := B.returns
  have hts := atoms_spec (ws := wsX12_pay) B.pre
  have hown : s.vm.findClass RX12 = some m.cls := findClass_of_methodNamed B.named
  have hlocks := B.notSynchronized
  subst hsz
  have hD := hD0.self (sz := s.heap.size)
  obtain ⟨qq, hqq⟩ : ∃ qq, qq = (va_Qi (fun (r : Int32) (u : ((Nat → Int64) × Int64)) => Sum.inl r = R0.1 ∧ u = R0.2) (fun (u : ((Nat → Int64) × Int64)) t => poC dC dI cy (w_X12_pay cy a0 gg gvn gdn u) t) (va_A (w_X12_pay cy a0 gg gvn gdn gwa) s.heap.size)) := ⟨_, rfl⟩
  obtain ⟨xx, hxx⟩ : ∃ xx, xx = (vx_X (fun (u : ((Nat → Int64) × Int64)) => u = R0.2) (fun E (u : ((Nat → Int64) × Int64)) t => exE E R0.1 ∧ poC dC dI cy (w_X12_pay cy a0 gg gvn gdn u) t) (va_A (w_X12_pay cy a0 gg gvn gdn gwa) s.heap.size)) := ⟨_, rfl⟩
  rw [← hqq, ← hxx]
  generalize hAe : va_A (w_X12_pay cy a0 gg gvn gdn gwa) s.heap.size = A at hD hqq hxx hX ⊢
  have hA : ∀ q : Nat, s.heap.size ≤ q → A q := fun q h => by rw [← hAe]; exact Or.inr h
  have hS : va_S A s.heap s.heap [] := va_S.rf
  have hl := lv_entry ([.ref (a0 0), .int x1, .int x2, .int x3]) (n := 10) (Nat.le_of_ble_eq_true rfl)
  have hE : entryFrame m aa 10 = F0 m 0 ((lg_sl ([.ref (a0 0), .int x1, .int x2, .int x3]) ++ List.replicate (10 - (lg_sl ([.ref (a0 0), .int x1, .int x2, .int x3])).length) Slot.unset).toArray) [] := by rw [haa]; exact lg_entry_eq m _ 10
  refine W.eq hE ?_
  generalize (lg_sl ([.ref (a0 0), .int x1, .int x2, .int x3]) ++ List.replicate (10 - (lg_sl ([.ref (a0 0), .int x1, .int x2, .int x3])).length) Slot.unset).toArray = ls at hl ⊢
  have hl : lv_has ls 10 [(0, .ref (a0 0)), (1, .int x1), (2, .int x2), (3, .int x3)] := hl
  change W p l e rm_X12_pay s m aa below meth c s.heap [] 0 0 (vx_MQ below qq xx aa s 2 12 A) (F0 m 0 ls [])
  have hS0 := hS
  have lk0 := hts (.fieldLink RX12 79 "GoatDoors" "walk" "LGoatDoors$Walk;") (by decide +kernel)
  have lk1 := hts (.fieldLink RX12 20 "GoatDoors" "now" "LGoatDoors$Village;") (by decide +kernel)
  have lk2 := hts (.fieldLink RX12 130 "GoatDoors$Village" "doors" "LGoatDoors$Doors;") (by decide +kernel)
  have lk3 := hts (.fieldLink RX12 142 "GoatDoors$Village" "base" "I") (by decide +kernel)
  have in_X12 : ∀ w ∈ wsX120, w ∈ wsX12_pay := by decide +kernel
  have in_X9 : ∀ w ∈ wsX90, w ∈ wsX12_pay := by decide +kernel
  have c96 : ∀ (k47 : ((Nat → Int64) × Int64) → Int32 → Int32 → Int32 → Int32 → Int64 → Int32 → Option ((Int32 ⊕ Nat) × (((Nat → Int64) × Int64)))) (hk47 : ∀ (gwa : (Nat → Int64) × Int64) (x1 : Int32) (x2 : Int32) (x3 : Int32) (x4 : Int32) (x5 : Int64) (x7 : Int32) (H : Heap) (locs : List Loc) (ls : Array Slot), k47 gwa x1 x2 x3 x4 x5 x7 = some R0 → va_P (dC, dI) vwCl (w_X12_pay cy a0 gg gvn gdn gwa) H → va_D A (w_X12_pay cy a0 gg gvn gdn gwa) → va_S A s.heap H locs → lv_has ls 10 [(0, .ref (a0 0)), (1, .int x1), (2, .int x2), (3, .int x3), (4, .int x4), (5, .long x5), (7, .int x7)] → W p l e rm_X12_pay s m aa below meth c H locs 2 12 (vx_MQ below qq xx aa s 2 12 A) (F0 m 47 ls [])), ∀ (gwa : (Nat → Int64) × Int64) (x1 : Int32) (x2 : Int32) (x3 : Int32) (x4 : Int32) (x5 : Int64) (x7 : Int32) (H : Heap) (locs : List Loc) (ls : Array Slot), p_X12_pay_96 k47 gg gvn gdn gwa x1 x2 x3 x4 x5 x7 = some R0 → va_P (dC, dI) vwCl (w_X12_pay cy a0 gg gvn gdn gwa) H → va_D A (w_X12_pay cy a0 gg gvn gdn gwa) → va_S A s.heap H locs → lv_has ls 10 [(0, .ref (a0 0)), (1, .int x1), (2, .int x2), (3, .int x3), (4, .int x4), (5, .long x5), (7, .int x7)] → W p l e rm_X12_pay s m aa below meth c H locs 2 12 (vx_MQ below qq xx aa s 2 12 A) (F0 m 96 ls []) := by
    intro k47 hk47 gwa x1 x2 x3 x4 x5 x7 H locs ls h hP hD hS hl
    unfold p_X12_pay_96 at h
    refine lv_iinc (v := (x7 + (1 : Int32))) (lv' := [(7, .int (x7 + (1 : Int32))), (0, .ref (a0 0)), (1, .int x1), (2, .int x2), (3, .int x3), (4, .int x4), (5, .long x5)]) hx hb dX12_pay_96 hl (k := 6) rfl rfl (by decide) rfl (fun ls hl => ?_)
    refine lv_goto (tgt := 47) hx hb dX12_pay_99 (by decide) ?_
    exact hk47 gwa x1 x2 x3 x4 x5 (x7 + (1 : Int32)) H locs ls h hP hD hS (lv_sub hl [1, 2, 3, 4, 5, 6, 0] rfl)
  have c47 : ∀ (n : Nat), ∀ (gwa : (Nat → Int64) × Int64) (x1 : Int32) (x2 : Int32) (x3 : Int32) (x4 : Int32) (x5 : Int64) (x7 : Int32) (H : Heap) (locs : List Loc) (ls : Array Slot), p_X12_pay_47 gg gvn gdn n gwa x1 x2 x3 x4 x5 x7 = some R0 → va_P (dC, dI) vwCl (w_X12_pay cy a0 gg gvn gdn gwa) H → va_D A (w_X12_pay cy a0 gg gvn gdn gwa) → va_S A s.heap H locs → lv_has ls 10 [(0, .ref (a0 0)), (1, .int x1), (2, .int x2), (3, .int x3), (4, .int x4), (5, .long x5), (7, .int x7)] → W p l e rm_X12_pay s m aa below meth c H locs 2 12 (vx_MQ below qq xx aa s 2 12 A) (F0 m 47 ls []) := by
    intro  n
    induction n with
    | zero => intro gwa x1 x2 x3 x4 x5 x7 H locs ls h; exact no_some h
    | succ n ih =>
      intro gwa x1 x2 x3 x4 x5 x7 H locs ls h hP hD hS hl
      rw [p_X12_pay_47.eq_2] at h
      refine lv_iload hx hb dX12_pay_47 (lv_at hl 6 rfl) ?_
      refine lv_bipush (v := (8 : Int32)) hx hb dX12_pay_49 (by decide) ?_
      refine lv_icmp_gt (tgt := 102) hx hb dX12_pay_51 (by decide) (fun c1 => ?_) (fun c1 => ?_)
      · rw [if_pos c1] at h
        refine lv_iload hx hb dX12_pay_102 (lv_at hl 4 rfl) ?_
        refine vx_ret ?_
        exact W.iret (v := x4) hx hb hr (fun t ht hW => by rw [hqq]; have hh := Option.some.inj h; exact ⟨⟨x4, (gwa), rfl, ⟨fst_of hh, snd_of hh⟩, by rw [ht]; exact hP, va_K.moved hW.alike hK⟩, hS.F ht⟩) hS.2.2 dX12_pay_104
      · rw [if_neg c1] at h
        refine lv_aload_n hx hb dX12_pay_54 rfl (lv_at hl 0 rfl) ?_
        refine va_get (D := (dC, dI)) (ci := 10) (v := .ref (a0 80)) (C := RX12) (T := TX12) (N := 17) hx hb hts in_X12 hown hK hP 0 rfl rfl 16 (by decide) lk0 (fun _ h9 => h9) rfl dX12_pay_55 ?_
        refine lv_iload_n hx hb dX12_pay_58 rfl (lv_at hl 2 rfl) ?_
        refine lv_iload_n hx hb dX12_pay_59 rfl (lv_at hl 3 rfl) ?_
        obtain ⟨v2, hv3, h⟩ := ok_bind h
        refine cl_vv (w2 := fun (u : ((Nat → Int64) × Int64)) => w_X12_pay cy a0 gg gvn gdn u) (As := [.int x2, .int x3]) (rest := []) ⟨hx, hb, hml, hown, hts⟩ (c_X11_step l dC dI cy (fun k => a0 (k + 80)) gwa x2 x3 H.size v2 hv3) (cwV 2 hts gX12_pay_X11_step rfl rfl rfl (by decide +kernel) ⟨Nat.le_of_ble_eq_true rfl, Nat.le_of_ble_eq_true rfl⟩) (va_recv hK hP (ci := 9) (q0 := 12) rfl rfl) cl_blind (cl_pre hK hP hD [12, 13] (by decide) rfl) hP hD hS hA [12, 13] rfl rfl hl.1 rfl (lv_room (Nat.le_of_ble_eq_true rfl)) dX12_pay_60 ⟨Nat.le_of_ble_eq_true rfl, Nat.le_of_ble_eq_true rfl⟩ ⟨rfl, rfl⟩ (fun _ => updM [12, 13] [0, 1, 2, 3, 4, 5, 6, 7, 8, 9, 10, 11] 14 rfl rfl rfl rfl (by decide +kernel) (by decide +kernel) rfl) (fun u H locs hw hP hD hS => ?_)
        have hw := hw.symm
        subst hw
        have hP : va_P (dC, dI) vwCl (w_X12_pay cy a0 gg gvn gdn v2) H := hP
        have hD : va_D A (w_X12_pay cy a0 gg gvn gdn v2) := hD
        refine lv_aload_n hx hb dX12_pay_63 rfl (lv_at hl 0 rfl) ?_
        refine va_get (D := (dC, dI)) (ci := 10) (v := .ref (a0 80)) (C := RX12) (T := TX12) (N := 17) hx hb hts in_X12 hown hK hP 0 rfl rfl 16 (by decide) lk0 (fun _ h9 => h9) rfl dX12_pay_64 ?_
        refine lv_aload_n hx hb dX12_pay_67 rfl (lv_at hl 0 rfl) ?_
        refine va_get (D := (dC, dI)) (ci := 10) (v := .ref (a0 2)) (C := RX12) (T := TX12) (N := 17) hx hb hts in_X12 hown hK hP 0 rfl rfl 6 (by decide) lk1 (fun _ h9 => h9) rfl dX12_pay_68 ?_
        refine va_get (D := (dC, dI)) (ci := 7) (v := .ref (a0 3)) (C := RX9) (T := TX9) (N := 9) hx hb hts in_X9 hown hK hP 1 rfl rfl 2 (by decide) lk2 (fun _ h9 => h9) rfl dX12_pay_71 ?_
        refine lv_iload_n hx hb dX12_pay_74 rfl (lv_at hl 1 rfl) ?_
        obtain ⟨v4, hv5, h⟩ := ok_bind h
        refine cl_vl (w2 := fun (_ : Unit) => w_X12_pay cy a0 gg gvn gdn v2) (As := [.ref (a0 3), .int x1]) (rest := []) ⟨hx, hb, hml, hown, hts⟩ (c_X11_meanOf l dC dI cy (fun k => a0 (k + 80)) (fun k => a0 (k + 3)) v2 gdn x1 H.size v4 hv5) (cwV 2 hts gX12_pay_X11_meanOf rfl rfl rfl (by decide +kernel) ⟨Nat.le_of_ble_eq_true rfl, Nat.le_of_ble_eq_true rfl⟩) (va_recv hK hP (ci := 9) (q0 := 12) rfl rfl) cl_blind (cl_pre hK hP hD [12, 13, 2, 3, 4, 5, 6] (by decide) rfl) hP hD hS hA [12, 13, 2, 3, 4, 5, 6] rfl rfl hl.1 rfl (lv_room (Nat.le_of_ble_eq_true rfl)) dX12_pay_75 ⟨Nat.le_of_ble_eq_true rfl, Nat.le_of_ble_eq_true rfl⟩ ⟨rfl, rfl⟩ (fun _ => updR [12, 13, 2, 3, 4, 5, 6] rfl) (fun r u H locs hw hP hD hS => ?_)
        have hw := hw.symm
        subst hw
        have hP : va_P (dC, dI) vwCl (w_X12_pay cy a0 gg gvn gdn v2) H := hP
        have hD : va_D A (w_X12_pay cy a0 gg gvn gdn v2) := hD
        refine lv_lstore (lv' := [(8, .long v4), (0, .ref (a0 0)), (1, .int x1), (2, .int x2), (3, .int x3), (4, .int x4), (5, .long x5), (7, .int x7)]) hx hb dX12_pay_78 hl (by decide) rfl (fun ls hl => ?_)
        refine lv_lload hx hb dX12_pay_80 (lv_at hl 0 rfl) ?_
        refine lv_lload hx hb dX12_pay_82 (lv_at hl 6 rfl) ?_
        refine W.lcmp hx hb dX12_pay_84 ?_
        refine lv_if_ge (tgt := 96) hx hb dX12_pay_85 (by decide) (fun c6 => ?_) (fun c6 => ?_)
        · rw [if_pos c6] at h
          exact c96 (p_X12_pay_47 gg gvn gdn n) ih v2 x1 x2 x3 x4 x5 x7 H locs ls h hP hD hS (lv_sub hl [1, 2, 3, 4, 5, 6, 7] rfl)
        · rw [if_neg c6] at h
          refine lv_lload hx hb dX12_pay_88 (lv_at hl 0 rfl) ?_
          refine lv_lstore (lv' := [(5, .long v4), (8, .long v4), (0, .ref (a0 0)), (1, .int x1), (2, .int x2), (3, .int x3), (4, .int x4), (7, .int x7)]) hx hb dX12_pay_90 hl (by decide) rfl (fun ls hl => ?_)
          refine lv_iload hx hb dX12_pay_92 (lv_at hl 7 rfl) ?_
          refine lv_istore (lv' := [(4, .int x7), (5, .long v4), (8, .long v4), (0, .ref (a0 0)), (1, .int x1), (2, .int x2), (3, .int x3), (7, .int x7)]) hx hb dX12_pay_94 hl (by decide) rfl (fun ls hl => ?_)
          exact c96 (p_X12_pay_47 gg gvn gdn n) ih v2 x1 x2 x3 x7 v4 x7 H locs ls h hP hD hS (lv_sub hl [3, 4, 5, 6, 0, 1, 7] rfl)
  obtain ⟨H, hH⟩ : ∃ H : Heap, H = s.heap := ⟨_, rfl⟩
  obtain ⟨locs, hlocs⟩ : ∃ locs : List Loc, locs = [] := ⟨_, rfl⟩
  have hS : va_S A s.heap H locs := by rw [hH, hlocs]; exact hS
  rw [← hH] at hP
  suffices hg : W p l e rm_X12_pay s m aa below meth c H locs 0 0 (vx_MQ below qq xx aa s 2 12 A) (F0 m 0 ls []) by subst hH; subst hlocs; exact hg
  unfold p_X12_pay at h
  refine lv_aload_n hx hb dX12_pay_0 rfl (lv_at hl 0 rfl) ?_
  refine lv_iload_n hx hb dX12_pay_1 rfl (lv_at hl 1 rfl) ?_
  obtain ⟨v1, hv2, h⟩ := ok_bind h
  refine cx_vv (w2 := fun (_ : Unit) => w_X12_pay cy a0 gg gvn gdn gwa) (w2x := fun (_ : Unit) => w_X12_pay cy a0 gg gvn gdn gwa) (As := [.int x1]) (rest := []) ⟨hx, hb, hml, hown, hts⟩ (c_X12_needDoor l dC dI cy z hl9 a0 gg gvn gdn x1 H.size v1 hv2) (cwV 1 hts gX12_pay_X12_needDoor rfl rfl rfl (by decide +kernel) ⟨Nat.le_of_ble_eq_true rfl, Nat.le_of_ble_eq_true rfl⟩) (va_recv hK hP (ci := 10) (q0 := 0) rfl rfl) cl_blindS (cl_preS hK hP hD hS hA hX [0, 1, 2, 3, 4, 5, 6, 7, 8, 9, 10, 11] (by decide) rfl) hP hD hS hA [0, 1, 2, 3, 4, 5, 6, 7, 8, 9, 10, 11] rfl rfl hl.1 rfl (lv_room (Nat.le_of_ble_eq_true rfl)) dX12_pay_2 ⟨Nat.le_of_ble_eq_true rfl, Nat.le_of_ble_eq_true rfl⟩ (cells' := 1) (slots' := 6) ⟨rfl, rfl⟩ (fun _ => updR [0, 1, 2, 3, 4, 5, 6, 7, 8, 9, 10, 11] rfl) (fun _ => updR [0, 1, 2, 3, 4, 5, 6, 7, 8, 9, 10, 11] rfl) (fun E ce q9 u H locs hw hE hP hD hS hc1 hc2 hc3 => ?_) (fun u H locs hw hP hD hS => ?_)
  · subst hw
    have hP : va_P (dC, dI) vwCl (w_X12_pay cy a0 gg gvn gdn gwa) H := hP
    obtain ⟨hE1, hE2⟩ := exE_pass hE h
    exact vx_out (fun x9 hx9 => (htab x9 hx9).elim) hlocks hc1 hc2 hc3 (fun t h1 h2 => by rw [hxx]; exact ⟨_, hE2.symm, ⟨hE1, by rw [h1]; exact hP, va_K.moved h2 hK⟩, hS.F h1⟩) hS.2.2 (by decide) (by decide)
  obtain ⟨hw1, hw2⟩ := hw
  subst hw2
  rw [← hw1] at h
  dsimp only [xb] at h
  have hP : va_P (dC, dI) vwCl (w_X12_pay cy a0 gg gvn gdn gwa) H := hP
  have hD : va_D A (w_X12_pay cy a0 gg gvn gdn gwa) := hD
  refine lv_iload_n hx hb dX12_pay_5 rfl (lv_at hl 2 rfl) ?_
  refine lv_iload_n hx hb dX12_pay_6 rfl (lv_at hl 3 rfl) ?_
  obtain ⟨v3, hv4, h⟩ := ok_bind h
  refine cx_sv (w2 := fun (_ : Unit) => w_X12_pay cy a0 gg gvn gdn gwa) (w2x := fun (_ : Unit) => w_X12_pay cy a0 gg gvn gdn gwa) (As := [.int x2, .int x3]) (rest := []) ⟨hx, hb, hml, hown, hts⟩ (c_X12_needTenths l dC dI cy z hl9  x2 x3 H.size v3 hv4) (va_cwS 2 hts gX12_pay_X12_needTenths rfl rfl rfl (by decide +kernel) ⟨Nat.le_of_ble_eq_true rfl, Nat.le_of_ble_eq_true rfl⟩) cl_blindS (cl_preS hK hP hD hS hA hX [] (by decide) rfl) hP hD hS hA [] rfl rfl hl.1 rfl (lv_room (Nat.le_of_ble_eq_true rfl)) dX12_pay_7 ⟨Nat.le_of_ble_eq_true rfl, Nat.le_of_ble_eq_true rfl⟩ (cells' := 2) (slots' := 12) ⟨rfl, rfl⟩ (fun _ => updR [] rfl) (fun _ => updR [] rfl) (fun E ce q9 u H locs hw hE hP hD hS hc1 hc2 hc3 => ?_) (fun u H locs hw hP hD hS => ?_)
  · subst hw
    have hP : va_P (dC, dI) vwCl (w_X12_pay cy a0 gg gvn gdn gwa) H := hP
    obtain ⟨hE1, hE2⟩ := exE_pass hE h
    exact vx_out (fun x9 hx9 => (htab x9 hx9).elim) hlocks hc1 hc2 hc3 (fun t h1 h2 => by rw [hxx]; exact ⟨_, hE2.symm, ⟨hE1, by rw [h1]; exact hP, va_K.moved h2 hK⟩, hS.F h1⟩) hS.2.2 (by decide) (by decide)
  obtain ⟨hw1, hw2⟩ := hw
  subst hw2
  rw [← hw1] at h
  dsimp only [xb] at h
  have hP : va_P (dC, dI) vwCl (w_X12_pay cy a0 gg gvn gdn gwa) H := hP
  have hD : va_D A (w_X12_pay cy a0 gg gvn gdn gwa) := hD
  refine lv_aload_n hx hb dX12_pay_10 rfl (lv_at hl 0 rfl) ?_
  refine va_get (D := (dC, dI)) (ci := 10) (v := .ref (a0 80)) (C := RX12) (T := TX12) (N := 17) hx hb hts in_X12 hown hK hP 0 rfl rfl 16 (by decide) lk0 (fun _ h9 => h9) rfl dX12_pay_11 ?_
  refine lv_aload_n hx hb dX12_pay_14 rfl (lv_at hl 0 rfl) ?_
  refine va_get (D := (dC, dI)) (ci := 10) (v := .ref (a0 2)) (C := RX12) (T := TX12) (N := 17) hx hb hts in_X12 hown hK hP 0 rfl rfl 6 (by decide) lk1 (fun _ h9 => h9) rfl dX12_pay_15 ?_
  refine va_get (D := (dC, dI)) (ci := 7) (v := .int gvn.2.1) (C := RX9) (T := TX9) (N := 9) hx hb hts in_X9 hown hK hP 1 rfl rfl 1 (by decide) lk3 (fun _ h9 => h9) rfl dX12_pay_18 ?_
  obtain ⟨v5, hv6, h⟩ := ok_bind h
  refine cl_vv (w2 := fun (u : ((Nat → Int64) × Int64)) => w_X12_pay cy a0 gg gvn gdn u) (As := [.int gvn.2.1]) (rest := []) ⟨hx, hb, hml, hown, hts⟩ (c_X11_begin l dC dI cy (fun k => a0 (k + 80)) gwa gvn.2.1 H.size v5 hv6) (cwV 1 hts gX12_pay_X11_begin rfl rfl rfl (by decide +kernel) ⟨Nat.le_of_ble_eq_true rfl, Nat.le_of_ble_eq_true rfl⟩) (va_recv hK hP (ci := 9) (q0 := 12) rfl rfl) cl_blind (cl_pre hK hP hD [12, 13] (by decide) rfl) hP hD hS hA [12, 13] rfl rfl hl.1 rfl (lv_room (Nat.le_of_ble_eq_true rfl)) dX12_pay_21 ⟨Nat.le_of_ble_eq_true rfl, Nat.le_of_ble_eq_true rfl⟩ ⟨rfl, rfl⟩ (fun _ => updM [12, 13] [0, 1, 2, 3, 4, 5, 6, 7, 8, 9, 10, 11] 14 rfl rfl rfl rfl (by decide +kernel) (by decide +kernel) rfl) (fun u H locs hw hP hD hS => ?_)
  have hw := hw.symm
  subst hw
  have hP : va_P (dC, dI) vwCl (w_X12_pay cy a0 gg gvn gdn v5) H := hP
  have hD : va_D A (w_X12_pay cy a0 gg gvn gdn v5) := hD
  refine lv_iconst (v := (0 : Int32)) hx hb dX12_pay_24 (by decide) ?_
  refine lv_istore (lv' := [(4, .int (0 : Int32)), (0, .ref (a0 0)), (1, .int x1), (2, .int x2), (3, .int x3)]) hx hb dX12_pay_25 hl (by decide) rfl (fun ls hl => ?_)
  refine lv_aload_n hx hb dX12_pay_27 rfl (lv_at hl 1 rfl) ?_
  refine va_get (D := (dC, dI)) (ci := 10) (v := .ref (a0 80)) (C := RX12) (T := TX12) (N := 17) hx hb hts in_X12 hown hK hP 0 rfl rfl 16 (by decide) lk0 (fun _ h9 => h9) rfl dX12_pay_28 ?_
  refine lv_aload_n hx hb dX12_pay_31 rfl (lv_at hl 1 rfl) ?_
  refine va_get (D := (dC, dI)) (ci := 10) (v := .ref (a0 2)) (C := RX12) (T := TX12) (N := 17) hx hb hts in_X12 hown hK hP 0 rfl rfl 6 (by decide) lk1 (fun _ h9 => h9) rfl dX12_pay_32 ?_
  refine va_get (D := (dC, dI)) (ci := 7) (v := .ref (a0 3)) (C := RX9) (T := TX9) (N := 9) hx hb hts in_X9 hown hK hP 1 rfl rfl 2 (by decide) lk2 (fun _ h9 => h9) rfl dX12_pay_35 ?_
  refine lv_iload_n hx hb dX12_pay_38 rfl (lv_at hl 2 rfl) ?_
  obtain ⟨v7, hv8, h⟩ := ok_bind h
  refine cl_vl (w2 := fun (_ : Unit) => w_X12_pay cy a0 gg gvn gdn v5) (As := [.ref (a0 3), .int x1]) (rest := []) ⟨hx, hb, hml, hown, hts⟩ (c_X11_meanOf l dC dI cy (fun k => a0 (k + 80)) (fun k => a0 (k + 3)) v5 gdn x1 H.size v7 hv8) (cwV 2 hts gX12_pay_X11_meanOf rfl rfl rfl (by decide +kernel) ⟨Nat.le_of_ble_eq_true rfl, Nat.le_of_ble_eq_true rfl⟩) (va_recv hK hP (ci := 9) (q0 := 12) rfl rfl) cl_blind (cl_pre hK hP hD [12, 13, 2, 3, 4, 5, 6] (by decide) rfl) hP hD hS hA [12, 13, 2, 3, 4, 5, 6] rfl rfl hl.1 rfl (lv_room (Nat.le_of_ble_eq_true rfl)) dX12_pay_39 ⟨Nat.le_of_ble_eq_true rfl, Nat.le_of_ble_eq_true rfl⟩ ⟨rfl, rfl⟩ (fun _ => updR [12, 13, 2, 3, 4, 5, 6] rfl) (fun r u H locs hw hP hD hS => ?_)
  have hw := hw.symm
  subst hw
  have hP : va_P (dC, dI) vwCl (w_X12_pay cy a0 gg gvn gdn v5) H := hP
  have hD : va_D A (w_X12_pay cy a0 gg gvn gdn v5) := hD
  refine lv_lstore (lv' := [(5, .long v7), (4, .int (0 : Int32)), (0, .ref (a0 0)), (1, .int x1), (2, .int x2), (3, .int x3)]) hx hb dX12_pay_42 hl (by decide) rfl (fun ls hl => ?_)
  refine lv_iconst (v := (1 : Int32)) hx hb dX12_pay_44 (by decide) ?_
  refine lv_istore (lv' := [(7, .int (1 : Int32)), (5, .long v7), (4, .int (0 : Int32)), (0, .ref (a0 0)), (1, .int x1), (2, .int x2), (3, .int x3)]) hx hb dX12_pay_45 hl (by decide) rfl (fun ls hl => ?_)
  exact c47 fu v5 x1 x2 x3 (0 : Int32) v7 (1 : Int32) H locs ls h hP hD hS (lv_sub hl [3, 4, 5, 6, 2, 1, 0] rfl)

abbrev w_X12_trade (cy : Nat → ClassId) (a0 : Nat → Nat) (gg : Int32 × Int32 × Int32 × Int32 × Int32 × Int32) (gvn : Int32 × Int32 × (Nat → Int32) × (Nat → Int32) × (Nat → Int32) × (Nat → Int32) × (Nat → Int32)) (gdn : Int32 × Int32 × (Nat → Int32) × (Nat → Int32) × (Nat → Int32) × (Nat → Int32)) (gne : (Nat → Nat → Int32) × (Nat → Nat → Int64)) : va_W := [(a0 0, .inr (10, [.ref (a0 1), .int (gg.1), .int (gg.2.1), .int (gg.2.2.1), .int (gg.2.2.2.1), .int (gg.2.2.2.2.1), .ref (a0 2), .ref (a0 17), .ref (a0 32), .int (gg.2.2.2.2.2), .ref (a0 47), .ref (a0 48), .ref (a0 49), .ref (a0 50), .ref (a0 68), .ref (a0 78), .ref (a0 80)])), (a0 2, .inr (7, [.int (gvn.1), .int (gvn.2.1), .ref (a0 3), .ref (a0 8), .ref (a0 12), .ref (a0 13), .ref (a0 14), .ref (a0 15), .ref (a0 16)])), (a0 3, .inr (2, [.int (gdn.1), .int (gdn.2.1), .ref (a0 4), .ref (a0 5), .ref (a0 6), .ref (a0 7)])), (a0 4, .inl (cy 1, 10, .inl (gdn.2.2.1))), (a0 5, .inl (cy 1, 10, .inl (gdn.2.2.2.1))), (a0 6, .inl (cy 1, 10, .inl (gdn.2.2.2.2.1))), (a0 7, .inl (cy 1, 50, .inl (gdn.2.2.2.2.2))), (a0 12, .inl (cy 1, 5, .inl (gvn.2.2.1))), (a0 13, .inl (cy 1, 5, .inl (gvn.2.2.2.1))), (a0 14, .inl (cy 1, 5, .inl (gvn.2.2.2.2.1))), (a0 15, .inl (cy 1, 5, .inl (gvn.2.2.2.2.2.1))), (a0 16, .inl (cy 1, 5, .inl (gvn.2.2.2.2.2.2))), (a0 50, .inr (4, [.ref (a0 51), .ref (a0 62)])), (a0 51, .inl (cy 3, 10, .inr (.inr (.inr (.inr (fun i => some (a0 (52 + i)))))))), (a0 52, .inl (cy 1, 41, .inl (gne.1 0))), (a0 53, .inl (cy 1, 41, .inl (gne.1 1))), (a0 54, .inl (cy 1, 41, .inl (gne.1 2))), (a0 55, .inl (cy 1, 41, .inl (gne.1 3))), (a0 56, .inl (cy 1, 41, .inl (gne.1 4))), (a0 57, .inl (cy 1, 41, .inl (gne.1 5))), (a0 58, .inl (cy 1, 41, .inl (gne.1 6))), (a0 59, .inl (cy 1, 41, .inl (gne.1 7))), (a0 60, .inl (cy 1, 41, .inl (gne.1 8))), (a0 61, .inl (cy 1, 41, .inl (gne.1 9))), (a0 62, .inl (cy 4, 5, .inr (.inr (.inr (.inr (fun i => some (a0 (63 + i)))))))), (a0 63, .inl (cy 2, 41, .inr (.inl (gne.2 0)))), (a0 64, .inl (cy 2, 41, .inr (.inl (gne.2 1)))), (a0 65, .inl (cy 2, 41, .inr (.inl (gne.2 2)))), (a0 66, .inl (cy 2, 41, .inr (.inl (gne.2 3)))), (a0 67, .inl (cy 2, 41, .inr (.inl (gne.2 4))))]
abbrev rm_X12_trade : Room := { frames := 7, cells := 2, slots := 12, locals := 116 }
def p_X12_trade_83 (k43 : ((Nat → Nat → Int32) × (Nat → Nat → Int64)) → Int32 → Int32 → Int32 → Int32 → Int32 → Option ((Int32 ⊕ Nat) × (((Nat → Nat → Int32) × (Nat → Nat → Int64))))) (gg : Int32 × Int32 × Int32 × Int32 × Int32 × Int32) (gvn : Int32 × Int32 × (Nat → Int32) × (Nat → Int32) × (Nat → Int32) × (Nat → Int32) × (Nat → Int32)) (gdn : Int32 × Int32 × (Nat → Int32) × (Nat → Int32) × (Nat → Int32) × (Nat → Int32))  (gne : (Nat → Nat → Int32) × (Nat → Nat → Int64)) (x1 : Int32) (x2 : Int32) (x3 : Int32) (x4 : Int32) (x5 : Int32) : Option ((Int32 ⊕ Nat) × (((Nat → Nat → Int32) × (Nat → Nat → Int64)))) := k43 gne x1 x2 x3 x4 (x5 + (1 : Int32))
def p_X12_trade_43 (gg : Int32 × Int32 × Int32 × Int32 × Int32 × Int32) (gvn : Int32 × Int32 × (Nat → Int32) × (Nat → Int32) × (Nat → Int32) × (Nat → Int32) × (Nat → Int32)) (gdn : Int32 × Int32 × (Nat → Int32) × (Nat → Int32) × (Nat → Int32) × (Nat → Int32)) : Nat → ((Nat → Nat → Int32) × (Nat → Nat → Int64)) → Int32 → Int32 → Int32 → Int32 → Int32 → Option ((Int32 ⊕ Nat) × (((Nat → Nat → Int32) × (Nat → Nat → Int64))))
  | 0, _, _, _, _, _, _ => none
  | n + 1, gne, x1, x2, x3, x4, x5 => (if (40 : Int32) < x5 then (if x2 = (0 : Int32) then some (Sum.inl x3, gne) else some (Sum.inl x4, gne)) else ((p_X6_misreadIn gne x5 gvn.2.1 x1).bind fun v3 => (if x4 ≤ v3 then p_X12_trade_83 (p_X12_trade_43 gg gvn gdn n) gg gvn gdn gne x1 x2 x3 x4 x5 else p_X12_trade_83 (p_X12_trade_43 gg gvn gdn n) gg gvn gdn gne x1 x2 x5 v3 x5)))
def p_X12_trade (gg : Int32 × Int32 × Int32 × Int32 × Int32 × Int32) (gvn : Int32 × Int32 × (Nat → Int32) × (Nat → Int32) × (Nat → Int32) × (Nat → Int32) × (Nat → Int32)) (gdn : Int32 × Int32 × (Nat → Int32) × (Nat → Int32) × (Nat → Int32) × (Nat → Int32)) (gne : (Nat → Nat → Int32) × (Nat → Nat → Int64)) (x1 : Int32) (x2 : Int32) : Option ((Int32 ⊕ Nat) × (((Nat → Nat → Int32) × (Nat → Nat → Int64)))) := ((p_X12_needWhat x2 (1 : Int32)).bind fun v1 => xb v1.1 (fun _r => ((p_X12_needBase x1).bind fun v3 => xb v3.1 (fun _r => ((p_X6_fill gne gvn gdn).bind fun v5 => ((p_X6_misreadIn v5 (0 : Int32) gvn.2.1 x1).bind fun v7 => p_X12_trade_43 gg gvn gdn fu v5 x1 x2 (0 : Int32) v7 (1 : Int32)))) (fun k => some (Sum.inr k, gne)))) (fun k => some (Sum.inr k, gne)))
set_option maxHeartbeats 1000000 in
set_option maxRecDepth 100000 in
theorem c_X12_trade (l : Launch) (dC : Nat → ClassId) (dI : Nat → Nat → Nat) (cy : Nat → ClassId) (z : Nat → Nat) (hl9 : l.stackTraces = false) (a0 : Nat → Nat) (gg : Int32 × Int32 × Int32 × Int32 × Int32 × Int32) (gvn : Int32 × Int32 × (Nat → Int32) × (Nat → Int32) × (Nat → Int32) × (Nat → Int32) × (Nat → Int32)) (gdn : Int32 × Int32 × (Nat → Int32) × (Nat → Int32) × (Nat → Int32) × (Nat → Int32)) (gne : (Nat → Nat → Int32) × (Nat → Nat → Int64)) (x1 : Int32) (x2 : Int32) (sz : Nat) (R0 : (Int32 ⊕ Nat) × (((Nat → Nat → Int32) × (Nat → Nat → Int64)))) (h : p_X12_trade gg gvn gdn gne x1 x2 = some R0) : vx_Met l yX12_trade wsX12_trade rm_X12_trade (va_Pc [.ref (a0 0), .int x1, .int x2] (prS dC dI cy z (w_X12_trade cy a0 gg gvn gdn gne) sz)) (va_Qi (fun (r : Int32) (u : ((Nat → Nat → Int32) × (Nat → Nat → Int64))) => Sum.inl r = R0.1 ∧ u = R0.2) (fun (u : ((Nat → Nat → Int32) × (Nat → Nat → Int64))) t => poC dC dI cy (w_X12_trade cy a0 gg gvn gdn u) t) (va_A (w_X12_trade cy a0 gg gvn gdn gne) sz)) (vx_X (fun (u : ((Nat → Nat → Int32) × (Nat → Nat → Int64))) => u = R0.2) (fun E (u : ((Nat → Nat → Int32) × (Nat → Nat → Int64))) t => exE E R0.1 ∧ poC dC dI cy (w_X12_trade cy a0 gg gvn gdn u) t) (va_A (w_X12_trade cy a0 gg gvn gdn gne) sz)) 2 12 (va_A (w_X12_trade cy a0 gg gvn gdn gne) sz) := by
  refine vx_ofW (cc := cX12_trade) (maxL := 7) (ret := (some .int)) (by decide) rfl ?_
  intro p e s m aa below meth c s₁ B hml htab hv
  obtain ⟨haa, ⟨hsz, hP, hK, hD0⟩, hX⟩ := hv
  have hx := B.exec
  have hb := B.bytes
  have hr := B.returns
  have hts := atoms_spec (ws := wsX12_trade) B.pre
  have hown : s.vm.findClass RX12 = some m.cls := findClass_of_methodNamed B.named
  have hlocks := B.notSynchronized
  subst hsz
  have hD := hD0.self (sz := s.heap.size)
  obtain ⟨qq, hqq⟩ : ∃ qq, qq = (va_Qi (fun (r : Int32) (u : ((Nat → Nat → Int32) × (Nat → Nat → Int64))) => Sum.inl r = R0.1 ∧ u = R0.2) (fun (u : ((Nat → Nat → Int32) × (Nat → Nat → Int64))) t => poC dC dI cy (w_X12_trade cy a0 gg gvn gdn u) t) (va_A (w_X12_trade cy a0 gg gvn gdn gne) s.heap.size)) := ⟨_, rfl⟩
  obtain ⟨xx, hxx⟩ : ∃ xx, xx = (vx_X (fun (u : ((Nat → Nat → Int32) × (Nat → Nat → Int64))) => u = R0.2) (fun E (u : ((Nat → Nat → Int32) × (Nat → Nat → Int64))) t => exE E R0.1 ∧ poC dC dI cy (w_X12_trade cy a0 gg gvn gdn u) t) (va_A (w_X12_trade cy a0 gg gvn gdn gne) s.heap.size)) := ⟨_, rfl⟩
  rw [← hqq, ← hxx]
  generalize hAe : va_A (w_X12_trade cy a0 gg gvn gdn gne) s.heap.size = A at hD hqq hxx hX ⊢
  have hA : ∀ q : Nat, s.heap.size ≤ q → A q := fun q h => by rw [← hAe]; exact Or.inr h
  have hS : va_S A s.heap s.heap [] := va_S.rf
  have hl := lv_entry ([.ref (a0 0), .int x1, .int x2]) (n := 7) (Nat.le_of_ble_eq_true rfl)
  have hE : entryFrame m aa 7 = F0 m 0 ((lg_sl ([.ref (a0 0), .int x1, .int x2]) ++ List.replicate (7 - (lg_sl ([.ref (a0 0), .int x1, .int x2])).length) Slot.unset).toArray) [] := by rw [haa]; exact lg_entry_eq m _ 7
  refine W.eq hE ?_
  generalize (lg_sl ([.ref (a0 0), .int x1, .int x2]) ++ List.replicate (7 - (lg_sl ([.ref (a0 0), .int x1, .int x2])).length) Slot.unset).toArray = ls at hl ⊢
  have hl : lv_has ls 7 [(0, .ref (a0 0)), (1, .int x1), (2, .int x2)] := hl
  change W p l e rm_X12_trade s m aa below meth c s.heap [] 0 0 (vx_MQ below qq xx aa s 2 12 A) (F0 m 0 ls [])
  have hS0 := hS
  have lk0 := hts (.fieldLink RX12 58 "GoatDoors" "nets" "LGoatDoors$Nets;") (by decide +kernel)
  have lk1 := hts (.fieldLink RX12 20 "GoatDoors" "now" "LGoatDoors$Village;") (by decide +kernel)
  have lk2 := hts (.fieldLink RX12 142 "GoatDoors$Village" "base" "I") (by decide +kernel)
  have in_X12 : ∀ w ∈ wsX120, w ∈ wsX12_trade := by decide +kernel
  have in_X9 : ∀ w ∈ wsX90, w ∈ wsX12_trade := by decide +kernel
  have c83 : ∀ (k43 : ((Nat → Nat → Int32) × (Nat → Nat → Int64)) → Int32 → Int32 → Int32 → Int32 → Int32 → Option ((Int32 ⊕ Nat) × (((Nat → Nat → Int32) × (Nat → Nat → Int64))))) (hk43 : ∀ (gne : (Nat → Nat → Int32) × (Nat → Nat → Int64)) (x1 : Int32) (x2 : Int32) (x3 : Int32) (x4 : Int32) (x5 : Int32) (H : Heap) (locs : List Loc) (ls : Array Slot), k43 gne x1 x2 x3 x4 x5 = some R0 → va_P (dC, dI) vwCl (w_X12_trade cy a0 gg gvn gdn gne) H → va_D A (w_X12_trade cy a0 gg gvn gdn gne) → va_S A s.heap H locs → lv_has ls 7 [(0, .ref (a0 0)), (1, .int x1), (2, .int x2), (3, .int x3), (4, .int x4), (5, .int x5)] → W p l e rm_X12_trade s m aa below meth c H locs 2 12 (vx_MQ below qq xx aa s 2 12 A) (F0 m 43 ls [])), ∀ (gne : (Nat → Nat → Int32) × (Nat → Nat → Int64)) (x1 : Int32) (x2 : Int32) (x3 : Int32) (x4 : Int32) (x5 : Int32) (H : Heap) (locs : List Loc) (ls : Array Slot), p_X12_trade_83 k43 gg gvn gdn gne x1 x2 x3 x4 x5 = some R0 → va_P (dC, dI) vwCl (w_X12_trade cy a0 gg gvn gdn gne) H → va_D A (w_X12_trade cy a0 gg gvn gdn gne) → va_S A s.heap H locs → lv_has ls 7 [(0, .ref (a0 0)), (1, .int x1), (2, .int x2), (3, .int x3), (4, .int x4), (5, .int x5)] → W p l e rm_X12_trade s m aa below meth c H locs 2 12 (vx_MQ below qq xx aa s 2 12 A) (F0 m 83 ls []) := by
    intro k43 hk43 gne x1 x2 x3 x4 x5 H locs ls h hP hD hS hl
    unfold p_X12_trade_83 at h
    refine lv_iinc (v := (x5 + (1 : Int32))) (lv' := [(5, .int (x5 + (1 : Int32))), (0, .ref (a0 0)), (1, .int x1), (2, .int x2), (3, .int x3), (4, .int x4)]) hx hb dX12_trade_83 hl (k := 5) rfl rfl (by decide) rfl (fun ls hl => ?_)
    refine lv_goto (tgt := 43) hx hb dX12_trade_86 (by decide) ?_
    exact hk43 gne x1 x2 x3 x4 (x5 + (1 : Int32)) H locs ls h hP hD hS (lv_sub hl [1, 2, 3, 4, 5, 0] rfl)
  have c43 : ∀ (n : Nat), ∀ (gne : (Nat → Nat → Int32) × (Nat → Nat → Int64)) (x1 : Int32) (x2 : Int32) (x3 : Int32) (x4 : Int32) (x5 : Int32) (H : Heap) (locs : List Loc) (ls : Array Slot), p_X12_trade_43 gg gvn gdn n gne x1 x2 x3 x4 x5 = some R0 → va_P (dC, dI) vwCl (w_X12_trade cy a0 gg gvn gdn gne) H → va_D A (w_X12_trade cy a0 gg gvn gdn gne) → va_S A s.heap H locs → lv_has ls 7 [(0, .ref (a0 0)), (1, .int x1), (2, .int x2), (3, .int x3), (4, .int x4), (5, .int x5)] → W p l e rm_X12_trade s m aa below meth c H locs 2 12 (vx_MQ below qq xx aa s 2 12 A) (F0 m 43 ls []) := by
    intro  n
    induction n with
    | zero => intro gne x1 x2 x3 x4 x5 H locs ls h; exact no_some h
    | succ n ih =>
      intro gne x1 x2 x3 x4 x5 H locs ls h hP hD hS hl
      rw [p_X12_trade_43.eq_2] at h
      refine lv_iload hx hb dX12_trade_43 (lv_at hl 5 rfl) ?_
      refine lv_bipush (v := (40 : Int32)) hx hb dX12_trade_45 (by decide) ?_
      refine lv_icmp_gt (tgt := 89) hx hb dX12_trade_47 (by decide) (fun c1 => ?_) (fun c1 => ?_)
      · rw [if_pos c1] at h
        refine lv_iload_n hx hb dX12_trade_89 rfl (lv_at hl 2 rfl) ?_
        refine lv_if_ne (tgt := 97) hx hb dX12_trade_90 (by decide) (fun c2 => ?_) (fun c2 => ?_)
        · rw [if_neg c2] at h
          refine lv_iload hx hb dX12_trade_97 (lv_at hl 4 rfl) ?_
          refine vx_ret ?_
          exact W.iret (v := x4) hx hb hr (fun t ht hW => by rw [hqq]; have hh := Option.some.inj h; exact ⟨⟨x4, (gne), rfl, ⟨fst_of hh, snd_of hh⟩, by rw [ht]; exact hP, va_K.moved hW.alike hK⟩, hS.F ht⟩) hS.2.2 dX12_trade_99
        · rw [if_pos c2] at h
          refine lv_iload_n hx hb dX12_trade_93 rfl (lv_at hl 3 rfl) ?_
          refine lv_goto (tgt := 99) hx hb dX12_trade_94 (by decide) ?_
          refine vx_ret ?_
          exact W.iret (v := x3) hx hb hr (fun t ht hW => by rw [hqq]; have hh := Option.some.inj h; exact ⟨⟨x3, (gne), rfl, ⟨fst_of hh, snd_of hh⟩, by rw [ht]; exact hP, va_K.moved hW.alike hK⟩, hS.F ht⟩) hS.2.2 dX12_trade_99
      · rw [if_neg c1] at h
        refine lv_aload_n hx hb dX12_trade_50 rfl (lv_at hl 0 rfl) ?_
        refine va_get (D := (dC, dI)) (ci := 10) (v := .ref (a0 50)) (C := RX12) (T := TX12) (N := 17) hx hb hts in_X12 hown hK hP 0 rfl rfl 13 (by decide) lk0 (fun _ h9 => h9) rfl dX12_trade_51 ?_
        refine lv_iload hx hb dX12_trade_54 (lv_at hl 5 rfl) ?_
        refine lv_aload_n hx hb dX12_trade_56 rfl (lv_at hl 0 rfl) ?_
        refine va_get (D := (dC, dI)) (ci := 10) (v := .ref (a0 2)) (C := RX12) (T := TX12) (N := 17) hx hb hts in_X12 hown hK hP 0 rfl rfl 6 (by decide) lk1 (fun _ h9 => h9) rfl dX12_trade_57 ?_
        refine va_get (D := (dC, dI)) (ci := 7) (v := .int gvn.2.1) (C := RX9) (T := TX9) (N := 9) hx hb hts in_X9 hown hK hP 1 rfl rfl 1 (by decide) lk2 (fun _ h9 => h9) rfl dX12_trade_60 ?_
        refine lv_iload_n hx hb dX12_trade_63 rfl (lv_at hl 1 rfl) ?_
        obtain ⟨v3, hv4, h⟩ := ok_bind h
        refine cl_vi (w2 := fun (_ : Unit) => w_X12_trade cy a0 gg gvn gdn gne) (As := [.int x5, .int gvn.2.1, .int x1]) (rest := []) ⟨hx, hb, hml, hown, hts⟩ (c_X6_misreadIn l dC dI cy (fun k => a0 (k + 50)) gne x5 gvn.2.1 x1 H.size v3 hv4) (cwV 3 hts gX12_trade_X6_misreadIn rfl rfl rfl (by decide +kernel) ⟨Nat.le_of_ble_eq_true rfl, Nat.le_of_ble_eq_true rfl⟩) (va_recv hK hP (ci := 4) (q0 := 12) rfl rfl) cl_blind (cl_pre hK hP hD [12, 13, 14, 15, 16, 17, 18, 19, 20, 21, 22, 23, 24, 25, 26, 27, 28, 29] (by decide) rfl) hP hD hS hA [12, 13, 14, 15, 16, 17, 18, 19, 20, 21, 22, 23, 24, 25, 26, 27, 28, 29] rfl rfl hl.1 rfl (lv_room (Nat.le_of_ble_eq_true rfl)) dX12_trade_64 ⟨Nat.le_of_ble_eq_true rfl, Nat.le_of_ble_eq_true rfl⟩ ⟨rfl, rfl⟩ (fun _ => updR [12, 13, 14, 15, 16, 17, 18, 19, 20, 21, 22, 23, 24, 25, 26, 27, 28, 29] rfl) (fun r u H locs hw hP hD hS => ?_)
        have hw := hw.symm
        subst hw
        have hP : va_P (dC, dI) vwCl (w_X12_trade cy a0 gg gvn gdn gne) H := hP
        have hD : va_D A (w_X12_trade cy a0 gg gvn gdn gne) := hD
        refine lv_istore (lv' := [(6, .int v3), (0, .ref (a0 0)), (1, .int x1), (2, .int x2), (3, .int x3), (4, .int x4), (5, .int x5)]) hx hb dX12_trade_67 hl (by decide) rfl (fun ls hl => ?_)
        refine lv_iload hx hb dX12_trade_69 (lv_at hl 0 rfl) ?_
        refine lv_iload hx hb dX12_trade_71 (lv_at hl 5 rfl) ?_
        refine lv_icmp_ge (tgt := 83) hx hb dX12_trade_73 (by decide) (fun c5 => ?_) (fun c5 => ?_)
        · rw [if_pos c5] at h
          exact c83 (p_X12_trade_43 gg gvn gdn n) ih gne x1 x2 x3 x4 x5 H locs ls h hP hD hS (lv_sub hl [1, 2, 3, 4, 5, 6] rfl)
        · rw [if_neg c5] at h
          refine lv_iload hx hb dX12_trade_76 (lv_at hl 0 rfl) ?_
          refine lv_istore (lv' := [(4, .int v3), (6, .int v3), (0, .ref (a0 0)), (1, .int x1), (2, .int x2), (3, .int x3), (5, .int x5)]) hx hb dX12_trade_78 hl (by decide) rfl (fun ls hl => ?_)
          refine lv_iload hx hb dX12_trade_80 (lv_at hl 6 rfl) ?_
          refine lv_istore_n (lv' := [(3, .int x5), (4, .int v3), (6, .int v3), (0, .ref (a0 0)), (1, .int x1), (2, .int x2), (5, .int x5)]) hx hb dX12_trade_82 rfl hl (by decide) rfl (fun ls hl => ?_)
          exact c83 (p_X12_trade_43 gg gvn gdn n) ih gne x1 x2 x5 v3 x5 H locs ls h hP hD hS (lv_sub hl [3, 4, 5, 0, 1, 6] rfl)
  obtain ⟨H, hH⟩ : ∃ H : Heap, H = s.heap := ⟨_, rfl⟩
  obtain ⟨locs, hlocs⟩ : ∃ locs : List Loc, locs = [] := ⟨_, rfl⟩
  have hS : va_S A s.heap H locs := by rw [hH, hlocs]; exact hS
  rw [← hH] at hP
  suffices hg : W p l e rm_X12_trade s m aa below meth c H locs 0 0 (vx_MQ below qq xx aa s 2 12 A) (F0 m 0 ls []) by subst hH; subst hlocs; exact hg
  unfold p_X12_trade at h
  refine lv_iload_n hx hb dX12_trade_0 rfl (lv_at hl 2 rfl) ?_
  refine lv_iconst (v := (1 : Int32)) hx hb dX12_trade_1 (by decide) ?_
  obtain ⟨v1, hv2, h⟩ := ok_bind h
  refine cx_sv (w2 := fun (_ : Unit) => w_X12_trade cy a0 gg gvn gdn gne) (w2x := fun (_ : Unit) => w_X12_trade cy a0 gg gvn gdn gne) (As := [.int x2, .int (1 : Int32)]) (rest := []) ⟨hx, hb, hml, hown, hts⟩ (c_X12_needWhat l dC dI cy z hl9  x2 (1 : Int32) H.size v1 hv2) (va_cwS 2 hts gX12_trade_X12_needWhat rfl rfl rfl (by decide +kernel) ⟨Nat.le_of_ble_eq_true rfl, Nat.le_of_ble_eq_true rfl⟩) cl_blindS (cl_preS hK hP hD hS hA hX [] (by decide) rfl) hP hD hS hA [] rfl rfl hl.1 rfl (lv_room (Nat.le_of_ble_eq_true rfl)) dX12_trade_2 ⟨Nat.le_of_ble_eq_true rfl, Nat.le_of_ble_eq_true rfl⟩ (cells' := 1) (slots' := 6) ⟨rfl, rfl⟩ (fun _ => updR [] rfl) (fun _ => updR [] rfl) (fun E ce q9 u H locs hw hE hP hD hS hc1 hc2 hc3 => ?_) (fun u H locs hw hP hD hS => ?_)
  · subst hw
    have hP : va_P (dC, dI) vwCl (w_X12_trade cy a0 gg gvn gdn gne) H := hP
    obtain ⟨hE1, hE2⟩ := exE_pass hE h
    exact vx_out (fun x9 hx9 => (htab x9 hx9).elim) hlocks hc1 hc2 hc3 (fun t h1 h2 => by rw [hxx]; exact ⟨_, hE2.symm, ⟨hE1, by rw [h1]; exact hP, va_K.moved h2 hK⟩, hS.F h1⟩) hS.2.2 (by decide) (by decide)
  obtain ⟨hw1, hw2⟩ := hw
  subst hw2
  rw [← hw1] at h
  dsimp only [xb] at h
  have hP : va_P (dC, dI) vwCl (w_X12_trade cy a0 gg gvn gdn gne) H := hP
  have hD : va_D A (w_X12_trade cy a0 gg gvn gdn gne) := hD
  refine lv_iload_n hx hb dX12_trade_5 rfl (lv_at hl 1 rfl) ?_
  obtain ⟨v3, hv4, h⟩ := ok_bind h
  refine cx_sv (w2 := fun (_ : Unit) => w_X12_trade cy a0 gg gvn gdn gne) (w2x := fun (_ : Unit) => w_X12_trade cy a0 gg gvn gdn gne) (As := [.int x1]) (rest := []) ⟨hx, hb, hml, hown, hts⟩ (c_X12_needBase l dC dI cy z hl9  x1 H.size v3 hv4) (va_cwS 1 hts gX12_trade_X12_needBase rfl rfl rfl (by decide +kernel) ⟨Nat.le_of_ble_eq_true rfl, Nat.le_of_ble_eq_true rfl⟩) cl_blindS (cl_preS hK hP hD hS hA hX [] (by decide) rfl) hP hD hS hA [] rfl rfl hl.1 rfl (lv_room (Nat.le_of_ble_eq_true rfl)) dX12_trade_6 ⟨Nat.le_of_ble_eq_true rfl, Nat.le_of_ble_eq_true rfl⟩ (cells' := 2) (slots' := 12) ⟨rfl, rfl⟩ (fun _ => updR [] rfl) (fun _ => updR [] rfl) (fun E ce q9 u H locs hw hE hP hD hS hc1 hc2 hc3 => ?_) (fun u H locs hw hP hD hS => ?_)
  · subst hw
    have hP : va_P (dC, dI) vwCl (w_X12_trade cy a0 gg gvn gdn gne) H := hP
    obtain ⟨hE1, hE2⟩ := exE_pass hE h
    exact vx_out (fun x9 hx9 => (htab x9 hx9).elim) hlocks hc1 hc2 hc3 (fun t h1 h2 => by rw [hxx]; exact ⟨_, hE2.symm, ⟨hE1, by rw [h1]; exact hP, va_K.moved h2 hK⟩, hS.F h1⟩) hS.2.2 (by decide) (by decide)
  obtain ⟨hw1, hw2⟩ := hw
  subst hw2
  rw [← hw1] at h
  dsimp only [xb] at h
  have hP : va_P (dC, dI) vwCl (w_X12_trade cy a0 gg gvn gdn gne) H := hP
  have hD : va_D A (w_X12_trade cy a0 gg gvn gdn gne) := hD
  refine lv_aload_n hx hb dX12_trade_9 rfl (lv_at hl 0 rfl) ?_
  refine va_get (D := (dC, dI)) (ci := 10) (v := .ref (a0 50)) (C := RX12) (T := TX12) (N := 17) hx hb hts in_X12 hown hK hP 0 rfl rfl 13 (by decide) lk0 (fun _ h9 => h9) rfl dX12_trade_10 ?_
  refine lv_aload_n hx hb dX12_trade_13 rfl (lv_at hl 0 rfl) ?_
  refine va_get (D := (dC, dI)) (ci := 10) (v := .ref (a0 2)) (C := RX12) (T := TX12) (N := 17) hx hb hts in_X12 hown hK hP 0 rfl rfl 6 (by decide) lk1 (fun _ h9 => h9) rfl dX12_trade_14 ?_
  obtain ⟨v5, hv6, h⟩ := ok_bind h
  refine cl_vv (w2 := fun (u : ((Nat → Nat → Int32) × (Nat → Nat → Int64))) => w_X12_trade cy a0 gg gvn gdn u) (As := [.ref (a0 2)]) (rest := []) ⟨hx, hb, hml, hown, hts⟩ (c_X6_fill l dC dI cy (fun k => a0 (k + 50)) (fun k => a0 (k + 2)) gne gvn gdn H.size v5 hv6) (cwV 1 hts gX12_trade_X6_fill rfl rfl rfl (by decide +kernel) ⟨Nat.le_of_ble_eq_true rfl, Nat.le_of_ble_eq_true rfl⟩) (va_recv hK hP (ci := 4) (q0 := 12) rfl rfl) cl_blind (cl_pre hK hP hD [12, 13, 14, 15, 16, 17, 18, 19, 20, 21, 22, 23, 24, 25, 26, 27, 28, 29, 1, 2, 3, 4, 5, 6, 7, 8, 9, 10, 11] (by decide) rfl) hP hD hS hA [12, 13, 14, 15, 16, 17, 18, 19, 20, 21, 22, 23, 24, 25, 26, 27, 28, 29, 1, 2, 3, 4, 5, 6, 7, 8, 9, 10, 11] rfl rfl hl.1 rfl (lv_room (Nat.le_of_ble_eq_true rfl)) dX12_trade_17 ⟨Nat.le_of_ble_eq_true rfl, Nat.le_of_ble_eq_true rfl⟩ ⟨rfl, rfl⟩ (fun _ => updM [12, 13, 14, 15, 16, 17, 18, 19, 20, 21, 22, 23, 24, 25, 26, 27, 28, 29, 1, 2, 3, 4, 5, 6, 7, 8, 9, 10, 11] [0] 30 rfl rfl rfl rfl (by decide +kernel) (by decide +kernel) rfl) (fun u H locs hw hP hD hS => ?_)
  have hw := hw.symm
  subst hw
  have hP : va_P (dC, dI) vwCl (w_X12_trade cy a0 gg gvn gdn v5) H := hP
  have hD : va_D A (w_X12_trade cy a0 gg gvn gdn v5) := hD
  refine lv_iconst (v := (0 : Int32)) hx hb dX12_trade_20 (by decide) ?_
  refine lv_istore_n (lv' := [(3, .int (0 : Int32)), (0, .ref (a0 0)), (1, .int x1), (2, .int x2)]) hx hb dX12_trade_21 rfl hl (by decide) rfl (fun ls hl => ?_)
  refine lv_aload_n hx hb dX12_trade_22 rfl (lv_at hl 1 rfl) ?_
  refine va_get (D := (dC, dI)) (ci := 10) (v := .ref (a0 50)) (C := RX12) (T := TX12) (N := 17) hx hb hts in_X12 hown hK hP 0 rfl rfl 13 (by decide) lk0 (fun _ h9 => h9) rfl dX12_trade_23 ?_
  refine lv_iload_n hx hb dX12_trade_26 rfl (lv_at hl 0 rfl) ?_
  refine lv_aload_n hx hb dX12_trade_27 rfl (lv_at hl 1 rfl) ?_
  refine va_get (D := (dC, dI)) (ci := 10) (v := .ref (a0 2)) (C := RX12) (T := TX12) (N := 17) hx hb hts in_X12 hown hK hP 0 rfl rfl 6 (by decide) lk1 (fun _ h9 => h9) rfl dX12_trade_28 ?_
  refine va_get (D := (dC, dI)) (ci := 7) (v := .int gvn.2.1) (C := RX9) (T := TX9) (N := 9) hx hb hts in_X9 hown hK hP 1 rfl rfl 1 (by decide) lk2 (fun _ h9 => h9) rfl dX12_trade_31 ?_
  refine lv_iload_n hx hb dX12_trade_34 rfl (lv_at hl 2 rfl) ?_
  obtain ⟨v7, hv8, h⟩ := ok_bind h
  refine cl_vi (w2 := fun (_ : Unit) => w_X12_trade cy a0 gg gvn gdn v5) (As := [.int (0 : Int32), .int gvn.2.1, .int x1]) (rest := []) ⟨hx, hb, hml, hown, hts⟩ (c_X6_misreadIn l dC dI cy (fun k => a0 (k + 50)) v5 (0 : Int32) gvn.2.1 x1 H.size v7 hv8) (cwV 3 hts gX12_trade_X6_misreadIn rfl rfl rfl (by decide +kernel) ⟨Nat.le_of_ble_eq_true rfl, Nat.le_of_ble_eq_true rfl⟩) (va_recv hK hP (ci := 4) (q0 := 12) rfl rfl) cl_blind (cl_pre hK hP hD [12, 13, 14, 15, 16, 17, 18, 19, 20, 21, 22, 23, 24, 25, 26, 27, 28, 29] (by decide) rfl) hP hD hS hA [12, 13, 14, 15, 16, 17, 18, 19, 20, 21, 22, 23, 24, 25, 26, 27, 28, 29] rfl rfl hl.1 rfl (lv_room (Nat.le_of_ble_eq_true rfl)) dX12_trade_35 ⟨Nat.le_of_ble_eq_true rfl, Nat.le_of_ble_eq_true rfl⟩ ⟨rfl, rfl⟩ (fun _ => updR [12, 13, 14, 15, 16, 17, 18, 19, 20, 21, 22, 23, 24, 25, 26, 27, 28, 29] rfl) (fun r u H locs hw hP hD hS => ?_)
  have hw := hw.symm
  subst hw
  have hP : va_P (dC, dI) vwCl (w_X12_trade cy a0 gg gvn gdn v5) H := hP
  have hD : va_D A (w_X12_trade cy a0 gg gvn gdn v5) := hD
  refine lv_istore (lv' := [(4, .int v7), (3, .int (0 : Int32)), (0, .ref (a0 0)), (1, .int x1), (2, .int x2)]) hx hb dX12_trade_38 hl (by decide) rfl (fun ls hl => ?_)
  refine lv_iconst (v := (1 : Int32)) hx hb dX12_trade_40 (by decide) ?_
  refine lv_istore (lv' := [(5, .int (1 : Int32)), (4, .int v7), (3, .int (0 : Int32)), (0, .ref (a0 0)), (1, .int x1), (2, .int x2)]) hx hb dX12_trade_41 hl (by decide) rfl (fun ls hl => ?_)
  exact c43 fu v5 x1 x2 (0 : Int32) v7 (1 : Int32) H locs ls h hP hD hS (lv_sub hl [3, 4, 5, 2, 1, 0] rfl)

abbrev w_X12_tax (cy : Nat → ClassId) (a0 : Nat → Nat) (gg : Int32 × Int32 × Int32 × Int32 × Int32 × Int32) (gvn : Int32 × Int32 × (Nat → Int32) × (Nat → Int32) × (Nat → Int32) × (Nat → Int32) × (Nat → Int32)) (gdn : Int32 × Int32 × (Nat → Int32) × (Nat → Int32) × (Nat → Int32) × (Nat → Int32)) : va_W := [(a0 0, .inr (10, [.ref (a0 1), .int (gg.1), .int (gg.2.1), .int (gg.2.2.1), .int (gg.2.2.2.1), .int (gg.2.2.2.2.1), .ref (a0 2), .ref (a0 17), .ref (a0 32), .int (gg.2.2.2.2.2), .ref (a0 47), .ref (a0 48), .ref (a0 49), .ref (a0 50), .ref (a0 68), .ref (a0 78), .ref (a0 80)])), (a0 2, .inr (7, [.int (gvn.1), .int (gvn.2.1), .ref (a0 3), .ref (a0 8), .ref (a0 12), .ref (a0 13), .ref (a0 14), .ref (a0 15), .ref (a0 16)])), (a0 3, .inr (2, [.int (gdn.1), .int (gdn.2.1), .ref (a0 4), .ref (a0 5), .ref (a0 6), .ref (a0 7)])), (a0 4, .inl (cy 1, 10, .inl (gdn.2.2.1))), (a0 5, .inl (cy 1, 10, .inl (gdn.2.2.2.1))), (a0 6, .inl (cy 1, 10, .inl (gdn.2.2.2.2.1))), (a0 7, .inl (cy 1, 50, .inl (gdn.2.2.2.2.2))), (a0 12, .inl (cy 1, 5, .inl (gvn.2.2.1))), (a0 13, .inl (cy 1, 5, .inl (gvn.2.2.2.1))), (a0 14, .inl (cy 1, 5, .inl (gvn.2.2.2.2.1))), (a0 15, .inl (cy 1, 5, .inl (gvn.2.2.2.2.2.1))), (a0 16, .inl (cy 1, 5, .inl (gvn.2.2.2.2.2.2)))]
abbrev rm_X12_tax : Room := { frames := 7, cells := 1, slots := 6, locals := 111 }
def p_X12_tax (gg : Int32 × Int32 × Int32 × Int32 × Int32 × Int32) (gvn : Int32 × Int32 × (Nat → Int32) × (Nat → Int32) × (Nat → Int32) × (Nat → Int32) × (Nat → Int32)) (gdn : Int32 × Int32 × (Nat → Int32) × (Nat → Int32) × (Nat → Int32) × (Nat → Int32)) (x1 : Int32) : Option ((Int32 ⊕ Nat) × (Unit)) := ((p_X12_needDoor gg gvn gdn x1).bind fun v1 => xb v1.1 (fun _r => ((p_X4_worthIn gdn x1 (10 : Int32)).bind fun v3 => ((p_X12_dividedUp v3 (10 : Int32)).bind fun v5 => some (Sum.inl v5, ())))) (fun k => some (Sum.inr k, ())))
set_option maxHeartbeats 1000000 in
set_option maxRecDepth 100000 in
theorem c_X12_tax (l : Launch) (dC : Nat → ClassId) (dI : Nat → Nat → Nat) (cy : Nat → ClassId) (z : Nat → Nat) (hl9 : l.stackTraces = false) (a0 : Nat → Nat) (gg : Int32 × Int32 × Int32 × Int32 × Int32 × Int32) (gvn : Int32 × Int32 × (Nat → Int32) × (Nat → Int32) × (Nat → Int32) × (Nat → Int32) × (Nat → Int32)) (gdn : Int32 × Int32 × (Nat → Int32) × (Nat → Int32) × (Nat → Int32) × (Nat → Int32)) (x1 : Int32) (sz : Nat) (R0 : (Int32 ⊕ Nat) × (Unit)) (h : p_X12_tax gg gvn gdn x1 = some R0) : vx_Met l yX12_tax wsX12_tax rm_X12_tax (va_Pc [.ref (a0 0), .int x1] (prS dC dI cy z (w_X12_tax cy a0 gg gvn gdn) sz)) (va_Qi (fun (r : Int32) (u : Unit) => Sum.inl r = R0.1 ∧ u = R0.2) (fun (_ : Unit) t => poC dC dI cy (w_X12_tax cy a0 gg gvn gdn) t) (va_A (w_X12_tax cy a0 gg gvn gdn) sz)) (vx_X (fun (u : Unit) => u = R0.2) (fun E (_ : Unit) t => exE E R0.1 ∧ poC dC dI cy (w_X12_tax cy a0 gg gvn gdn) t) (va_A (w_X12_tax cy a0 gg gvn gdn) sz)) 1 6 (va_A (w_X12_tax cy a0 gg gvn gdn) sz) := by
  refine vx_ofW (cc := cX12_tax) (maxL := 2) (ret := (some .int)) (by decide) rfl ?_
  intro p e s m aa below meth c s₁ B hml htab hv
  obtain ⟨haa, ⟨hsz, hP, hK, hD0⟩, hX⟩ := hv
  have hx := B.exec
  have hb := B.bytes
  have hr := B.returns
  have hts := atoms_spec (ws := wsX12_tax) B.pre
  have hown : s.vm.findClass RX12 = some m.cls := findClass_of_methodNamed B.named
  have hlocks := B.notSynchronized
  subst hsz
  have hD := hD0.self (sz := s.heap.size)
  obtain ⟨qq, hqq⟩ : ∃ qq, qq = (va_Qi (fun (r : Int32) (u : Unit) => Sum.inl r = R0.1 ∧ u = R0.2) (fun (_ : Unit) t => poC dC dI cy (w_X12_tax cy a0 gg gvn gdn) t) (va_A (w_X12_tax cy a0 gg gvn gdn) s.heap.size)) := ⟨_, rfl⟩
  obtain ⟨xx, hxx⟩ : ∃ xx, xx = (vx_X (fun (u : Unit) => u = R0.2) (fun E (_ : Unit) t => exE E R0.1 ∧ poC dC dI cy (w_X12_tax cy a0 gg gvn gdn) t) (va_A (w_X12_tax cy a0 gg gvn gdn) s.heap.size)) := ⟨_, rfl⟩
  rw [← hqq, ← hxx]
  generalize hAe : va_A (w_X12_tax cy a0 gg gvn gdn) s.heap.size = A at hD hqq hxx hX ⊢
  have hA : ∀ q : Nat, s.heap.size ≤ q → A q := fun q h => by rw [← hAe]; exact Or.inr h
  have hS : va_S A s.heap s.heap [] := va_S.rf
  have hl := lv_entry ([.ref (a0 0), .int x1]) (n := 2) (Nat.le_of_ble_eq_true rfl)
  have hE : entryFrame m aa 2 = F0 m 0 ((lg_sl ([.ref (a0 0), .int x1]) ++ List.replicate (2 - (lg_sl ([.ref (a0 0), .int x1])).length) Slot.unset).toArray) [] := by rw [haa]; exact lg_entry_eq m _ 2
  refine W.eq hE ?_
  generalize (lg_sl ([.ref (a0 0), .int x1]) ++ List.replicate (2 - (lg_sl ([.ref (a0 0), .int x1])).length) Slot.unset).toArray = ls at hl ⊢
  have hl : lv_has ls 2 [(0, .ref (a0 0)), (1, .int x1)] := hl
  change W p l e rm_X12_tax s m aa below meth c s.heap [] 0 0 (vx_MQ below qq xx aa s 1 6 A) (F0 m 0 ls [])
  have hS0 := hS
  have lk0 := hts (.fieldLink RX12 20 "GoatDoors" "now" "LGoatDoors$Village;") (by decide +kernel)
  have lk1 := hts (.fieldLink RX12 130 "GoatDoors$Village" "doors" "LGoatDoors$Doors;") (by decide +kernel)
  have in_X12 : ∀ w ∈ wsX120, w ∈ wsX12_tax := by decide +kernel
  have in_X9 : ∀ w ∈ wsX90, w ∈ wsX12_tax := by decide +kernel
  obtain ⟨H, hH⟩ : ∃ H : Heap, H = s.heap := ⟨_, rfl⟩
  obtain ⟨locs, hlocs⟩ : ∃ locs : List Loc, locs = [] := ⟨_, rfl⟩
  have hS : va_S A s.heap H locs := by rw [hH, hlocs]; exact hS
  rw [← hH] at hP
  suffices hg : W p l e rm_X12_tax s m aa below meth c H locs 0 0 (vx_MQ below qq xx aa s 1 6 A) (F0 m 0 ls []) by subst hH; subst hlocs; exact hg
  unfold p_X12_tax at h
  refine lv_aload_n hx hb dX12_tax_0 rfl (lv_at hl 0 rfl) ?_
  refine lv_iload_n hx hb dX12_tax_1 rfl (lv_at hl 1 rfl) ?_
  obtain ⟨v1, hv2, h⟩ := ok_bind h
  refine cx_vv (w2 := fun (_ : Unit) => w_X12_tax cy a0 gg gvn gdn) (w2x := fun (_ : Unit) => w_X12_tax cy a0 gg gvn gdn) (As := [.int x1]) (rest := []) ⟨hx, hb, hml, hown, hts⟩ (c_X12_needDoor l dC dI cy z hl9 a0 gg gvn gdn x1 H.size v1 hv2) (cwV 1 hts gX12_tax_X12_needDoor rfl rfl rfl (by decide +kernel) ⟨Nat.le_of_ble_eq_true rfl, Nat.le_of_ble_eq_true rfl⟩) (va_recv hK hP (ci := 10) (q0 := 0) rfl rfl) cl_blindS (cl_preS hK hP hD hS hA hX [0, 1, 2, 3, 4, 5, 6, 7, 8, 9, 10, 11] (by decide) rfl) hP hD hS hA [0, 1, 2, 3, 4, 5, 6, 7, 8, 9, 10, 11] rfl rfl hl.1 rfl (lv_room (Nat.le_of_ble_eq_true rfl)) dX12_tax_2 ⟨Nat.le_of_ble_eq_true rfl, Nat.le_of_ble_eq_true rfl⟩ (cells' := 1) (slots' := 6) ⟨rfl, rfl⟩ (fun _ => updR [0, 1, 2, 3, 4, 5, 6, 7, 8, 9, 10, 11] rfl) (fun _ => updR [0, 1, 2, 3, 4, 5, 6, 7, 8, 9, 10, 11] rfl) (fun E ce q9 u H locs hw hE hP hD hS hc1 hc2 hc3 => ?_) (fun u H locs hw hP hD hS => ?_)
  · subst hw
    have hP : va_P (dC, dI) vwCl (w_X12_tax cy a0 gg gvn gdn) H := hP
    obtain ⟨hE1, hE2⟩ := exE_pass hE h
    exact vx_out (fun x9 hx9 => (htab x9 hx9).elim) hlocks hc1 hc2 hc3 (fun t h1 h2 => by rw [hxx]; exact ⟨_, hE2.symm, ⟨hE1, by rw [h1]; exact hP, va_K.moved h2 hK⟩, hS.F h1⟩) hS.2.2 (by decide) (by decide)
  obtain ⟨hw1, hw2⟩ := hw
  subst hw2
  rw [← hw1] at h
  dsimp only [xb] at h
  have hP : va_P (dC, dI) vwCl (w_X12_tax cy a0 gg gvn gdn) H := hP
  have hD : va_D A (w_X12_tax cy a0 gg gvn gdn) := hD
  refine lv_aload_n hx hb dX12_tax_5 rfl (lv_at hl 0 rfl) ?_
  refine va_get (D := (dC, dI)) (ci := 10) (v := .ref (a0 2)) (C := RX12) (T := TX12) (N := 17) hx hb hts in_X12 hown hK hP 0 rfl rfl 6 (by decide) lk0 (fun _ h9 => h9) rfl dX12_tax_6 ?_
  refine va_get (D := (dC, dI)) (ci := 7) (v := .ref (a0 3)) (C := RX9) (T := TX9) (N := 9) hx hb hts in_X9 hown hK hP 1 rfl rfl 2 (by decide) lk1 (fun _ h9 => h9) rfl dX12_tax_9 ?_
  refine lv_iload_n hx hb dX12_tax_12 rfl (lv_at hl 1 rfl) ?_
  refine lv_bipush (v := (10 : Int32)) hx hb dX12_tax_13 (by decide) ?_
  obtain ⟨v3, hv4, h⟩ := ok_bind h
  refine cl_vi (w2 := fun (_ : Unit) => w_X12_tax cy a0 gg gvn gdn) (As := [.int x1, .int (10 : Int32)]) (rest := []) ⟨hx, hb, hml, hown, hts⟩ (c_X4_worthIn l dC dI cy (fun k => a0 (k + 3)) gdn x1 (10 : Int32) H.size v3 hv4) (cwV 2 hts gX12_tax_X4_worthIn rfl rfl rfl (by decide +kernel) ⟨Nat.le_of_ble_eq_true rfl, Nat.le_of_ble_eq_true rfl⟩) (va_recv hK hP (ci := 2) (q0 := 2) rfl rfl) cl_blind (cl_pre hK hP hD [2, 3, 4, 5, 6] (by decide) rfl) hP hD hS hA [2, 3, 4, 5, 6] rfl rfl hl.1 rfl (lv_room (Nat.le_of_ble_eq_true rfl)) dX12_tax_15 ⟨Nat.le_of_ble_eq_true rfl, Nat.le_of_ble_eq_true rfl⟩ ⟨rfl, rfl⟩ (fun _ => updR [2, 3, 4, 5, 6] rfl) (fun r u H locs hw hP hD hS => ?_)
  have hw := hw.symm
  subst hw
  have hP : va_P (dC, dI) vwCl (w_X12_tax cy a0 gg gvn gdn) H := hP
  have hD : va_D A (w_X12_tax cy a0 gg gvn gdn) := hD
  refine lv_bipush (v := (10 : Int32)) hx hb dX12_tax_18 (by decide) ?_
  obtain ⟨v5, hv6, h⟩ := ok_bind h
  refine cl_si (w2 := fun (_ : Unit) => w_X12_tax cy a0 gg gvn gdn) (As := [.int v3, .int (10 : Int32)]) (rest := []) ⟨hx, hb, hml, hown, hts⟩ (c_X12_dividedUp l dC dI cy  v3 (10 : Int32) H.size v5 hv6) (va_cwS 2 hts gX12_tax_X12_dividedUp rfl rfl rfl (by decide +kernel) ⟨Nat.le_of_ble_eq_true rfl, Nat.le_of_ble_eq_true rfl⟩) cl_blind (cl_pre hK hP hD [] (by decide) rfl) hP hD hS hA [] rfl rfl hl.1 rfl (lv_room (Nat.le_of_ble_eq_true rfl)) dX12_tax_20 ⟨Nat.le_of_ble_eq_true rfl, Nat.le_of_ble_eq_true rfl⟩ ⟨rfl, rfl⟩ (fun _ => updR [] rfl) (fun r u H locs hw hP hD hS => ?_)
  have hw := hw.symm
  subst hw
  have hP : va_P (dC, dI) vwCl (w_X12_tax cy a0 gg gvn gdn) H := hP
  have hD : va_D A (w_X12_tax cy a0 gg gvn gdn) := hD
  refine vx_ret ?_
  exact W.iret (v := v5) hx hb hr (fun t ht hW => by rw [hqq]; have hh := Option.some.inj h; exact ⟨⟨v5, (()), rfl, ⟨fst_of hh, snd_of hh⟩, by rw [ht]; exact hP, va_K.moved hW.alike hK⟩, hS.F ht⟩) hS.2.2 dX12_tax_23

abbrev w_X12_sum (cy : Nat → ClassId) (a0 : Nat → Nat) (gg : Int32 × Int32 × Int32 × Int32 × Int32 × Int32) (gvn : Int32 × Int32 × (Nat → Int32) × (Nat → Int32) × (Nat → Int32) × (Nat → Int32) × (Nat → Int32)) (gdn : Int32 × Int32 × (Nat → Int32) × (Nat → Int32) × (Nat → Int32) × (Nat → Int32)) (gcs : Int32 × Int32 × (Nat → Int32)) : va_W := [(a0 0, .inr (10, [.ref (a0 1), .int (gg.1), .int (gg.2.1), .int (gg.2.2.1), .int (gg.2.2.2.1), .int (gg.2.2.2.2.1), .ref (a0 2), .ref (a0 17), .ref (a0 32), .int (gg.2.2.2.2.2), .ref (a0 47), .ref (a0 48), .ref (a0 49), .ref (a0 50), .ref (a0 68), .ref (a0 78), .ref (a0 80)])), (a0 2, .inr (7, [.int (gvn.1), .int (gvn.2.1), .ref (a0 3), .ref (a0 8), .ref (a0 12), .ref (a0 13), .ref (a0 14), .ref (a0 15), .ref (a0 16)])), (a0 3, .inr (2, [.int (gdn.1), .int (gdn.2.1), .ref (a0 4), .ref (a0 5), .ref (a0 6), .ref (a0 7)])), (a0 4, .inl (cy 1, 10, .inl (gdn.2.2.1))), (a0 5, .inl (cy 1, 10, .inl (gdn.2.2.2.1))), (a0 6, .inl (cy 1, 10, .inl (gdn.2.2.2.2.1))), (a0 7, .inl (cy 1, 50, .inl (gdn.2.2.2.2.2))), (a0 12, .inl (cy 1, 5, .inl (gvn.2.2.1))), (a0 13, .inl (cy 1, 5, .inl (gvn.2.2.2.1))), (a0 14, .inl (cy 1, 5, .inl (gvn.2.2.2.2.1))), (a0 15, .inl (cy 1, 5, .inl (gvn.2.2.2.2.2.1))), (a0 16, .inl (cy 1, 5, .inl (gvn.2.2.2.2.2.2))), (a0 78, .inr (0, [.int (gcs.1), .int (gcs.2.1), .ref (a0 79)])), (a0 79, .inl (cy 1, 6, .inl (gcs.2.2)))]
abbrev rm_X12_sum : Room := { frames := 7, cells := 3, slots := 18, locals := 115 }
def p_X12_sum (gg : Int32 × Int32 × Int32 × Int32 × Int32 × Int32) (gvn : Int32 × Int32 × (Nat → Int32) × (Nat → Int32) × (Nat → Int32) × (Nat → Int32) × (Nat → Int32)) (gdn : Int32 × Int32 × (Nat → Int32) × (Nat → Int32) × (Nat → Int32) × (Nat → Int32)) (gcs : Int32 × Int32 × (Nat → Int32)) (x1 : Int32) (x2 : Int32) (x3 : Int32) : Option ((Int32 ⊕ Nat) × ((Int32 × Int32 × (Nat → Int32)))) := ((p_X12_needDoor gg gvn gdn x1).bind fun v1 => xb v1.1 (fun _r => ((p_X12_needDoor gg gvn gdn x2).bind fun v3 => xb v3.1 (fun _r => (if (2 : Int32) ≤ gvn.2.1 then ((p_X1_add gcs gdn x1 x2 gvn.2.1).bind fun v6 => (if x3 = (-1 : Int32) then some (Sum.inl v6.1, v6) else (if x3 = (-2 : Int32) then some (Sum.inl v6.2.1, v6) else (if x3 < (0 : Int32) then some (Sum.inr 1, v6) else (if x3 < v6.1 then ((p_X1_figureAt v6 x3).bind fun v12 => some (Sum.inl v12, v6)) else some (Sum.inr 1, v6)))))) else some (Sum.inr 2, gcs))) (fun k => some (Sum.inr k, gcs)))) (fun k => some (Sum.inr k, gcs)))
set_option maxHeartbeats 1000000 in
set_option maxRecDepth 100000 in
theorem c_X12_sum (l : Launch) (dC : Nat → ClassId) (dI : Nat → Nat → Nat) (cy : Nat → ClassId) (z : Nat → Nat) (hl9 : l.stackTraces = false) (a0 : Nat → Nat) (gg : Int32 × Int32 × Int32 × Int32 × Int32 × Int32) (gvn : Int32 × Int32 × (Nat → Int32) × (Nat → Int32) × (Nat → Int32) × (Nat → Int32) × (Nat → Int32)) (gdn : Int32 × Int32 × (Nat → Int32) × (Nat → Int32) × (Nat → Int32) × (Nat → Int32)) (gcs : Int32 × Int32 × (Nat → Int32)) (x1 : Int32) (x2 : Int32) (x3 : Int32) (sz : Nat) (R0 : (Int32 ⊕ Nat) × ((Int32 × Int32 × (Nat → Int32)))) (h : p_X12_sum gg gvn gdn gcs x1 x2 x3 = some R0) : vx_Met l yX12_sum wsX12_sum rm_X12_sum (va_Pc [.ref (a0 0), .int x1, .int x2, .int x3] (prS dC dI cy z (w_X12_sum cy a0 gg gvn gdn gcs) sz)) (va_Qi (fun (r : Int32) (u : (Int32 × Int32 × (Nat → Int32))) => Sum.inl r = R0.1 ∧ u = R0.2) (fun (u : (Int32 × Int32 × (Nat → Int32))) t => poC dC dI cy (w_X12_sum cy a0 gg gvn gdn u) t) (va_A (w_X12_sum cy a0 gg gvn gdn gcs) sz)) (vx_X (fun (u : (Int32 × Int32 × (Nat → Int32))) => u = R0.2) (fun E (u : (Int32 × Int32 × (Nat → Int32))) t => exE E R0.1 ∧ poC dC dI cy (w_X12_sum cy a0 gg gvn gdn u) t) (va_A (w_X12_sum cy a0 gg gvn gdn gcs) sz)) 3 18 (va_A (w_X12_sum cy a0 gg gvn gdn gcs) sz) := by
  refine vx_ofW (cc := cX12_sum) (maxL := 4) (ret := (some .int)) (by decide) rfl ?_
  intro p e s m aa below meth c s₁ B hml htab hv
  obtain ⟨haa, ⟨hsz, hP, hK, hD0⟩, hX⟩ := hv
  have hx := B.exec
  have hb := B.bytes
  have hr := B.returns
  have hts := atoms_spec (ws := wsX12_sum) B.pre
  have hown : s.vm.findClass RX12 = some m.cls := findClass_of_methodNamed B.named
  have hlocks := B.notSynchronized
  subst hsz
  have hD := hD0.self (sz := s.heap.size)
  obtain ⟨qq, hqq⟩ : ∃ qq, qq = (va_Qi (fun (r : Int32) (u : (Int32 × Int32 × (Nat → Int32))) => Sum.inl r = R0.1 ∧ u = R0.2) (fun (u : (Int32 × Int32 × (Nat → Int32))) t => poC dC dI cy (w_X12_sum cy a0 gg gvn gdn u) t) (va_A (w_X12_sum cy a0 gg gvn gdn gcs) s.heap.size)) := ⟨_, rfl⟩
  obtain ⟨xx, hxx⟩ : ∃ xx, xx = (vx_X (fun (u : (Int32 × Int32 × (Nat → Int32))) => u = R0.2) (fun E (u : (Int32 × Int32 × (Nat → Int32))) t => exE E R0.1 ∧ poC dC dI cy (w_X12_sum cy a0 gg gvn gdn u) t) (va_A (w_X12_sum cy a0 gg gvn gdn gcs) s.heap.size)) := ⟨_, rfl⟩
  rw [← hqq, ← hxx]
  generalize hAe : va_A (w_X12_sum cy a0 gg gvn gdn gcs) s.heap.size = A at hD hqq hxx hX ⊢
  have hA : ∀ q : Nat, s.heap.size ≤ q → A q := fun q h => by rw [← hAe]; exact Or.inr h
  have hS : va_S A s.heap s.heap [] := va_S.rf
  have hl := lv_entry ([.ref (a0 0), .int x1, .int x2, .int x3]) (n := 4) (Nat.le_of_ble_eq_true rfl)
  have hE : entryFrame m aa 4 = F0 m 0 ((lg_sl ([.ref (a0 0), .int x1, .int x2, .int x3]) ++ List.replicate (4 - (lg_sl ([.ref (a0 0), .int x1, .int x2, .int x3])).length) Slot.unset).toArray) [] := by rw [haa]; exact lg_entry_eq m _ 4
  refine W.eq hE ?_
  generalize (lg_sl ([.ref (a0 0), .int x1, .int x2, .int x3]) ++ List.replicate (4 - (lg_sl ([.ref (a0 0), .int x1, .int x2, .int x3])).length) Slot.unset).toArray = ls at hl ⊢
  have hl : lv_has ls 4 [(0, .ref (a0 0)), (1, .int x1), (2, .int x2), (3, .int x3)] := hl
  change W p l e rm_X12_sum s m aa below meth c s.heap [] 0 0 (vx_MQ below qq xx aa s 3 18 A) (F0 m 0 ls [])
  have hS0 := hS
  have lk0 := hts (.fieldLink RX12 20 "GoatDoors" "now" "LGoatDoors$Village;") (by decide +kernel)
  have lk1 := hts (.fieldLink RX12 142 "GoatDoors$Village" "base" "I") (by decide +kernel)
  have lk2 := hts (.fieldLink RX12 72 "GoatDoors" "childSum" "LGoatDoors$ChildSum;") (by decide +kernel)
  have lk3 := hts (.fieldLink RX12 130 "GoatDoors$Village" "doors" "LGoatDoors$Doors;") (by decide +kernel)
  have lk4 := hts (.classLink RX12 161 "java/util/NoSuchElementException") (by decide +kernel)
  have lk5 := hts (.initialized "java/util/NoSuchElementException") (by decide +kernel)
  have lk6 := hts (.fieldLink RX12 348 "GoatDoors$ChildSum" "length" "I") (by decide +kernel)
  have lk7 := hts (.fieldLink RX12 351 "GoatDoors$ChildSum" "carries" "I") (by decide +kernel)
  have lk8 := hts (.classLink RX12 252 "java/lang/IllegalArgumentException") (by decide +kernel)
  have lk9 := hts (.initialized "java/lang/IllegalArgumentException") (by decide +kernel)
  have in_X12 : ∀ w ∈ wsX120, w ∈ wsX12_sum := by decide +kernel
  have in_X9 : ∀ w ∈ wsX90, w ∈ wsX12_sum := by decide +kernel
  have in_X1 : ∀ w ∈ wsX10, w ∈ wsX12_sum := by decide +kernel
  have gd165 : ∀ w ∈ (vx_atS RX12 165 "java/util/NoSuchElementException" ["java/lang/RuntimeException", "java/lang/Exception"]).filter goodWord, w.before aa s = true := fun w hw => hts w ((show ∀ w ∈ (vx_atS RX12 165 "java/util/NoSuchElementException" ["java/lang/RuntimeException", "java/lang/Exception"]).filter goodWord, w ∈ wsX12_sum by decide +kernel) w hw)
  have gd256 : ∀ w ∈ (vx_atS RX12 256 "java/lang/IllegalArgumentException" ["java/lang/RuntimeException", "java/lang/Exception"]).filter goodWord, w.before aa s = true := fun w hw => hts w ((show ∀ w ∈ (vx_atS RX12 256 "java/lang/IllegalArgumentException" ["java/lang/RuntimeException", "java/lang/Exception"]).filter goodWord, w ∈ wsX12_sum by decide +kernel) w hw)
  obtain ⟨H, hH⟩ : ∃ H : Heap, H = s.heap := ⟨_, rfl⟩
  obtain ⟨locs, hlocs⟩ : ∃ locs : List Loc, locs = [] := ⟨_, rfl⟩
  have hS : va_S A s.heap H locs := by rw [hH, hlocs]; exact hS
  rw [← hH] at hP
  suffices hg : W p l e rm_X12_sum s m aa below meth c H locs 0 0 (vx_MQ below qq xx aa s 3 18 A) (F0 m 0 ls []) by subst hH; subst hlocs; exact hg
  unfold p_X12_sum at h
  refine lv_aload_n hx hb dX12_sum_0 rfl (lv_at hl 0 rfl) ?_
  refine lv_iload_n hx hb dX12_sum_1 rfl (lv_at hl 1 rfl) ?_
  obtain ⟨v1, hv2, h⟩ := ok_bind h
  refine cx_vv (w2 := fun (_ : Unit) => w_X12_sum cy a0 gg gvn gdn gcs) (w2x := fun (_ : Unit) => w_X12_sum cy a0 gg gvn gdn gcs) (As := [.int x1]) (rest := []) ⟨hx, hb, hml, hown, hts⟩ (c_X12_needDoor l dC dI cy z hl9 a0 gg gvn gdn x1 H.size v1 hv2) (cwV 1 hts gX12_sum_X12_needDoor rfl rfl rfl (by decide +kernel) ⟨Nat.le_of_ble_eq_true rfl, Nat.le_of_ble_eq_true rfl⟩) (va_recv hK hP (ci := 10) (q0 := 0) rfl rfl) cl_blindS (cl_preS hK hP hD hS hA hX [0, 1, 2, 3, 4, 5, 6, 7, 8, 9, 10, 11] (by decide) rfl) hP hD hS hA [0, 1, 2, 3, 4, 5, 6, 7, 8, 9, 10, 11] rfl rfl hl.1 rfl (lv_room (Nat.le_of_ble_eq_true rfl)) dX12_sum_2 ⟨Nat.le_of_ble_eq_true rfl, Nat.le_of_ble_eq_true rfl⟩ (cells' := 1) (slots' := 6) ⟨rfl, rfl⟩ (fun _ => updR [0, 1, 2, 3, 4, 5, 6, 7, 8, 9, 10, 11] rfl) (fun _ => updR [0, 1, 2, 3, 4, 5, 6, 7, 8, 9, 10, 11] rfl) (fun E ce q9 u H locs hw hE hP hD hS hc1 hc2 hc3 => ?_) (fun u H locs hw hP hD hS => ?_)
  · subst hw
    have hP : va_P (dC, dI) vwCl (w_X12_sum cy a0 gg gvn gdn gcs) H := hP
    obtain ⟨hE1, hE2⟩ := exE_pass hE h
    exact vx_out (fun x9 hx9 => (htab x9 hx9).elim) hlocks hc1 hc2 hc3 (fun t h1 h2 => by rw [hxx]; exact ⟨_, hE2.symm, ⟨hE1, by rw [h1]; exact hP, va_K.moved h2 hK⟩, hS.F h1⟩) hS.2.2 (by decide) (by decide)
  obtain ⟨hw1, hw2⟩ := hw
  subst hw2
  rw [← hw1] at h
  dsimp only [xb] at h
  have hP : va_P (dC, dI) vwCl (w_X12_sum cy a0 gg gvn gdn gcs) H := hP
  have hD : va_D A (w_X12_sum cy a0 gg gvn gdn gcs) := hD
  refine lv_aload_n hx hb dX12_sum_5 rfl (lv_at hl 0 rfl) ?_
  refine lv_iload_n hx hb dX12_sum_6 rfl (lv_at hl 2 rfl) ?_
  obtain ⟨v3, hv4, h⟩ := ok_bind h
  refine cx_vv (w2 := fun (_ : Unit) => w_X12_sum cy a0 gg gvn gdn gcs) (w2x := fun (_ : Unit) => w_X12_sum cy a0 gg gvn gdn gcs) (As := [.int x2]) (rest := []) ⟨hx, hb, hml, hown, hts⟩ (c_X12_needDoor l dC dI cy z hl9 a0 gg gvn gdn x2 H.size v3 hv4) (cwV 1 hts gX12_sum_X12_needDoor rfl rfl rfl (by decide +kernel) ⟨Nat.le_of_ble_eq_true rfl, Nat.le_of_ble_eq_true rfl⟩) (va_recv hK hP (ci := 10) (q0 := 0) rfl rfl) cl_blindS (cl_preS hK hP hD hS hA hX [0, 1, 2, 3, 4, 5, 6, 7, 8, 9, 10, 11] (by decide) rfl) hP hD hS hA [0, 1, 2, 3, 4, 5, 6, 7, 8, 9, 10, 11] rfl rfl hl.1 rfl (lv_room (Nat.le_of_ble_eq_true rfl)) dX12_sum_7 ⟨Nat.le_of_ble_eq_true rfl, Nat.le_of_ble_eq_true rfl⟩ (cells' := 2) (slots' := 12) ⟨rfl, rfl⟩ (fun _ => updR [0, 1, 2, 3, 4, 5, 6, 7, 8, 9, 10, 11] rfl) (fun _ => updR [0, 1, 2, 3, 4, 5, 6, 7, 8, 9, 10, 11] rfl) (fun E ce q9 u H locs hw hE hP hD hS hc1 hc2 hc3 => ?_) (fun u H locs hw hP hD hS => ?_)
  · subst hw
    have hP : va_P (dC, dI) vwCl (w_X12_sum cy a0 gg gvn gdn gcs) H := hP
    obtain ⟨hE1, hE2⟩ := exE_pass hE h
    exact vx_out (fun x9 hx9 => (htab x9 hx9).elim) hlocks hc1 hc2 hc3 (fun t h1 h2 => by rw [hxx]; exact ⟨_, hE2.symm, ⟨hE1, by rw [h1]; exact hP, va_K.moved h2 hK⟩, hS.F h1⟩) hS.2.2 (by decide) (by decide)
  obtain ⟨hw1, hw2⟩ := hw
  subst hw2
  rw [← hw1] at h
  dsimp only [xb] at h
  have hP : va_P (dC, dI) vwCl (w_X12_sum cy a0 gg gvn gdn gcs) H := hP
  have hD : va_D A (w_X12_sum cy a0 gg gvn gdn gcs) := hD
  refine lv_aload_n hx hb dX12_sum_10 rfl (lv_at hl 0 rfl) ?_
  refine va_get (D := (dC, dI)) (ci := 10) (v := .ref (a0 2)) (C := RX12) (T := TX12) (N := 17) hx hb hts in_X12 hown hK hP 0 rfl rfl 6 (by decide) lk0 (fun _ h9 => h9) rfl dX12_sum_11 ?_
  refine va_get (D := (dC, dI)) (ci := 7) (v := .int gvn.2.1) (C := RX9) (T := TX9) (N := 9) hx hb hts in_X9 hown hK hP 1 rfl rfl 1 (by decide) lk1 (fun _ h9 => h9) rfl dX12_sum_14 ?_
  refine lv_iconst (v := (2 : Int32)) hx hb dX12_sum_17 (by decide) ?_
  refine lv_icmp_ge (tgt := 32) hx hb dX12_sum_18 (by decide) (fun c5 => ?_) (fun c5 => ?_)
  · rw [if_pos c5] at h
    refine lv_aload_n hx hb dX12_sum_32 rfl (lv_at hl 0 rfl) ?_
    refine va_get (D := (dC, dI)) (ci := 10) (v := .ref (a0 78)) (C := RX12) (T := TX12) (N := 17) hx hb hts in_X12 hown hK hP 0 rfl rfl 15 (by decide) lk2 (fun _ h9 => h9) rfl dX12_sum_33 ?_
    refine lv_aload_n hx hb dX12_sum_36 rfl (lv_at hl 0 rfl) ?_
    refine va_get (D := (dC, dI)) (ci := 10) (v := .ref (a0 2)) (C := RX12) (T := TX12) (N := 17) hx hb hts in_X12 hown hK hP 0 rfl rfl 6 (by decide) lk0 (fun _ h9 => h9) rfl dX12_sum_37 ?_
    refine va_get (D := (dC, dI)) (ci := 7) (v := .ref (a0 3)) (C := RX9) (T := TX9) (N := 9) hx hb hts in_X9 hown hK hP 1 rfl rfl 2 (by decide) lk3 (fun _ h9 => h9) rfl dX12_sum_40 ?_
    refine lv_iload_n hx hb dX12_sum_43 rfl (lv_at hl 1 rfl) ?_
    refine lv_iload_n hx hb dX12_sum_44 rfl (lv_at hl 2 rfl) ?_
    refine lv_aload_n hx hb dX12_sum_45 rfl (lv_at hl 0 rfl) ?_
    refine va_get (D := (dC, dI)) (ci := 10) (v := .ref (a0 2)) (C := RX12) (T := TX12) (N := 17) hx hb hts in_X12 hown hK hP 0 rfl rfl 6 (by decide) lk0 (fun _ h9 => h9) rfl dX12_sum_46 ?_
    refine va_get (D := (dC, dI)) (ci := 7) (v := .int gvn.2.1) (C := RX9) (T := TX9) (N := 9) hx hb hts in_X9 hown hK hP 1 rfl rfl 1 (by decide) lk1 (fun _ h9 => h9) rfl dX12_sum_49 ?_
    obtain ⟨v6, hv7, h⟩ := ok_bind h
    refine cl_vv (w2 := fun (u : (Int32 × Int32 × (Nat → Int32))) => w_X12_sum cy a0 gg gvn gdn u) (As := [.ref (a0 3), .int x1, .int x2, .int gvn.2.1]) (rest := []) ⟨hx, hb, hml, hown, hts⟩ (c_X1_add l dC dI cy (fun k => a0 (k + 78)) (fun k => a0 (k + 3)) gcs gdn x1 x2 gvn.2.1 H.size v6 hv7) (cwV 4 hts gX12_sum_X1_add rfl rfl rfl (by decide +kernel) ⟨Nat.le_of_ble_eq_true rfl, Nat.le_of_ble_eq_true rfl⟩) (va_recv hK hP (ci := 0) (q0 := 12) rfl rfl) cl_blind (cl_pre hK hP hD [12, 13, 2, 3, 4, 5, 6] (by decide) rfl) hP hD hS hA [12, 13, 2, 3, 4, 5, 6] rfl rfl hl.1 rfl (lv_room (Nat.le_of_ble_eq_true rfl)) dX12_sum_52 ⟨Nat.le_of_ble_eq_true rfl, Nat.le_of_ble_eq_true rfl⟩ ⟨rfl, rfl⟩ (fun _ => updM [12, 13, 2, 3, 4, 5, 6] [0, 1, 7, 8, 9, 10, 11] 14 rfl rfl rfl rfl (by decide +kernel) (by decide +kernel) rfl) (fun u H locs hw hP hD hS => ?_)
    have hw := hw.symm
    subst hw
    have hP : va_P (dC, dI) vwCl (w_X12_sum cy a0 gg gvn gdn v6) H := hP
    have hD : va_D A (w_X12_sum cy a0 gg gvn gdn v6) := hD
    refine lv_iload_n hx hb dX12_sum_55 rfl (lv_at hl 3 rfl) ?_
    refine lv_iconst (v := (-1 : Int32)) hx hb dX12_sum_56 (by decide) ?_
    refine lv_icmp_ne (tgt := 68) hx hb dX12_sum_57 (by decide) (fun c8 => ?_) (fun c8 => ?_)
    · rw [if_neg c8] at h
      refine lv_iload_n hx hb dX12_sum_68 rfl (lv_at hl 3 rfl) ?_
      refine lv_bipush (v := (-2 : Int32)) hx hb dX12_sum_69 (by decide) ?_
      refine lv_icmp_ne (tgt := 82) hx hb dX12_sum_71 (by decide) (fun c9 => ?_) (fun c9 => ?_)
      · rw [if_neg c9] at h
        refine lv_iload_n hx hb dX12_sum_82 rfl (lv_at hl 3 rfl) ?_
        refine lv_if_lt (tgt := 97) hx hb dX12_sum_83 (by decide) (fun c10 => ?_) (fun c10 => ?_)
        · rw [if_pos c10] at h
          refine vx_throwSW (XC := xx) (text := "no such figure") (names := ["java/lang/RuntimeException", "java/lang/Exception"]) hx hb hl9 hown (by decide) (by decide) lk4 lk5 (hX.tx 354 "no such figure" (by decide)) (ex_at165 gd165 hX) (by decide +kernel) hX.us hX.ss hS (by rw [hml]; exact hl.1) dX12_sum_97 dX12_sum_100 dX12_sum_101 dX12_sum_104 dX12_sum_107 (fun x9 hx9 => (htab x9 hx9).elim) (Nat.le_of_ble_eq_true rfl) (Nat.le_of_ble_eq_true rfl) (Nat.le_of_ble_eq_true rfl) (Nat.le_of_ble_eq_true rfl) hlocks (fun t h1 h2 h3 => by rw [hxx]; have hh := Option.some.inj h; exact ⟨(v6), snd_of hh, ⟨exE_1 (fst_of hh).symm, ex_po hP hK h1 h3⟩, ex_F hS h2 h3⟩) hS.2.2 (by decide) (by decide)
        · rw [if_neg c10] at h
          refine lv_iload_n hx hb dX12_sum_86 rfl (lv_at hl 3 rfl) ?_
          refine lv_aload_n hx hb dX12_sum_87 rfl (lv_at hl 0 rfl) ?_
          refine va_get (D := (dC, dI)) (ci := 10) (v := .ref (a0 78)) (C := RX12) (T := TX12) (N := 17) hx hb hts in_X12 hown hK hP 0 rfl rfl 15 (by decide) lk2 (fun _ h9 => h9) rfl dX12_sum_88 ?_
          refine va_get (D := (dC, dI)) (ci := 0) (v := .int v6.1) (C := RX1) (T := TX1) (N := 3) hx hb hts in_X1 hown hK hP 12 rfl rfl 0 (by decide) lk6 (fun _ h9 => h9) rfl dX12_sum_91 ?_
          refine lv_icmp_lt (tgt := 108) hx hb dX12_sum_94 (by decide) (fun c11 => ?_) (fun c11 => ?_)
          · rw [if_pos c11] at h
            refine lv_aload_n hx hb dX12_sum_108 rfl (lv_at hl 0 rfl) ?_
            refine va_get (D := (dC, dI)) (ci := 10) (v := .ref (a0 78)) (C := RX12) (T := TX12) (N := 17) hx hb hts in_X12 hown hK hP 0 rfl rfl 15 (by decide) lk2 (fun _ h9 => h9) rfl dX12_sum_109 ?_
            refine lv_iload_n hx hb dX12_sum_112 rfl (lv_at hl 3 rfl) ?_
            obtain ⟨v12, hv13, h⟩ := ok_bind h
            refine cl_vi (w2 := fun (_ : Unit) => w_X12_sum cy a0 gg gvn gdn v6) (As := [.int x3]) (rest := []) ⟨hx, hb, hml, hown, hts⟩ (c_X1_figureAt l dC dI cy (fun k => a0 (k + 78)) v6 x3 H.size v12 hv13) (cwV 1 hts gX12_sum_X1_figureAt rfl rfl rfl (by decide +kernel) ⟨Nat.le_of_ble_eq_true rfl, Nat.le_of_ble_eq_true rfl⟩) (va_recv hK hP (ci := 0) (q0 := 12) rfl rfl) cl_blind (cl_pre hK hP hD [12, 13] (by decide) rfl) hP hD hS hA [12, 13] rfl rfl hl.1 rfl (lv_room (Nat.le_of_ble_eq_true rfl)) dX12_sum_113 ⟨Nat.le_of_ble_eq_true rfl, Nat.le_of_ble_eq_true rfl⟩ ⟨rfl, rfl⟩ (fun _ => updR [12, 13] rfl) (fun r u H locs hw hP hD hS => ?_)
            have hw := hw.symm
            subst hw
            have hP : va_P (dC, dI) vwCl (w_X12_sum cy a0 gg gvn gdn v6) H := hP
            have hD : va_D A (w_X12_sum cy a0 gg gvn gdn v6) := hD
            refine vx_ret ?_
            refine W.widen (k := 3) (n := 18) (by decide) (by decide) ?_
            exact W.iret (v := v12) hx hb hr (fun t ht hW => by rw [hqq]; have hh := Option.some.inj h; exact ⟨⟨v12, (v6), rfl, ⟨fst_of hh, snd_of hh⟩, by rw [ht]; exact hP, va_K.moved hW.alike hK⟩, hS.F ht⟩) hS.2.2 dX12_sum_116
          · rw [if_neg c11] at h
            refine vx_throwSW (XC := xx) (text := "no such figure") (names := ["java/lang/RuntimeException", "java/lang/Exception"]) hx hb hl9 hown (by decide) (by decide) lk4 lk5 (hX.tx 354 "no such figure" (by decide)) (ex_at165 gd165 hX) (by decide +kernel) hX.us hX.ss hS (by rw [hml]; exact hl.1) dX12_sum_97 dX12_sum_100 dX12_sum_101 dX12_sum_104 dX12_sum_107 (fun x9 hx9 => (htab x9 hx9).elim) (Nat.le_of_ble_eq_true rfl) (Nat.le_of_ble_eq_true rfl) (Nat.le_of_ble_eq_true rfl) (Nat.le_of_ble_eq_true rfl) hlocks (fun t h1 h2 h3 => by rw [hxx]; have hh := Option.some.inj h; exact ⟨(v6), snd_of hh, ⟨exE_1 (fst_of hh).symm, ex_po hP hK h1 h3⟩, ex_F hS h2 h3⟩) hS.2.2 (by decide) (by decide)
      · rw [if_pos c9] at h
        refine lv_aload_n hx hb dX12_sum_74 rfl (lv_at hl 0 rfl) ?_
        refine va_get (D := (dC, dI)) (ci := 10) (v := .ref (a0 78)) (C := RX12) (T := TX12) (N := 17) hx hb hts in_X12 hown hK hP 0 rfl rfl 15 (by decide) lk2 (fun _ h9 => h9) rfl dX12_sum_75 ?_
        refine va_get (D := (dC, dI)) (ci := 0) (v := .int v6.2.1) (C := RX1) (T := TX1) (N := 3) hx hb hts in_X1 hown hK hP 12 rfl rfl 1 (by decide) lk7 (fun _ h9 => h9) rfl dX12_sum_78 ?_
        refine vx_ret ?_
        refine W.widen (k := 3) (n := 18) (by decide) (by decide) ?_
        exact W.iret (v := v6.2.1) hx hb hr (fun t ht hW => by rw [hqq]; have hh := Option.some.inj h; exact ⟨⟨v6.2.1, (v6), rfl, ⟨fst_of hh, snd_of hh⟩, by rw [ht]; exact hP, va_K.moved hW.alike hK⟩, hS.F ht⟩) hS.2.2 dX12_sum_81
    · rw [if_pos c8] at h
      refine lv_aload_n hx hb dX12_sum_60 rfl (lv_at hl 0 rfl) ?_
      refine va_get (D := (dC, dI)) (ci := 10) (v := .ref (a0 78)) (C := RX12) (T := TX12) (N := 17) hx hb hts in_X12 hown hK hP 0 rfl rfl 15 (by decide) lk2 (fun _ h9 => h9) rfl dX12_sum_61 ?_
      refine va_get (D := (dC, dI)) (ci := 0) (v := .int v6.1) (C := RX1) (T := TX1) (N := 3) hx hb hts in_X1 hown hK hP 12 rfl rfl 0 (by decide) lk6 (fun _ h9 => h9) rfl dX12_sum_64 ?_
      refine vx_ret ?_
      refine W.widen (k := 3) (n := 18) (by decide) (by decide) ?_
      exact W.iret (v := v6.1) hx hb hr (fun t ht hW => by rw [hqq]; have hh := Option.some.inj h; exact ⟨⟨v6.1, (v6), rfl, ⟨fst_of hh, snd_of hh⟩, by rw [ht]; exact hP, va_K.moved hW.alike hK⟩, hS.F ht⟩) hS.2.2 dX12_sum_67
  · rw [if_neg c5] at h
    refine vx_throwSW (XC := xx) (text := "no figures can be added in such a base") (names := ["java/lang/RuntimeException", "java/lang/Exception"]) hx hb hl9 hown (by decide) (by decide) lk8 lk9 (hX.tx 343 "no figures can be added in such a base" (by decide)) (ex_at256 gd256 hX) (by decide +kernel) hX.us hX.ss hS (by rw [hml]; exact hl.1) dX12_sum_21 dX12_sum_24 dX12_sum_25 dX12_sum_28 dX12_sum_31 (fun x9 hx9 => (htab x9 hx9).elim) (Nat.le_of_ble_eq_true rfl) (Nat.le_of_ble_eq_true rfl) (Nat.le_of_ble_eq_true rfl) (Nat.le_of_ble_eq_true rfl) hlocks (fun t h1 h2 h3 => by rw [hxx]; have hh := Option.some.inj h; exact ⟨(gcs), snd_of hh, ⟨exE_2 (fst_of hh).symm, ex_po hP hK h1 h3⟩, ex_F hS h2 h3⟩) hS.2.2 (by decide) (by decide)

abbrev w_X12_image (cy : Nat → ClassId) (a0 : Nat → Nat) (gg : Int32 × Int32 × Int32 × Int32 × Int32 × Int32) (gvn : Int32 × Int32 × (Nat → Int32) × (Nat → Int32) × (Nat → Int32) × (Nat → Int32) × (Nat → Int32)) (gdn : Int32 × Int32 × (Nat → Int32) × (Nat → Int32) × (Nat → Int32) × (Nat → Int32)) (gcn : Int32 × (Nat → Int32) × (Nat → Int32) × (Nat → Int32)) (gvk : Int32 × Int32 × (Nat → Int32) × (Nat → Int32) × (Nat → Int32) × (Nat → Int32) × (Nat → Int32)) (gdk : Int32 × Int32 × (Nat → Int32) × (Nat → Int32) × (Nat → Int32) × (Nat → Int32)) (gck : Int32 × (Nat → Int32) × (Nat → Int32) × (Nat → Int32)) : va_W := [(a0 0, .inr (10, [.ref (a0 1), .int (gg.1), .int (gg.2.1), .int (gg.2.2.1), .int (gg.2.2.2.1), .int (gg.2.2.2.2.1), .ref (a0 2), .ref (a0 17), .ref (a0 32), .int (gg.2.2.2.2.2), .ref (a0 47), .ref (a0 48), .ref (a0 49), .ref (a0 50), .ref (a0 68), .ref (a0 78), .ref (a0 80)])), (a0 2, .inr (7, [.int (gvn.1), .int (gvn.2.1), .ref (a0 3), .ref (a0 8), .ref (a0 12), .ref (a0 13), .ref (a0 14), .ref (a0 15), .ref (a0 16)])), (a0 3, .inr (2, [.int (gdn.1), .int (gdn.2.1), .ref (a0 4), .ref (a0 5), .ref (a0 6), .ref (a0 7)])), (a0 4, .inl (cy 1, 10, .inl (gdn.2.2.1))), (a0 5, .inl (cy 1, 10, .inl (gdn.2.2.2.1))), (a0 6, .inl (cy 1, 10, .inl (gdn.2.2.2.2.1))), (a0 7, .inl (cy 1, 50, .inl (gdn.2.2.2.2.2))), (a0 8, .inr (6, [.int (gcn.1), .ref (a0 9), .ref (a0 10), .ref (a0 11)])), (a0 9, .inl (cy 1, 12, .inl (gcn.2.1))), (a0 10, .inl (cy 1, 12, .inl (gcn.2.2.1))), (a0 11, .inl (cy 1, 12, .inl (gcn.2.2.2))), (a0 12, .inl (cy 1, 5, .inl (gvn.2.2.1))), (a0 13, .inl (cy 1, 5, .inl (gvn.2.2.2.1))), (a0 14, .inl (cy 1, 5, .inl (gvn.2.2.2.2.1))), (a0 15, .inl (cy 1, 5, .inl (gvn.2.2.2.2.2.1))), (a0 16, .inl (cy 1, 5, .inl (gvn.2.2.2.2.2.2))), (a0 32, .inr (7, [.int (gvk.1), .int (gvk.2.1), .ref (a0 33), .ref (a0 38), .ref (a0 42), .ref (a0 43), .ref (a0 44), .ref (a0 45), .ref (a0 46)])), (a0 33, .inr (2, [.int (gdk.1), .int (gdk.2.1), .ref (a0 34), .ref (a0 35), .ref (a0 36), .ref (a0 37)])), (a0 34, .inl (cy 1, 10, .inl (gdk.2.2.1))), (a0 35, .inl (cy 1, 10, .inl (gdk.2.2.2.1))), (a0 36, .inl (cy 1, 10, .inl (gdk.2.2.2.2.1))), (a0 37, .inl (cy 1, 50, .inl (gdk.2.2.2.2.2))), (a0 38, .inr (6, [.int (gck.1), .ref (a0 39), .ref (a0 40), .ref (a0 41)])), (a0 39, .inl (cy 1, 12, .inl (gck.2.1))), (a0 40, .inl (cy 1, 12, .inl (gck.2.2.1))), (a0 41, .inl (cy 1, 12, .inl (gck.2.2.2))), (a0 42, .inl (cy 1, 5, .inl (gvk.2.2.1))), (a0 43, .inl (cy 1, 5, .inl (gvk.2.2.2.1))), (a0 44, .inl (cy 1, 5, .inl (gvk.2.2.2.2.1))), (a0 45, .inl (cy 1, 5, .inl (gvk.2.2.2.2.2.1))), (a0 46, .inl (cy 1, 5, .inl (gvk.2.2.2.2.2.2)))]
abbrev rm_X12_image : Room := { frames := 3, cells := 0, slots := 0, locals := 142 }
def p_X12_image (gg : Int32 × Int32 × Int32 × Int32 × Int32 × Int32) (gvn : Int32 × Int32 × (Nat → Int32) × (Nat → Int32) × (Nat → Int32) × (Nat → Int32) × (Nat → Int32)) (gdn : Int32 × Int32 × (Nat → Int32) × (Nat → Int32) × (Nat → Int32) × (Nat → Int32)) (gcn : Int32 × (Nat → Int32) × (Nat → Int32) × (Nat → Int32)) (gvk : Int32 × Int32 × (Nat → Int32) × (Nat → Int32) × (Nat → Int32) × (Nat → Int32) × (Nat → Int32)) (gdk : Int32 × Int32 × (Nat → Int32) × (Nat → Int32) × (Nat → Int32) × (Nat → Int32)) (gck : Int32 × (Nat → Int32) × (Nat → Int32) × (Nat → Int32)) : Option ((Int32 × Int32 × Int32 × Int32 × Int32 × Int32) × (Int32 × Int32 × (Nat → Int32) × (Nat → Int32) × (Nat → Int32) × (Nat → Int32) × (Nat → Int32)) × (Int32 × Int32 × (Nat → Int32) × (Nat → Int32) × (Nat → Int32) × (Nat → Int32)) × (Int32 × (Nat → Int32) × (Nat → Int32) × (Nat → Int32))) := ((p_X9_copyFrom gvk gdk gck gvn gdn gcn).bind fun v1 => some (((gg.1, gg.2.1, gg.2.2.1, gg.2.2.2.1, gg.2.2.2.2.1, (1 : Int32)), v1)))
set_option maxHeartbeats 1000000 in
set_option maxRecDepth 100000 in
theorem c_X12_image (l : Launch) (dC : Nat → ClassId) (dI : Nat → Nat → Nat) (cy : Nat → ClassId) (a0 : Nat → Nat) (gg : Int32 × Int32 × Int32 × Int32 × Int32 × Int32) (gvn : Int32 × Int32 × (Nat → Int32) × (Nat → Int32) × (Nat → Int32) × (Nat → Int32) × (Nat → Int32)) (gdn : Int32 × Int32 × (Nat → Int32) × (Nat → Int32) × (Nat → Int32) × (Nat → Int32)) (gcn : Int32 × (Nat → Int32) × (Nat → Int32) × (Nat → Int32)) (gvk : Int32 × Int32 × (Nat → Int32) × (Nat → Int32) × (Nat → Int32) × (Nat → Int32) × (Nat → Int32)) (gdk : Int32 × Int32 × (Nat → Int32) × (Nat → Int32) × (Nat → Int32) × (Nat → Int32)) (gck : Int32 × (Nat → Int32) × (Nat → Int32) × (Nat → Int32)) (sz : Nat) (R0 : (Int32 × Int32 × Int32 × Int32 × Int32 × Int32) × (Int32 × Int32 × (Nat → Int32) × (Nat → Int32) × (Nat → Int32) × (Nat → Int32) × (Nat → Int32)) × (Int32 × Int32 × (Nat → Int32) × (Nat → Int32) × (Nat → Int32) × (Nat → Int32)) × (Int32 × (Nat → Int32) × (Nat → Int32) × (Nat → Int32))) (h : p_X12_image gg gvn gdn gcn gvk gdk gck = some R0) : Met l yX12_image wsX12_image rm_X12_image (va_Pc [.ref (a0 0)] (prC dC dI cy (w_X12_image cy a0 gg gvn gdn gcn gvk gdk gck) sz)) (va_Qv (fun (u : (Int32 × Int32 × Int32 × Int32 × Int32 × Int32) × (Int32 × Int32 × (Nat → Int32) × (Nat → Int32) × (Nat → Int32) × (Nat → Int32) × (Nat → Int32)) × (Int32 × Int32 × (Nat → Int32) × (Nat → Int32) × (Nat → Int32) × (Nat → Int32)) × (Int32 × (Nat → Int32) × (Nat → Int32) × (Nat → Int32))) => u = R0) (fun (u : (Int32 × Int32 × Int32 × Int32 × Int32 × Int32) × (Int32 × Int32 × (Nat → Int32) × (Nat → Int32) × (Nat → Int32) × (Nat → Int32) × (Nat → Int32)) × (Int32 × Int32 × (Nat → Int32) × (Nat → Int32) × (Nat → Int32) × (Nat → Int32)) × (Int32 × (Nat → Int32) × (Nat → Int32) × (Nat → Int32))) t => poC dC dI cy (w_X12_image cy a0 u.1 gvn gdn gcn u.2.1 u.2.2.1 u.2.2.2) t) (va_A (w_X12_image cy a0 gg gvn gdn gcn gvk gdk gck) sz)) 0 0 (va_A (w_X12_image cy a0 gg gvn gdn gcn gvk gdk gck) sz) := by
  refine Met.ofW (cc := cX12_image) (maxL := 1) (ret := none) (by decide) rfl ?_
  intro p e s m aa below meth c s₁ B hml hv
  obtain ⟨haa, hsz, hP, hK, hD0⟩ := hv
  have hx := B.exec
  have hb := B.bytes
  have hr := B.returns
  have hts := atoms_spec (ws := wsX12_image) B.pre
  have hown : s.vm.findClass RX12 = some m.cls := findClass_of_methodNamed B.named
  have hlocks := B.notSynchronized
  subst hsz
  have hD := hD0.self (sz := s.heap.size)
  obtain ⟨qq, hqq⟩ : ∃ qq, qq = (va_Qv (fun (u : (Int32 × Int32 × Int32 × Int32 × Int32 × Int32) × (Int32 × Int32 × (Nat → Int32) × (Nat → Int32) × (Nat → Int32) × (Nat → Int32) × (Nat → Int32)) × (Int32 × Int32 × (Nat → Int32) × (Nat → Int32) × (Nat → Int32) × (Nat → Int32)) × (Int32 × (Nat → Int32) × (Nat → Int32) × (Nat → Int32))) => u = R0) (fun (u : (Int32 × Int32 × Int32 × Int32 × Int32 × Int32) × (Int32 × Int32 × (Nat → Int32) × (Nat → Int32) × (Nat → Int32) × (Nat → Int32) × (Nat → Int32)) × (Int32 × Int32 × (Nat → Int32) × (Nat → Int32) × (Nat → Int32) × (Nat → Int32)) × (Int32 × (Nat → Int32) × (Nat → Int32) × (Nat → Int32))) t => poC dC dI cy (w_X12_image cy a0 u.1 gvn gdn gcn u.2.1 u.2.2.1 u.2.2.2) t) (va_A (w_X12_image cy a0 gg gvn gdn gcn gvk gdk gck) s.heap.size)) := ⟨_, rfl⟩
  rw [← hqq]
  generalize hAe : va_A (w_X12_image cy a0 gg gvn gdn gcn gvk gdk gck) s.heap.size = A at hD hqq ⊢
  have hA : ∀ q : Nat, s.heap.size ≤ q → A q := fun q h => by rw [← hAe]; exact Or.inr h
  have hS : va_S A s.heap s.heap [] := va_S.rf
  have hl := lv_entry ([.ref (a0 0)]) (n := 1) (Nat.le_of_ble_eq_true rfl)
  have hE : entryFrame m aa 1 = F0 m 0 ((lg_sl ([.ref (a0 0)]) ++ List.replicate (1 - (lg_sl ([.ref (a0 0)])).length) Slot.unset).toArray) [] := by rw [haa]; exact lg_entry_eq m _ 1
  refine W.eq hE ?_
  generalize (lg_sl ([.ref (a0 0)]) ++ List.replicate (1 - (lg_sl ([.ref (a0 0)])).length) Slot.unset).toArray = ls at hl ⊢
  have hl : lv_has ls 1 [(0, .ref (a0 0))] := hl
  change W p l e rm_X12_image s m aa below meth c s.heap [] 0 0 (MQ below qq aa s 0 0 A) (F0 m 0 ls [])
  have hS0 := hS
  have lk0 := hts (.fieldLink RX12 27 "GoatDoors" "kept" "LGoatDoors$Village;") (by decide +kernel)
  have lk1 := hts (.fieldLink RX12 20 "GoatDoors" "now" "LGoatDoors$Village;") (by decide +kernel)
  have lk2 := hts (.fieldLink RX12 110 "GoatDoors" "hasImage" "Z") (by decide +kernel)
  have in_X12 : ∀ w ∈ wsX120, w ∈ wsX12_image := by decide +kernel
  obtain ⟨H, hH⟩ : ∃ H : Heap, H = s.heap := ⟨_, rfl⟩
  obtain ⟨locs, hlocs⟩ : ∃ locs : List Loc, locs = [] := ⟨_, rfl⟩
  have hS : va_S A s.heap H locs := by rw [hH, hlocs]; exact hS
  rw [← hH] at hP
  suffices hg : W p l e rm_X12_image s m aa below meth c H locs 0 0 (MQ below qq aa s 0 0 A) (F0 m 0 ls []) by subst hH; subst hlocs; exact hg
  unfold p_X12_image at h
  refine lv_aload_n hx hb dX12_image_0 rfl (lv_at hl 0 rfl) ?_
  refine va_get (D := (dC, dI)) (ci := 10) (v := .ref (a0 32)) (C := RX12) (T := TX12) (N := 17) hx hb hts in_X12 hown hK hP 0 rfl rfl 8 (by decide) lk0 (fun _ h9 => h9) rfl dX12_image_1 ?_
  refine lv_aload_n hx hb dX12_image_4 rfl (lv_at hl 0 rfl) ?_
  refine va_get (D := (dC, dI)) (ci := 10) (v := .ref (a0 2)) (C := RX12) (T := TX12) (N := 17) hx hb hts in_X12 hown hK hP 0 rfl rfl 6 (by decide) lk1 (fun _ h9 => h9) rfl dX12_image_5 ?_
  obtain ⟨v1, hv2, h⟩ := ok_bind h
  refine cl_vv (w2 := fun (u : (Int32 × Int32 × (Nat → Int32) × (Nat → Int32) × (Nat → Int32) × (Nat → Int32) × (Nat → Int32)) × (Int32 × Int32 × (Nat → Int32) × (Nat → Int32) × (Nat → Int32) × (Nat → Int32)) × (Int32 × (Nat → Int32) × (Nat → Int32) × (Nat → Int32))) => w_X12_image cy a0 gg gvn gdn gcn u.1 u.2.1 u.2.2) (As := [.ref (a0 2)]) (rest := []) ⟨hx, hb, hml, hown, hts⟩ (c_X9_copyFrom l dC dI cy (fun k => a0 (k + 32)) (fun k => a0 (k + 2)) gvk gdk gck gvn gdn gcn H.size v1 hv2) (cwV 1 hts gX12_image_X9_copyFrom rfl rfl rfl (by decide +kernel) ⟨Nat.le_of_ble_eq_true rfl, Nat.le_of_ble_eq_true rfl⟩) (va_recv hK hP (ci := 7) (q0 := 16) rfl rfl) cl_blind (cl_pre hK hP hD [16, 17, 18, 19, 20, 21, 22, 23, 24, 25, 26, 27, 28, 29, 30, 1, 2, 3, 4, 5, 6, 7, 8, 9, 10, 11, 12, 13, 14, 15] (by decide) rfl) hP hD hS hA [16, 17, 18, 19, 20, 21, 22, 23, 24, 25, 26, 27, 28, 29, 30, 1, 2, 3, 4, 5, 6, 7, 8, 9, 10, 11, 12, 13, 14, 15] rfl rfl hl.1 rfl (lv_room (Nat.le_of_ble_eq_true rfl)) dX12_image_8 ⟨Nat.le_of_ble_eq_true rfl, Nat.le_of_ble_eq_true rfl⟩ ⟨rfl, rfl⟩ (fun _ => updM [16, 17, 18, 19, 20, 21, 22, 23, 24, 25, 26, 27, 28, 29, 30, 1, 2, 3, 4, 5, 6, 7, 8, 9, 10, 11, 12, 13, 14, 15] [0] 31 rfl rfl rfl rfl (by decide +kernel) (by decide +kernel) rfl) (fun u H locs hw hP hD hS => ?_)
  have hw := hw.symm
  subst hw
  have hP : va_P (dC, dI) vwCl (w_X12_image cy a0 gg gvn gdn gcn v1.1 v1.2.1 v1.2.2) H := hP
  have hD : va_D A (w_X12_image cy a0 gg gvn gdn gcn v1.1 v1.2.1 v1.2.2) := hD
  refine lv_aload_n hx hb dX12_image_11 rfl (lv_at hl 0 rfl) ?_
  refine lv_iconst (v := (1 : Int32)) hx hb dX12_image_12 (by decide) ?_
  refine va_put (D := (dC, dI)) (ci := 10) (v := .int (1 : Int32)) (ty := .boolean) (C := RX12) (T := TX12) (N := 17) hx hb hts in_X12 tyX12 tyX12_ok nmX12 hown hK hP hD hS 0 rfl rfl 9 (by decide) lk2 (fun _ h9 => h9) rfl (by decide +kernel) rfl rfl (Nat.le_of_ble_eq_true rfl) dX12_image_13 (fun H locs hP hD hS => ?_)
  have hP : va_P (dC, dI) vwCl (w_X12_image cy a0 ((gg.1, gg.2.1, gg.2.2.1, gg.2.2.2.1, gg.2.2.2.2.1, (1 : Int32))) gvn gdn gcn v1.1 v1.2.1 v1.2.2) H := hP
  have hD : va_D A (w_X12_image cy a0 ((gg.1, gg.2.1, gg.2.2.1, gg.2.2.2.1, gg.2.2.2.2.1, (1 : Int32))) gvn gdn gcn v1.1 v1.2.1 v1.2.2) := hD
  exact W.vret hx hb hr (fun t ht hW => by rw [hqq]; have hh := Option.some.inj h; exact ⟨⟨(((gg.1, gg.2.1, gg.2.2.1, gg.2.2.2.1, gg.2.2.2.2.1, (1 : Int32)), v1)), rfl, Option.some.inj h, by rw [ht]; exact hP, va_K.moved hW.alike hK⟩, hS.F ht⟩) hS.2.2 dX12_image_16

abbrev w_X12_restore (cy : Nat → ClassId) (a0 : Nat → Nat) (gg : Int32 × Int32 × Int32 × Int32 × Int32 × Int32) (gvn : Int32 × Int32 × (Nat → Int32) × (Nat → Int32) × (Nat → Int32) × (Nat → Int32) × (Nat → Int32)) (gdn : Int32 × Int32 × (Nat → Int32) × (Nat → Int32) × (Nat → Int32) × (Nat → Int32)) (gcn : Int32 × (Nat → Int32) × (Nat → Int32) × (Nat → Int32)) (gvk : Int32 × Int32 × (Nat → Int32) × (Nat → Int32) × (Nat → Int32) × (Nat → Int32) × (Nat → Int32)) (gdk : Int32 × Int32 × (Nat → Int32) × (Nat → Int32) × (Nat → Int32) × (Nat → Int32)) (gck : Int32 × (Nat → Int32) × (Nat → Int32) × (Nat → Int32)) : va_W := [(a0 0, .inr (10, [.ref (a0 1), .int (gg.1), .int (gg.2.1), .int (gg.2.2.1), .int (gg.2.2.2.1), .int (gg.2.2.2.2.1), .ref (a0 2), .ref (a0 17), .ref (a0 32), .int (gg.2.2.2.2.2), .ref (a0 47), .ref (a0 48), .ref (a0 49), .ref (a0 50), .ref (a0 68), .ref (a0 78), .ref (a0 80)])), (a0 2, .inr (7, [.int (gvn.1), .int (gvn.2.1), .ref (a0 3), .ref (a0 8), .ref (a0 12), .ref (a0 13), .ref (a0 14), .ref (a0 15), .ref (a0 16)])), (a0 3, .inr (2, [.int (gdn.1), .int (gdn.2.1), .ref (a0 4), .ref (a0 5), .ref (a0 6), .ref (a0 7)])), (a0 4, .inl (cy 1, 10, .inl (gdn.2.2.1))), (a0 5, .inl (cy 1, 10, .inl (gdn.2.2.2.1))), (a0 6, .inl (cy 1, 10, .inl (gdn.2.2.2.2.1))), (a0 7, .inl (cy 1, 50, .inl (gdn.2.2.2.2.2))), (a0 8, .inr (6, [.int (gcn.1), .ref (a0 9), .ref (a0 10), .ref (a0 11)])), (a0 9, .inl (cy 1, 12, .inl (gcn.2.1))), (a0 10, .inl (cy 1, 12, .inl (gcn.2.2.1))), (a0 11, .inl (cy 1, 12, .inl (gcn.2.2.2))), (a0 12, .inl (cy 1, 5, .inl (gvn.2.2.1))), (a0 13, .inl (cy 1, 5, .inl (gvn.2.2.2.1))), (a0 14, .inl (cy 1, 5, .inl (gvn.2.2.2.2.1))), (a0 15, .inl (cy 1, 5, .inl (gvn.2.2.2.2.2.1))), (a0 16, .inl (cy 1, 5, .inl (gvn.2.2.2.2.2.2))), (a0 32, .inr (7, [.int (gvk.1), .int (gvk.2.1), .ref (a0 33), .ref (a0 38), .ref (a0 42), .ref (a0 43), .ref (a0 44), .ref (a0 45), .ref (a0 46)])), (a0 33, .inr (2, [.int (gdk.1), .int (gdk.2.1), .ref (a0 34), .ref (a0 35), .ref (a0 36), .ref (a0 37)])), (a0 34, .inl (cy 1, 10, .inl (gdk.2.2.1))), (a0 35, .inl (cy 1, 10, .inl (gdk.2.2.2.1))), (a0 36, .inl (cy 1, 10, .inl (gdk.2.2.2.2.1))), (a0 37, .inl (cy 1, 50, .inl (gdk.2.2.2.2.2))), (a0 38, .inr (6, [.int (gck.1), .ref (a0 39), .ref (a0 40), .ref (a0 41)])), (a0 39, .inl (cy 1, 12, .inl (gck.2.1))), (a0 40, .inl (cy 1, 12, .inl (gck.2.2.1))), (a0 41, .inl (cy 1, 12, .inl (gck.2.2.2))), (a0 42, .inl (cy 1, 5, .inl (gvk.2.2.1))), (a0 43, .inl (cy 1, 5, .inl (gvk.2.2.2.1))), (a0 44, .inl (cy 1, 5, .inl (gvk.2.2.2.2.1))), (a0 45, .inl (cy 1, 5, .inl (gvk.2.2.2.2.2.1))), (a0 46, .inl (cy 1, 5, .inl (gvk.2.2.2.2.2.2)))]
abbrev rm_X12_restore : Room := { frames := 3, cells := 0, slots := 0, locals := 142 }
def p_X12_restore (gg : Int32 × Int32 × Int32 × Int32 × Int32 × Int32) (gvn : Int32 × Int32 × (Nat → Int32) × (Nat → Int32) × (Nat → Int32) × (Nat → Int32) × (Nat → Int32)) (gdn : Int32 × Int32 × (Nat → Int32) × (Nat → Int32) × (Nat → Int32) × (Nat → Int32)) (gcn : Int32 × (Nat → Int32) × (Nat → Int32) × (Nat → Int32)) (gvk : Int32 × Int32 × (Nat → Int32) × (Nat → Int32) × (Nat → Int32) × (Nat → Int32) × (Nat → Int32)) (gdk : Int32 × Int32 × (Nat → Int32) × (Nat → Int32) × (Nat → Int32) × (Nat → Int32)) (gck : Int32 × (Nat → Int32) × (Nat → Int32) × (Nat → Int32)) : Option (Int32 × (Int32 × Int32 × (Nat → Int32) × (Nat → Int32) × (Nat → Int32) × (Nat → Int32) × (Nat → Int32)) × (Int32 × Int32 × (Nat → Int32) × (Nat → Int32) × (Nat → Int32) × (Nat → Int32)) × (Int32 × (Nat → Int32) × (Nat → Int32) × (Nat → Int32))) := (if gg.2.2.2.2.2 = (0 : Int32) then (if isZ gg.2.2.2.2.2 then some (gg.2.2.2.2.2, (gvn, gdn, gcn)) else none) else ((p_X9_copyFrom gvn gdn gcn gvk gdk gck).bind fun v3 => (if isZ gg.2.2.2.2.2 then some (gg.2.2.2.2.2, v3) else none)))
set_option maxHeartbeats 1000000 in
set_option maxRecDepth 100000 in
theorem c_X12_restore (l : Launch) (dC : Nat → ClassId) (dI : Nat → Nat → Nat) (cy : Nat → ClassId) (a0 : Nat → Nat) (gg : Int32 × Int32 × Int32 × Int32 × Int32 × Int32) (gvn : Int32 × Int32 × (Nat → Int32) × (Nat → Int32) × (Nat → Int32) × (Nat → Int32) × (Nat → Int32)) (gdn : Int32 × Int32 × (Nat → Int32) × (Nat → Int32) × (Nat → Int32) × (Nat → Int32)) (gcn : Int32 × (Nat → Int32) × (Nat → Int32) × (Nat → Int32)) (gvk : Int32 × Int32 × (Nat → Int32) × (Nat → Int32) × (Nat → Int32) × (Nat → Int32) × (Nat → Int32)) (gdk : Int32 × Int32 × (Nat → Int32) × (Nat → Int32) × (Nat → Int32) × (Nat → Int32)) (gck : Int32 × (Nat → Int32) × (Nat → Int32) × (Nat → Int32)) (sz : Nat) (R0 : Int32 × (Int32 × Int32 × (Nat → Int32) × (Nat → Int32) × (Nat → Int32) × (Nat → Int32) × (Nat → Int32)) × (Int32 × Int32 × (Nat → Int32) × (Nat → Int32) × (Nat → Int32) × (Nat → Int32)) × (Int32 × (Nat → Int32) × (Nat → Int32) × (Nat → Int32))) (h : p_X12_restore gg gvn gdn gcn gvk gdk gck = some R0) : Met l yX12_restore wsX12_restore rm_X12_restore (va_Pc [.ref (a0 0)] (prC dC dI cy (w_X12_restore cy a0 gg gvn gdn gcn gvk gdk gck) sz)) (va_Qi (fun (r : Int32) (u : (Int32 × Int32 × (Nat → Int32) × (Nat → Int32) × (Nat → Int32) × (Nat → Int32) × (Nat → Int32)) × (Int32 × Int32 × (Nat → Int32) × (Nat → Int32) × (Nat → Int32) × (Nat → Int32)) × (Int32 × (Nat → Int32) × (Nat → Int32) × (Nat → Int32))) => r = R0.1 ∧ u = R0.2) (fun (u : (Int32 × Int32 × (Nat → Int32) × (Nat → Int32) × (Nat → Int32) × (Nat → Int32) × (Nat → Int32)) × (Int32 × Int32 × (Nat → Int32) × (Nat → Int32) × (Nat → Int32) × (Nat → Int32)) × (Int32 × (Nat → Int32) × (Nat → Int32) × (Nat → Int32))) t => poC dC dI cy (w_X12_restore cy a0 gg u.1 u.2.1 u.2.2 gvk gdk gck) t) (va_A (w_X12_restore cy a0 gg gvn gdn gcn gvk gdk gck) sz)) 0 0 (va_A (w_X12_restore cy a0 gg gvn gdn gcn gvk gdk gck) sz) := by
  refine Met.ofW (cc := cX12_restore) (maxL := 1) (ret := (some .boolean)) (by decide) rfl ?_
  intro p e s m aa below meth c s₁ B hml hv
  obtain ⟨haa, hsz, hP, hK, hD0⟩ := hv
  have hx := B.exec
  have hb := B.bytes
  have hr := B.returns
  have hts := atoms_spec (ws := wsX12_restore) B.pre
  have hown : s.vm.findClass RX12 = some m.cls := findClass_of_methodNamed B.named
  have hlocks := B.notSynchronized
  subst hsz
  have hD := hD0.self (sz := s.heap.size)
  obtain ⟨qq, hqq⟩ : ∃ qq, qq = (va_Qi (fun (r : Int32) (u : (Int32 × Int32 × (Nat → Int32) × (Nat → Int32) × (Nat → Int32) × (Nat → Int32) × (Nat → Int32)) × (Int32 × Int32 × (Nat → Int32) × (Nat → Int32) × (Nat → Int32) × (Nat → Int32)) × (Int32 × (Nat → Int32) × (Nat → Int32) × (Nat → Int32))) => r = R0.1 ∧ u = R0.2) (fun (u : (Int32 × Int32 × (Nat → Int32) × (Nat → Int32) × (Nat → Int32) × (Nat → Int32) × (Nat → Int32)) × (Int32 × Int32 × (Nat → Int32) × (Nat → Int32) × (Nat → Int32) × (Nat → Int32)) × (Int32 × (Nat → Int32) × (Nat → Int32) × (Nat → Int32))) t => poC dC dI cy (w_X12_restore cy a0 gg u.1 u.2.1 u.2.2 gvk gdk gck) t) (va_A (w_X12_restore cy a0 gg gvn gdn gcn gvk gdk gck) s.heap.size)) := ⟨_, rfl⟩
  rw [← hqq]
  generalize hAe : va_A (w_X12_restore cy a0 gg gvn gdn gcn gvk gdk gck) s.heap.size = A at hD hqq ⊢
  have hA : ∀ q : Nat, s.heap.size ≤ q → A q := fun q h => by rw [← hAe]; exact Or.inr h
  have hS : va_S A s.heap s.heap [] := va_S.rf
  have hl := lv_entry ([.ref (a0 0)]) (n := 1) (Nat.le_of_ble_eq_true rfl)
  have hE : entryFrame m aa 1 = F0 m 0 ((lg_sl ([.ref (a0 0)]) ++ List.replicate (1 - (lg_sl ([.ref (a0 0)])).length) Slot.unset).toArray) [] := by rw [haa]; exact lg_entry_eq m _ 1
  refine W.eq hE ?_
  generalize (lg_sl ([.ref (a0 0)]) ++ List.replicate (1 - (lg_sl ([.ref (a0 0)])).length) Slot.unset).toArray = ls at hl ⊢
  have hl : lv_has ls 1 [(0, .ref (a0 0))] := hl
  change W p l e rm_X12_restore s m aa below meth c s.heap [] 0 0 (MQ below qq aa s 0 0 A) (F0 m 0 ls [])
  have hS0 := hS
  have lk0 := hts (.fieldLink RX12 110 "GoatDoors" "hasImage" "Z") (by decide +kernel)
  have lk1 := hts (.fieldLink RX12 20 "GoatDoors" "now" "LGoatDoors$Village;") (by decide +kernel)
  have lk2 := hts (.fieldLink RX12 27 "GoatDoors" "kept" "LGoatDoors$Village;") (by decide +kernel)
  have in_X12 : ∀ w ∈ wsX120, w ∈ wsX12_restore := by decide +kernel
  obtain ⟨H, hH⟩ : ∃ H : Heap, H = s.heap := ⟨_, rfl⟩
  obtain ⟨locs, hlocs⟩ : ∃ locs : List Loc, locs = [] := ⟨_, rfl⟩
  have hS : va_S A s.heap H locs := by rw [hH, hlocs]; exact hS
  rw [← hH] at hP
  suffices hg : W p l e rm_X12_restore s m aa below meth c H locs 0 0 (MQ below qq aa s 0 0 A) (F0 m 0 ls []) by subst hH; subst hlocs; exact hg
  unfold p_X12_restore at h
  refine lv_aload_n hx hb dX12_restore_0 rfl (lv_at hl 0 rfl) ?_
  refine va_get (D := (dC, dI)) (ci := 10) (v := .int gg.2.2.2.2.2) (C := RX12) (T := TX12) (N := 17) hx hb hts in_X12 hown hK hP 0 rfl rfl 9 (by decide) lk0 (fun _ h9 => h9) rfl dX12_restore_1 ?_
  refine lv_if_eq (tgt := 18) hx hb dX12_restore_4 (by decide) (fun c1 => ?_) (fun c1 => ?_)
  · rw [if_pos c1] at h
    refine lv_aload_n hx hb dX12_restore_18 rfl (lv_at hl 0 rfl) ?_
    refine va_get (D := (dC, dI)) (ci := 10) (v := .int gg.2.2.2.2.2) (C := RX12) (T := TX12) (N := 17) hx hb hts in_X12 hown hK hP 0 rfl rfl 9 (by decide) lk0 (fun _ h9 => h9) rfl dX12_restore_19 ?_
    obtain ⟨hz2, h⟩ := ok_if h
    exact W.zret (v := gg.2.2.2.2.2) (ty := .boolean) hx hb hr (isZ_nar hz2) (fun t ht hW => by rw [hqq]; have hh := Option.some.inj h; exact ⟨⟨gg.2.2.2.2.2, ((gvn, gdn, gcn)), rfl, ⟨fst_of hh, snd_of hh⟩, by rw [ht]; exact hP, va_K.moved hW.alike hK⟩, hS.F ht⟩) hS.2.2 dX12_restore_22
  · rw [if_neg c1] at h
    refine lv_aload_n hx hb dX12_restore_7 rfl (lv_at hl 0 rfl) ?_
    refine va_get (D := (dC, dI)) (ci := 10) (v := .ref (a0 2)) (C := RX12) (T := TX12) (N := 17) hx hb hts in_X12 hown hK hP 0 rfl rfl 6 (by decide) lk1 (fun _ h9 => h9) rfl dX12_restore_8 ?_
    refine lv_aload_n hx hb dX12_restore_11 rfl (lv_at hl 0 rfl) ?_
    refine va_get (D := (dC, dI)) (ci := 10) (v := .ref (a0 32)) (C := RX12) (T := TX12) (N := 17) hx hb hts in_X12 hown hK hP 0 rfl rfl 8 (by decide) lk2 (fun _ h9 => h9) rfl dX12_restore_12 ?_
    obtain ⟨v3, hv4, h⟩ := ok_bind h
    refine cl_vv (w2 := fun (u : (Int32 × Int32 × (Nat → Int32) × (Nat → Int32) × (Nat → Int32) × (Nat → Int32) × (Nat → Int32)) × (Int32 × Int32 × (Nat → Int32) × (Nat → Int32) × (Nat → Int32) × (Nat → Int32)) × (Int32 × (Nat → Int32) × (Nat → Int32) × (Nat → Int32))) => w_X12_restore cy a0 gg u.1 u.2.1 u.2.2 gvk gdk gck) (As := [.ref (a0 32)]) (rest := []) ⟨hx, hb, hml, hown, hts⟩ (c_X9_copyFrom l dC dI cy (fun k => a0 (k + 2)) (fun k => a0 (k + 32)) gvn gdn gcn gvk gdk gck H.size v3 hv4) (cwV 1 hts gX12_restore_X9_copyFrom rfl rfl rfl (by decide +kernel) ⟨Nat.le_of_ble_eq_true rfl, Nat.le_of_ble_eq_true rfl⟩) (va_recv hK hP (ci := 7) (q0 := 1) rfl rfl) cl_blind (cl_pre hK hP hD [1, 2, 3, 4, 5, 6, 7, 8, 9, 10, 11, 12, 13, 14, 15, 16, 17, 18, 19, 20, 21, 22, 23, 24, 25, 26, 27, 28, 29, 30] (by decide) rfl) hP hD hS hA [1, 2, 3, 4, 5, 6, 7, 8, 9, 10, 11, 12, 13, 14, 15, 16, 17, 18, 19, 20, 21, 22, 23, 24, 25, 26, 27, 28, 29, 30] rfl rfl hl.1 rfl (lv_room (Nat.le_of_ble_eq_true rfl)) dX12_restore_15 ⟨Nat.le_of_ble_eq_true rfl, Nat.le_of_ble_eq_true rfl⟩ ⟨rfl, rfl⟩ (fun _ => updM [1, 2, 3, 4, 5, 6, 7, 8, 9, 10, 11, 12, 13, 14, 15, 16, 17, 18, 19, 20, 21, 22, 23, 24, 25, 26, 27, 28, 29, 30] [0] 31 rfl rfl rfl rfl (by decide +kernel) (by decide +kernel) rfl) (fun u H locs hw hP hD hS => ?_)
    have hw := hw.symm
    subst hw
    have hP : va_P (dC, dI) vwCl (w_X12_restore cy a0 gg v3.1 v3.2.1 v3.2.2 gvk gdk gck) H := hP
    have hD : va_D A (w_X12_restore cy a0 gg v3.1 v3.2.1 v3.2.2 gvk gdk gck) := hD
    refine lv_aload_n hx hb dX12_restore_18 rfl (lv_at hl 0 rfl) ?_
    refine va_get (D := (dC, dI)) (ci := 10) (v := .int gg.2.2.2.2.2) (C := RX12) (T := TX12) (N := 17) hx hb hts in_X12 hown hK hP 0 rfl rfl 9 (by decide) lk0 (fun _ h9 => h9) rfl dX12_restore_19 ?_
    obtain ⟨hz5, h⟩ := ok_if h
    exact W.zret (v := gg.2.2.2.2.2) (ty := .boolean) hx hb hr (isZ_nar hz5) (fun t ht hW => by rw [hqq]; have hh := Option.some.inj h; exact ⟨⟨gg.2.2.2.2.2, (v3), rfl, ⟨fst_of hh, snd_of hh⟩, by rw [ht]; exact hP, va_K.moved hW.alike hK⟩, hS.F ht⟩) hS.2.2 dX12_restore_22

abbrev w_X12_needBytes (cy : Nat → ClassId) (a0 : Nat → Nat) (gg : Int32 × Int32 × Int32 × Int32 × Int32 × Int32) : va_W := [(a0 0, .inr (10, [.ref (a0 1), .int (gg.1), .int (gg.2.1), .int (gg.2.2.1), .int (gg.2.2.2.1), .int (gg.2.2.2.2.1), .ref (a0 2), .ref (a0 17), .ref (a0 32), .int (gg.2.2.2.2.2), .ref (a0 47), .ref (a0 48), .ref (a0 49), .ref (a0 50), .ref (a0 68), .ref (a0 78), .ref (a0 80)]))]
abbrev rm_X12_needBytes : Room := { frames := 6, cells := 1, slots := 6, locals := 90 }
def p_X12_needBytes (gg : Int32 × Int32 × Int32 × Int32 × Int32 × Int32) (x1 : Int32) : Option ((Unit ⊕ Nat) × (Unit)) := (if x1 < (0 : Int32) then some (Sum.inr 2, ()) else (if x1 ≤ gg.1 then some (Sum.inl (), ()) else some (Sum.inr 2, ())))
set_option maxHeartbeats 1000000 in
set_option maxRecDepth 100000 in
theorem c_X12_needBytes (l : Launch) (dC : Nat → ClassId) (dI : Nat → Nat → Nat) (cy : Nat → ClassId) (z : Nat → Nat) (hl9 : l.stackTraces = false) (a0 : Nat → Nat) (gg : Int32 × Int32 × Int32 × Int32 × Int32 × Int32) (x1 : Int32) (sz : Nat) (R0 : (Unit ⊕ Nat) × (Unit)) (h : p_X12_needBytes gg x1 = some R0) : vx_Met l yX12_needBytes wsX12_needBytes rm_X12_needBytes (va_Pc [.ref (a0 0), .int x1] (prS dC dI cy z (w_X12_needBytes cy a0 gg) sz)) (va_Qv (fun (u : Unit) => Sum.inl () = R0.1 ∧ u = R0.2) (fun (_ : Unit) t => poC dC dI cy (w_X12_needBytes cy a0 gg) t) (va_A (w_X12_needBytes cy a0 gg) sz)) (vx_X (fun (u : Unit) => u = R0.2) (fun E (_ : Unit) t => exE E R0.1 ∧ poC dC dI cy (w_X12_needBytes cy a0 gg) t) (va_A (w_X12_needBytes cy a0 gg) sz)) 1 6 (va_A (w_X12_needBytes cy a0 gg) sz) := by
  refine vx_ofW (cc := cX12_needBytes) (maxL := 2) (ret := none) (by decide) rfl ?_
  intro p e s m aa below meth c s₁ B hml htab hv
  obtain ⟨haa, ⟨hsz, hP, hK, hD0⟩, hX⟩ := hv
  have hx := B.exec
  have hb := B.bytes
  have hr := B.returns
  have hts := atoms_spec (ws := wsX12_needBytes) B.pre
  have hown : s.vm.findClass RX12 = some m.cls := findClass_of_methodNamed B.named
  have hlocks := B.notSynchronized
  subst hsz
  have hD := hD0.self (sz := s.heap.size)
  obtain ⟨qq, hqq⟩ : ∃ qq, qq = (va_Qv (fun (u : Unit) => Sum.inl () = R0.1 ∧ u = R0.2) (fun (_ : Unit) t => poC dC dI cy (w_X12_needBytes cy a0 gg) t) (va_A (w_X12_needBytes cy a0 gg) s.heap.size)) := ⟨_, rfl⟩
  obtain ⟨xx, hxx⟩ : ∃ xx, xx = (vx_X (fun (u : Unit) => u = R0.2) (fun E (_ : Unit) t => exE E R0.1 ∧ poC dC dI cy (w_X12_needBytes cy a0 gg) t) (va_A (w_X12_needBytes cy a0 gg) s.heap.size)) := ⟨_, rfl⟩
  rw [← hqq, ← hxx]
  generalize hAe : va_A (w_X12_needBytes cy a0 gg) s.heap.size = A at hD hqq hxx hX ⊢
  have hA : ∀ q : Nat, s.heap.size ≤ q → A q := fun q h => by rw [← hAe]; exact Or.inr h
  have hS : va_S A s.heap s.heap [] := va_S.rf
  have hl := lv_entry ([.ref (a0 0), .int x1]) (n := 2) (Nat.le_of_ble_eq_true rfl)
  have hE : entryFrame m aa 2 = F0 m 0 ((lg_sl ([.ref (a0 0), .int x1]) ++ List.replicate (2 - (lg_sl ([.ref (a0 0), .int x1])).length) Slot.unset).toArray) [] := by rw [haa]; exact lg_entry_eq m _ 2
  refine W.eq hE ?_
  generalize (lg_sl ([.ref (a0 0), .int x1]) ++ List.replicate (2 - (lg_sl ([.ref (a0 0), .int x1])).length) Slot.unset).toArray = ls at hl ⊢
  have hl : lv_has ls 2 [(0, .ref (a0 0)), (1, .int x1)] := hl
  change W p l e rm_X12_needBytes s m aa below meth c s.heap [] 0 0 (vx_MQ below qq xx aa s 1 6 A) (F0 m 0 ls [])
  have hS0 := hS
  have lk0 := hts (.classLink RX12 252 "java/lang/IllegalArgumentException") (by decide +kernel)
  have lk1 := hts (.initialized "java/lang/IllegalArgumentException") (by decide +kernel)
  have lk2 := hts (.fieldLink RX12 83 "GoatDoors" "tapeLength" "I") (by decide +kernel)
  have in_X12 : ∀ w ∈ wsX120, w ∈ wsX12_needBytes := by decide +kernel
  have gd256 : ∀ w ∈ (vx_atS RX12 256 "java/lang/IllegalArgumentException" ["java/lang/RuntimeException", "java/lang/Exception"]).filter goodWord, w.before aa s = true := fun w hw => hts w ((show ∀ w ∈ (vx_atS RX12 256 "java/lang/IllegalArgumentException" ["java/lang/RuntimeException", "java/lang/Exception"]).filter goodWord, w ∈ wsX12_needBytes by decide +kernel) w hw)
  obtain ⟨H, hH⟩ : ∃ H : Heap, H = s.heap := ⟨_, rfl⟩
  obtain ⟨locs, hlocs⟩ : ∃ locs : List Loc, locs = [] := ⟨_, rfl⟩
  have hS : va_S A s.heap H locs := by rw [hH, hlocs]; exact hS
  rw [← hH] at hP
  suffices hg : W p l e rm_X12_needBytes s m aa below meth c H locs 0 0 (vx_MQ below qq xx aa s 1 6 A) (F0 m 0 ls []) by subst hH; subst hlocs; exact hg
  unfold p_X12_needBytes at h
  refine lv_iload_n hx hb dX12_needBytes_0 rfl (lv_at hl 1 rfl) ?_
  refine lv_if_lt (tgt := 12) hx hb dX12_needBytes_1 (by decide) (fun c1 => ?_) (fun c1 => ?_)
  · rw [if_pos c1] at h
    refine vx_throwSW (XC := xx) (text := "the tape has not so many bytes") (names := ["java/lang/RuntimeException", "java/lang/Exception"]) hx hb hl9 hown (by decide) (by decide) lk0 lk1 (hX.tx 358 "the tape has not so many bytes" (by decide)) (ex_at256 gd256 hX) (by decide +kernel) hX.us hX.ss hS (by rw [hml]; exact hl.1) dX12_needBytes_12 dX12_needBytes_15 dX12_needBytes_16 dX12_needBytes_19 dX12_needBytes_22 (fun x9 hx9 => (htab x9 hx9).elim) (Nat.le_of_ble_eq_true rfl) (Nat.le_of_ble_eq_true rfl) (Nat.le_of_ble_eq_true rfl) (Nat.le_of_ble_eq_true rfl) hlocks (fun t h1 h2 h3 => by rw [hxx]; have hh := Option.some.inj h; exact ⟨(()), snd_of hh, ⟨exE_2 (fst_of hh).symm, ex_po hP hK h1 h3⟩, ex_F hS h2 h3⟩) hS.2.2 (by decide) (by decide)
  · rw [if_neg c1] at h
    refine lv_iload_n hx hb dX12_needBytes_4 rfl (lv_at hl 1 rfl) ?_
    refine lv_aload_n hx hb dX12_needBytes_5 rfl (lv_at hl 0 rfl) ?_
    refine va_get (D := (dC, dI)) (ci := 10) (v := .int gg.1) (C := RX12) (T := TX12) (N := 17) hx hb hts in_X12 hown hK hP 0 rfl rfl 1 (by decide) lk2 (fun _ h9 => h9) rfl dX12_needBytes_6 ?_
    refine lv_icmp_le (tgt := 23) hx hb dX12_needBytes_9 (by decide) (fun c2 => ?_) (fun c2 => ?_)
    · rw [if_pos c2] at h
      refine vx_ret ?_
      refine W.widen (k := 1) (n := 6) (by decide) (by decide) ?_
      exact W.vret hx hb hr (fun t ht hW => by rw [hqq]; have hh := Option.some.inj h; exact ⟨⟨(()), rfl, ⟨fst_of hh, snd_of hh⟩, by rw [ht]; exact hP, va_K.moved hW.alike hK⟩, hS.F ht⟩) hS.2.2 dX12_needBytes_23
    · rw [if_neg c2] at h
      refine vx_throwSW (XC := xx) (text := "the tape has not so many bytes") (names := ["java/lang/RuntimeException", "java/lang/Exception"]) hx hb hl9 hown (by decide) (by decide) lk0 lk1 (hX.tx 358 "the tape has not so many bytes" (by decide)) (ex_at256 gd256 hX) (by decide +kernel) hX.us hX.ss hS (by rw [hml]; exact hl.1) dX12_needBytes_12 dX12_needBytes_15 dX12_needBytes_16 dX12_needBytes_19 dX12_needBytes_22 (fun x9 hx9 => (htab x9 hx9).elim) (Nat.le_of_ble_eq_true rfl) (Nat.le_of_ble_eq_true rfl) (Nat.le_of_ble_eq_true rfl) (Nat.le_of_ble_eq_true rfl) hlocks (fun t h1 h2 h3 => by rw [hxx]; have hh := Option.some.inj h; exact ⟨(()), snd_of hh, ⟨exE_2 (fst_of hh).symm, ex_po hP hK h1 h3⟩, ex_F hS h2 h3⟩) hS.2.2 (by decide) (by decide)
