abbrev w_X7_isWord (cy : Nat → ClassId) (a0 : Nat → Nat) (gr : Int32 × Int32 × Int32 × Int32 × Int32 × Int32 × Int32 × Int32 × Int32) (gtx : (Nat → Int32)) : va_W := [(a0 0, .inr (5, [.ref (a0 1), .int (gr.1), .int (gr.2.1), .int (gr.2.2.1), .int (gr.2.2.2.1), .int (gr.2.2.2.2.1), .int (gr.2.2.2.2.2.1), .int (gr.2.2.2.2.2.2.1), .int (gr.2.2.2.2.2.2.2.1), .int (gr.2.2.2.2.2.2.2.2)])), (a0 1, .inl (cy 0, 600, .inl (gtx)))]
abbrev rm_X7_isWord : Room := { frames := 4, cells := 0, slots := 0, locals := 85 }
set_option maxHeartbeats 1000000 in
set_option maxRecDepth 100000 in
theorem c_X7_isWord (l : Launch) (dC : Nat → ClassId) (dI : Nat → Nat → Nat) (cy : Nat → ClassId) (z : Nat → Nat) (a0 : Nat → Nat) (gr : Int32 × Int32 × Int32 × Int32 × Int32 × Int32 × Int32 × Int32 × Int32) (gtx : (Nat → Int32)) (x1 : Nat) (sz : Nat) (R0 : Int32) (h : p_X7_isWord gr gtx x1 = some R0) : Met l yX7_isWord wsX7_isWord rm_X7_isWord (va_Pc [.ref (a0 0), .ref (z x1)] (prS dC dI cy z (w_X7_isWord cy a0 gr gtx) sz)) (va_Qi (fun (r : Int32) (_ : Unit) => r = R0) (fun (_ : Unit) t => poC dC dI cy (w_X7_isWord cy a0 gr gtx) t) (va_A (w_X7_isWord cy a0 gr gtx) sz)) 0 0 (va_A (w_X7_isWord cy a0 gr gtx) sz) := by
  refine Met.ofW (cc := cX7_isWord) (maxL := 3) (ret := (some .boolean)) (by decide) rfl ?_
  intro p e s m aa below meth c s₁ B hml hv
  obtain ⟨haa, ⟨hsz, hP, hK, hD0⟩, hX⟩ := hv
  have hx := B.exec
  have hb := B.bytes
  have hr := B.returns
  have hts := atoms_spec (ws := wsX7_isWord) B.pre
  have hown : s.vm.findClass RX7 = some m.cls := findClass_of_methodNamed B.named
  have hlocks := B.notSynchronized
  subst hsz
  have hD := hD0.self (sz := s.heap.size)
  obtain ⟨qq, hqq⟩ : ∃ qq, qq = (va_Qi (fun (r : Int32) (_ : Unit) => r = R0) (fun (_ : Unit) t => poC dC dI cy (w_X7_isWord cy a0 gr gtx) t) (va_A (w_X7_isWord cy a0 gr gtx) s.heap.size)) := ⟨_, rfl⟩
  rw [← hqq]
  generalize hAe : va_A (w_X7_isWord cy a0 gr gtx) s.heap.size = A at hD hqq hX ⊢
  have hA : ∀ q : Nat, s.heap.size ≤ q → A q := fun q h => by rw [← hAe]; exact Or.inr h
  have hS : va_S A s.heap s.heap [] := va_S.rf
  have hl := lv_entry ([.ref (a0 0), .ref (z x1)]) (n := 3) (Nat.le_of_ble_eq_true rfl)
  have hE : entryFrame m aa 3 = F0 m 0 ((lg_sl ([.ref (a0 0), .ref (z x1)]) ++ List.replicate (3 - (lg_sl ([.ref (a0 0), .ref (z x1)])).length) Slot.unset).toArray) [] := by rw [haa]; exact lg_entry_eq m _ 3
  refine W.eq hE ?_
  generalize (lg_sl ([.ref (a0 0), .ref (z x1)]) ++ List.replicate (3 - (lg_sl ([.ref (a0 0), .ref (z x1)])).length) Slot.unset).toArray = ls at hl ⊢
  have hl : lv_has ls 3 [(0, .ref (a0 0)), (1, .ref (z x1))] := hl
  change W p l e rm_X7_isWord s m aa below meth c s.heap [] 0 0 (MQ below qq aa s 0 0 A) (F0 m 0 ls [])
  have hS0 := hS
  have lk0 := hts (.fieldLink RX7 40 "GoatDoors$Reader" "start" "I") (by decide +kernel)
  have lk1 := hts (.fieldLink RX7 37 "GoatDoors$Reader" "kind" "I") (by decide +kernel)
  have lk2 := hts (.fieldLink RX7 25 "GoatDoors$Reader" "behind" "I") (by decide +kernel)
  have in_X7 : ∀ w ∈ wsX70, w ∈ wsX7_isWord := by decide +kernel
  have c28 : ∀ (n : Nat), ∀ (x1 : Nat) (x2 : Int32) (H : Heap) (locs : List Loc) (ls : Array Slot), p_X7_isWord_28 gr gtx n x1 x2 = some R0 → va_P (dC, dI) vwCl (w_X7_isWord cy a0 gr gtx) H → va_D A (w_X7_isWord cy a0 gr gtx) → va_S A s.heap H locs → lv_has ls 3 [(0, .ref (a0 0)), (1, .ref (z x1)), (2, .int x2)] → W p l e rm_X7_isWord s m aa below meth c H locs 0 0 (MQ below qq aa s 0 0 A) (F0 m 28 ls []) := by
    intro  n
    induction n with
    | zero => intro x1 x2 H locs ls h; exact no_some h
    | succ n ih =>
      intro x1 x2 H locs ls h hP hD hS hl
      rw [p_X7_isWord_28.eq_2] at h
      refine lv_iload_n hx hb dX7_isWord_28 rfl (lv_at hl 2 rfl) ?_
      refine lv_aload_n hx hb dX7_isWord_29 rfl (lv_at hl 1 rfl) ?_
      obtain ⟨hd1, h⟩ := ok_if h
      refine cl_vi (w2 := fun (_ : Unit) => w_X7_isWord cy a0 gr gtx) (As := []) (rest := [.int x2]) ⟨hx, hb, hml, hown, hts⟩ (c_length l dC dI cy z x1 H.size hd1) (cwV 0 hts gX7_isWord_J0_length_8abf5 rfl rfl rfl (by decide +kernel) ⟨Nat.le_of_ble_eq_true rfl, Nat.le_of_ble_eq_true rfl⟩) (vk_recv hX.2.2.2.1.1 hd1 hS) cl_blindS (cl_preS hK hP hD hS hA hX [] rfl rfl) hP hD hS hA [] rfl rfl hl.1 rfl (lv_room (Nat.le_of_ble_eq_true rfl)) dX7_isWord_30 ⟨Nat.le_of_ble_eq_true rfl, Nat.le_of_ble_eq_true rfl⟩ ⟨rfl, rfl⟩ (fun _ => updR [] rfl) (fun r u H locs hw hP hD hS => ?_)
      have hw := hw.symm
      subst hw
      have hP : va_P (dC, dI) vwCl (w_X7_isWord cy a0 gr gtx) H := hP
      have hD : va_D A (w_X7_isWord cy a0 gr gtx) := hD
      refine lv_icmp_ge (tgt := 62) hx hb dX7_isWord_33 (by decide) (fun c2 => ?_) (fun c2 => ?_)
      · rw [if_pos c2] at h
        refine lv_iconst (v := (1 : Int32)) hx hb dX7_isWord_62 (by decide) ?_
        exact W.zret (v := (1 : Int32)) (ty := .boolean) hx hb hr rfl (fun t ht hW => by rw [hqq]; have hh := Option.some.inj h; exact ⟨⟨(1 : Int32), (()), rfl, Option.some.inj h, by rw [ht]; exact hP, va_K.moved hW.alike hK⟩, hS.F ht⟩) hS.2.2 dX7_isWord_63
      · rw [if_neg c2] at h
        refine lv_aload_n hx hb dX7_isWord_36 rfl (lv_at hl 0 rfl) ?_
        refine lv_aload_n hx hb dX7_isWord_37 rfl (lv_at hl 0 rfl) ?_
        refine va_get (D := (dC, dI)) (ci := 5) (v := .int gr.2.2.1) (C := RX7) (T := TX7) (N := 10) hx hb hts in_X7 hown hK hP 0 rfl rfl 3 (by decide) lk0 (fun _ h9 => h9) rfl dX7_isWord_38 ?_
        refine lv_iload_n hx hb dX7_isWord_41 rfl (lv_at hl 2 rfl) ?_
        refine lv_iadd hx hb dX7_isWord_42 ?_
        obtain ⟨v3, hv4, h⟩ := ok_bind h
        refine cl_vi (w2 := fun (_ : Unit) => w_X7_isWord cy a0 gr gtx) (As := [.int (gr.2.2.1 + x2)]) (rest := []) ⟨hx, hb, hml, hown, hts⟩ (c_X7_signAt l dC dI cy a0 gr gtx (gr.2.2.1 + x2) H.size v3 hv4) (cwV 1 hts gX7_isWord_X7_signAt rfl rfl rfl (by decide +kernel) ⟨Nat.le_of_ble_eq_true rfl, Nat.le_of_ble_eq_true rfl⟩) (va_recv hK hP (ci := 5) (q0 := 0) rfl rfl) cl_blind (cl_pre hK hP hD [0, 1] (by decide) rfl) hP hD hS hA [0, 1] rfl rfl hl.1 rfl (lv_room (Nat.le_of_ble_eq_true rfl)) dX7_isWord_43 ⟨Nat.le_of_ble_eq_true rfl, Nat.le_of_ble_eq_true rfl⟩ ⟨rfl, rfl⟩ (fun _ => updR [0, 1] rfl) (fun r u H locs hw hP hD hS => ?_)
        have hw := hw.symm
        subst hw
        have hP : va_P (dC, dI) vwCl (w_X7_isWord cy a0 gr gtx) H := hP
        have hD : va_D A (w_X7_isWord cy a0 gr gtx) := hD
        refine lv_aload_n hx hb dX7_isWord_46 rfl (lv_at hl 1 rfl) ?_
        refine lv_iload_n hx hb dX7_isWord_47 rfl (lv_at hl 2 rfl) ?_
        obtain ⟨hd5, h⟩ := ok_if h
        obtain ⟨hi6, h⟩ := ok_if h
        refine cl_vi (w2 := fun (_ : Unit) => w_X7_isWord cy a0 gr gtx) (As := [.int x2]) (rest := [.int v3]) ⟨hx, hb, hml, hown, hts⟩ (c_charAt l dC dI cy z x1 x2 H.size hd5 hi6) (cwV 1 hts gX7_isWord_J0_charAt_5068e rfl rfl rfl (by decide +kernel) ⟨Nat.le_of_ble_eq_true rfl, Nat.le_of_ble_eq_true rfl⟩) (vk_recv hX.2.2.2.1.1 hd5 hS) cl_blindS (cl_preS hK hP hD hS hA hX [] rfl rfl) hP hD hS hA [] rfl rfl hl.1 rfl (lv_room (Nat.le_of_ble_eq_true rfl)) dX7_isWord_48 ⟨Nat.le_of_ble_eq_true rfl, Nat.le_of_ble_eq_true rfl⟩ ⟨rfl, rfl⟩ (fun _ => updR [] rfl) (fun r u H locs hw hP hD hS => ?_)
        have hw := hw.symm
        subst hw
        have hP : va_P (dC, dI) vwCl (w_X7_isWord cy a0 gr gtx) H := hP
        have hD : va_D A (w_X7_isWord cy a0 gr gtx) := hD
        refine lv_icmp_eq (tgt := 56) hx hb dX7_isWord_51 (by decide) (fun c7 => ?_) (fun c7 => ?_)
        · rw [if_pos c7] at h
          refine lv_iinc (v := (x2 + (1 : Int32))) (lv' := [(2, .int (x2 + (1 : Int32))), (0, .ref (a0 0)), (1, .ref (z x1))]) hx hb dX7_isWord_56 hl (k := 2) rfl rfl (by decide) rfl (fun ls hl => ?_)
          refine lv_goto (tgt := 28) hx hb dX7_isWord_59 (by decide) ?_
          exact ih x1 (x2 + (1 : Int32)) H locs ls h hP hD hS (lv_sub hl [1, 2, 0] rfl)
        · rw [if_neg c7] at h
          refine lv_iconst (v := (0 : Int32)) hx hb dX7_isWord_54 (by decide) ?_
          exact W.zret (v := (0 : Int32)) (ty := .boolean) hx hb hr rfl (fun t ht hW => by rw [hqq]; have hh := Option.some.inj h; exact ⟨⟨(0 : Int32), (()), rfl, Option.some.inj h, by rw [ht]; exact hP, va_K.moved hW.alike hK⟩, hS.F ht⟩) hS.2.2 dX7_isWord_55
  obtain ⟨H, hH⟩ : ∃ H : Heap, H = s.heap := ⟨_, rfl⟩
  obtain ⟨locs, hlocs⟩ : ∃ locs : List Loc, locs = [] := ⟨_, rfl⟩
  have hS : va_S A s.heap H locs := by rw [hH, hlocs]; exact hS
  rw [← hH] at hP
  suffices hg : W p l e rm_X7_isWord s m aa below meth c H locs 0 0 (MQ below qq aa s 0 0 A) (F0 m 0 ls []) by subst hH; subst hlocs; exact hg
  unfold p_X7_isWord at h
  refine lv_aload_n hx hb dX7_isWord_0 rfl (lv_at hl 0 rfl) ?_
  refine va_get (D := (dC, dI)) (ci := 5) (v := .int gr.2.1) (C := RX7) (T := TX7) (N := 10) hx hb hts in_X7 hown hK hP 0 rfl rfl 2 (by decide) lk1 (fun _ h9 => h9) rfl dX7_isWord_1 ?_
  refine lv_iconst (v := (2 : Int32)) hx hb dX7_isWord_4 (by decide) ?_
  refine lv_icmp_ne (tgt := 24) hx hb dX7_isWord_5 (by decide) (fun c1 => ?_) (fun c1 => ?_)
  · rw [if_neg c1] at h
    refine lv_iconst (v := (0 : Int32)) hx hb dX7_isWord_24 (by decide) ?_
    exact W.zret (v := (0 : Int32)) (ty := .boolean) hx hb hr rfl (fun t ht hW => by rw [hqq]; have hh := Option.some.inj h; exact ⟨⟨(0 : Int32), (()), rfl, Option.some.inj h, by rw [ht]; exact hP, va_K.moved hW.alike hK⟩, hS.F ht⟩) hS.2.2 dX7_isWord_25
  · rw [if_pos c1] at h
    refine lv_aload_n hx hb dX7_isWord_8 rfl (lv_at hl 0 rfl) ?_
    refine va_get (D := (dC, dI)) (ci := 5) (v := .int gr.2.2.2.1) (C := RX7) (T := TX7) (N := 10) hx hb hts in_X7 hown hK hP 0 rfl rfl 4 (by decide) lk2 (fun _ h9 => h9) rfl dX7_isWord_9 ?_
    refine lv_aload_n hx hb dX7_isWord_12 rfl (lv_at hl 0 rfl) ?_
    refine va_get (D := (dC, dI)) (ci := 5) (v := .int gr.2.2.1) (C := RX7) (T := TX7) (N := 10) hx hb hts in_X7 hown hK hP 0 rfl rfl 3 (by decide) lk0 (fun _ h9 => h9) rfl dX7_isWord_13 ?_
    refine lv_isub hx hb dX7_isWord_16 ?_
    refine lv_aload_n hx hb dX7_isWord_17 rfl (lv_at hl 1 rfl) ?_
    obtain ⟨hd2, h⟩ := ok_if h
    refine cl_vi (w2 := fun (_ : Unit) => w_X7_isWord cy a0 gr gtx) (As := []) (rest := [.int (gr.2.2.2.1 - gr.2.2.1)]) ⟨hx, hb, hml, hown, hts⟩ (c_length l dC dI cy z x1 H.size hd2) (cwV 0 hts gX7_isWord_J0_length_8abf5 rfl rfl rfl (by decide +kernel) ⟨Nat.le_of_ble_eq_true rfl, Nat.le_of_ble_eq_true rfl⟩) (vk_recv hX.2.2.2.1.1 hd2 hS) cl_blindS (cl_preS hK hP hD hS hA hX [] rfl rfl) hP hD hS hA [] rfl rfl hl.1 rfl (lv_room (Nat.le_of_ble_eq_true rfl)) dX7_isWord_18 ⟨Nat.le_of_ble_eq_true rfl, Nat.le_of_ble_eq_true rfl⟩ ⟨rfl, rfl⟩ (fun _ => updR [] rfl) (fun r u H locs hw hP hD hS => ?_)
    have hw := hw.symm
    subst hw
    have hP : va_P (dC, dI) vwCl (w_X7_isWord cy a0 gr gtx) H := hP
    have hD : va_D A (w_X7_isWord cy a0 gr gtx) := hD
    refine lv_icmp_eq (tgt := 26) hx hb dX7_isWord_21 (by decide) (fun c3 => ?_) (fun c3 => ?_)
    · rw [if_pos c3] at h
      refine lv_iconst (v := (0 : Int32)) hx hb dX7_isWord_26 (by decide) ?_
      refine lv_istore_n (lv' := [(2, .int (0 : Int32)), (0, .ref (a0 0)), (1, .ref (z x1))]) hx hb dX7_isWord_27 rfl hl (by decide) rfl (fun ls hl => ?_)
      exact c28 fu x1 (0 : Int32) H locs ls h hP hD hS (lv_sub hl [1, 2, 0] rfl)
    · rw [if_neg c3] at h
      refine lv_iconst (v := (0 : Int32)) hx hb dX7_isWord_24 (by decide) ?_
      exact W.zret (v := (0 : Int32)) (ty := .boolean) hx hb hr rfl (fun t ht hW => by rw [hqq]; have hh := Option.some.inj h; exact ⟨⟨(0 : Int32), (()), rfl, Option.some.inj h, by rw [ht]; exact hP, va_K.moved hW.alike hK⟩, hS.F ht⟩) hS.2.2 dX7_isWord_25

abbrev w_X10_readLaw (cy : Nat → ClassId) (a0 : Nat → Nat) (a1 : Nat → Nat) (gvr_0 : Int32 × Int32) (gr_0 : Int32 × Int32 × Int32 × Int32 × Int32 × Int32 × Int32 × Int32 × Int32) (gtx_0 : (Nat → Int32)) (gv_1 : Int32 × Int32 × (Nat → Int32) × (Nat → Int32) × (Nat → Int32) × (Nat → Int32) × (Nat → Int32)) (gd_1 : Int32 × Int32 × (Nat → Int32) × (Nat → Int32) × (Nat → Int32) × (Nat → Int32)) : va_W := [(a0 0, .inr (8, [.ref (a0 1), .int (gvr_0.1), .int (gvr_0.2)])), (a0 1, .inr (5, [.ref (a0 2), .int (gr_0.1), .int (gr_0.2.1), .int (gr_0.2.2.1), .int (gr_0.2.2.2.1), .int (gr_0.2.2.2.2.1), .int (gr_0.2.2.2.2.2.1), .int (gr_0.2.2.2.2.2.2.1), .int (gr_0.2.2.2.2.2.2.2.1), .int (gr_0.2.2.2.2.2.2.2.2)])), (a0 2, .inl (cy 0, 600, .inl (gtx_0))), (a1 0, .inr (7, [.int (gv_1.1), .int (gv_1.2.1), .ref (a1 1), .ref (a1 6), .ref (a1 10), .ref (a1 11), .ref (a1 12), .ref (a1 13), .ref (a1 14)])), (a1 1, .inr (2, [.int (gd_1.1), .int (gd_1.2.1), .ref (a1 2), .ref (a1 3), .ref (a1 4), .ref (a1 5)])), (a1 2, .inl (cy 1, 10, .inl (gd_1.2.2.1))), (a1 3, .inl (cy 1, 10, .inl (gd_1.2.2.2.1))), (a1 4, .inl (cy 1, 10, .inl (gd_1.2.2.2.2.1))), (a1 5, .inl (cy 1, 50, .inl (gd_1.2.2.2.2.2)))]
abbrev rm_X10_readLaw : Room := { frames := 5, cells := 0, slots := 0, locals := 107 }
set_option maxHeartbeats 1000000 in
set_option maxRecDepth 100000 in
theorem c_X10_readLaw (l : Launch) (dC : Nat → ClassId) (dI : Nat → Nat → Nat) (cy : Nat → ClassId) (z : Nat → Nat) (a0 : Nat → Nat) (a1 : Nat → Nat) (gvr_0 : Int32 × Int32) (gr_0 : Int32 × Int32 × Int32 × Int32 × Int32 × Int32 × Int32 × Int32 × Int32) (gtx_0 : (Nat → Int32)) (gv_1 : Int32 × Int32 × (Nat → Int32) × (Nat → Int32) × (Nat → Int32) × (Nat → Int32) × (Nat → Int32)) (gd_1 : Int32 × Int32 × (Nat → Int32) × (Nat → Int32) × (Nat → Int32) × (Nat → Int32)) (sz : Nat) (R0 : Int32 × (Int32 × Int32) × (Int32 × Int32 × Int32 × Int32 × Int32 × Int32 × Int32 × Int32 × Int32) × (Int32 × Int32 × (Nat → Int32) × (Nat → Int32) × (Nat → Int32) × (Nat → Int32))) (h : p_X10_readLaw gvr_0 gr_0 gtx_0 gd_1 = some R0) : Met l yX10_readLaw wsX10_readLaw rm_X10_readLaw (va_Pc [.ref (a0 0), .ref (a1 0)] (prS dC dI cy z (w_X10_readLaw cy a0 a1 gvr_0 gr_0 gtx_0 gv_1 gd_1) sz)) (va_Qi (fun (r : Int32) (u : (Int32 × Int32) × (Int32 × Int32 × Int32 × Int32 × Int32 × Int32 × Int32 × Int32 × Int32) × (Int32 × Int32 × (Nat → Int32) × (Nat → Int32) × (Nat → Int32) × (Nat → Int32))) => r = R0.1 ∧ u = R0.2) (fun (u : (Int32 × Int32) × (Int32 × Int32 × Int32 × Int32 × Int32 × Int32 × Int32 × Int32 × Int32) × (Int32 × Int32 × (Nat → Int32) × (Nat → Int32) × (Nat → Int32) × (Nat → Int32))) t => poC dC dI cy (w_X10_readLaw cy a0 a1 u.1 u.2.1 gtx_0 gv_1 u.2.2) t) (va_A (w_X10_readLaw cy a0 a1 gvr_0 gr_0 gtx_0 gv_1 gd_1) sz)) 0 0 (va_A (w_X10_readLaw cy a0 a1 gvr_0 gr_0 gtx_0 gv_1 gd_1) sz) := by
  refine Met.ofW (cc := cX10_readLaw) (maxL := 2) (ret := (some .boolean)) (by decide) rfl ?_
  intro p e s m aa below meth c s₁ B hml hv
  obtain ⟨haa, ⟨hsz, hP, hK, hD0⟩, hX⟩ := hv
  have hx := B.exec
  have hb := B.bytes
  have hr := B.returns
  have hts := atoms_spec (ws := wsX10_readLaw) B.pre
  have hown : s.vm.findClass RX10 = some m.cls := findClass_of_methodNamed B.named
  have hlocks := B.notSynchronized
  subst hsz
  have hD := hD0.self (sz := s.heap.size)
  obtain ⟨qq, hqq⟩ : ∃ qq, qq = (va_Qi (fun (r : Int32) (u : (Int32 × Int32) × (Int32 × Int32 × Int32 × Int32 × Int32 × Int32 × Int32 × Int32 × Int32) × (Int32 × Int32 × (Nat → Int32) × (Nat → Int32) × (Nat → Int32) × (Nat → Int32))) => r = R0.1 ∧ u = R0.2) (fun (u : (Int32 × Int32) × (Int32 × Int32 × Int32 × Int32 × Int32 × Int32 × Int32 × Int32 × Int32) × (Int32 × Int32 × (Nat → Int32) × (Nat → Int32) × (Nat → Int32) × (Nat → Int32))) t => poC dC dI cy (w_X10_readLaw cy a0 a1 u.1 u.2.1 gtx_0 gv_1 u.2.2) t) (va_A (w_X10_readLaw cy a0 a1 gvr_0 gr_0 gtx_0 gv_1 gd_1) s.heap.size)) := ⟨_, rfl⟩
  rw [← hqq]
  generalize hAe : va_A (w_X10_readLaw cy a0 a1 gvr_0 gr_0 gtx_0 gv_1 gd_1) s.heap.size = A at hD hqq hX ⊢
  have hA : ∀ q : Nat, s.heap.size ≤ q → A q := fun q h => by rw [← hAe]; exact Or.inr h
  have hS : va_S A s.heap s.heap [] := va_S.rf
  have hl := lv_entry ([.ref (a0 0), .ref (a1 0)]) (n := 2) (Nat.le_of_ble_eq_true rfl)
  have hE : entryFrame m aa 2 = F0 m 0 ((lg_sl ([.ref (a0 0), .ref (a1 0)]) ++ List.replicate (2 - (lg_sl ([.ref (a0 0), .ref (a1 0)])).length) Slot.unset).toArray) [] := by rw [haa]; exact lg_entry_eq m _ 2
  refine W.eq hE ?_
  generalize (lg_sl ([.ref (a0 0), .ref (a1 0)]) ++ List.replicate (2 - (lg_sl ([.ref (a0 0), .ref (a1 0)])).length) Slot.unset).toArray = ls at hl ⊢
  have hl : lv_has ls 2 [(0, .ref (a0 0)), (1, .ref (a1 0))] := hl
  change W p l e rm_X10_readLaw s m aa below meth c s.heap [] 0 0 (MQ below qq aa s 0 0 A) (F0 m 0 ls [])
  have hS0 := hS
  have lk0 := hts (.fieldLink RX10 9 "GoatDoors$VillageReader" "reader" "LGoatDoors$Reader;") (by decide +kernel)
  have lk1 := hts (.fieldLink RX10 20 "GoatDoors$VillageReader" "lawIsTold" "Z") (by decide +kernel)
  have lk2 := hts (.fieldLink RX10 106 "GoatDoors$Village" "doors" "LGoatDoors$Doors;") (by decide +kernel)
  have lk3 := hts (.fieldLink RX10 118 "GoatDoors$Doors" "law" "I") (by decide +kernel)
  have in_X10 : ∀ w ∈ wsX100, w ∈ wsX10_readLaw := by decide +kernel
  have in_X9 : ∀ w ∈ wsX90, w ∈ wsX10_readLaw := by decide +kernel
  have in_X4 : ∀ w ∈ wsX40, w ∈ wsX10_readLaw := by decide +kernel
  have c106 : ∀ (_u : Unit), ∀ (gvr_0 : Int32 × Int32) (gr_0 : Int32 × Int32 × Int32 × Int32 × Int32 × Int32 × Int32 × Int32 × Int32) (gd_1 : Int32 × Int32 × (Nat → Int32) × (Nat → Int32) × (Nat → Int32) × (Nat → Int32)) (H : Heap) (locs : List Loc) (ls : Array Slot), p_X10_readLaw_106 gtx_0 gvr_0 gr_0 gd_1 = some R0 → va_P (dC, dI) vwCl (w_X10_readLaw cy a0 a1 gvr_0 gr_0 gtx_0 gv_1 gd_1) H → va_D A (w_X10_readLaw cy a0 a1 gvr_0 gr_0 gtx_0 gv_1 gd_1) → va_S A s.heap H locs → lv_has ls 2 [(0, .ref (a0 0))] → W p l e rm_X10_readLaw s m aa below meth c H locs 0 0 (MQ below qq aa s 0 0 A) (F0 m 106 ls []) := by
    intro _ gvr_0 gr_0 gd_1 H locs ls h hP hD hS hl
    unfold p_X10_readLaw_106 at h
    refine lv_aload_n hx hb dX10_readLaw_106 rfl (lv_at hl 0 rfl) ?_
    refine va_get (D := (dC, dI)) (ci := 8) (v := .ref (a0 1)) (C := RX10) (T := TX10) (N := 3) hx hb hts in_X10 hown hK hP 0 rfl rfl 0 (by decide) lk0 (fun _ h9 => h9) rfl dX10_readLaw_107 ?_
    obtain ⟨v1, hv2, h⟩ := ok_bind h
    refine cl_vv (w2 := fun (u : (Int32 × Int32 × Int32 × Int32 × Int32 × Int32 × Int32 × Int32 × Int32)) => w_X10_readLaw cy a0 a1 gvr_0 u gtx_0 gv_1 gd_1) (As := []) (rest := []) ⟨hx, hb, hml, hown, hts⟩ (c_X7_step l dC dI cy (fun k => a0 (k + 1)) gr_0 gtx_0 H.size v1 hv2) (cwV 0 hts gX10_readLaw_X7_step rfl rfl rfl (by decide +kernel) ⟨Nat.le_of_ble_eq_true rfl, Nat.le_of_ble_eq_true rfl⟩) (va_recv hK hP (ci := 5) (q0 := 1) rfl rfl) cl_blind (cl_pre hK hP hD [1, 2] (by decide) rfl) hP hD hS hA [1, 2] rfl rfl hl.1 rfl (lv_room (Nat.le_of_ble_eq_true rfl)) dX10_readLaw_110 ⟨Nat.le_of_ble_eq_true rfl, Nat.le_of_ble_eq_true rfl⟩ ⟨rfl, rfl⟩ (fun _ => updM [1, 2] [0, 3, 4, 5, 6, 7, 8] [(a0 0, .inr (8, [.ref (a0 1), .int (gvr_0.1), .int (gvr_0.2)])), (a1 0, .inr (7, [.int (gv_1.1), .int (gv_1.2.1), .ref (a1 1), .ref (a1 6), .ref (a1 10), .ref (a1 11), .ref (a1 12), .ref (a1 13), .ref (a1 14)])), (a1 1, .inr (2, [.int (gd_1.1), .int (gd_1.2.1), .ref (a1 2), .ref (a1 3), .ref (a1 4), .ref (a1 5)])), (a1 2, .inl (cy 1, 10, .inl (gd_1.2.2.1))), (a1 3, .inl (cy 1, 10, .inl (gd_1.2.2.2.1))), (a1 4, .inl (cy 1, 10, .inl (gd_1.2.2.2.2.1))), (a1 5, .inl (cy 1, 50, .inl (gd_1.2.2.2.2.2)))] 9 rfl rfl rfl rfl rfl (by decide +kernel) (by decide +kernel) rfl) (fun u H locs hw hP hD hS => ?_)
    have hw := hw.symm
    subst hw
    have hP : va_P (dC, dI) vwCl (w_X10_readLaw cy a0 a1 gvr_0 v1 gtx_0 gv_1 gd_1) H := hP
    have hD : va_D A (w_X10_readLaw cy a0 a1 gvr_0 v1 gtx_0 gv_1 gd_1) := hD
    refine lv_aload_n hx hb dX10_readLaw_113 rfl (lv_at hl 0 rfl) ?_
    refine va_get (D := (dC, dI)) (ci := 8) (v := .ref (a0 1)) (C := RX10) (T := TX10) (N := 3) hx hb hts in_X10 hown hK hP 0 rfl rfl 0 (by decide) lk0 (fun _ h9 => h9) rfl dX10_readLaw_114 ?_
    obtain ⟨v3, hv4, h⟩ := ok_bind h
    refine cl_vi (w2 := fun (u : (Int32 × Int32 × Int32 × Int32 × Int32 × Int32 × Int32 × Int32 × Int32)) => w_X10_readLaw cy a0 a1 gvr_0 u gtx_0 gv_1 gd_1) (As := []) (rest := []) ⟨hx, hb, hml, hown, hts⟩ (c_X7_takeStop l dC dI cy (fun k => a0 (k + 1)) v1 gtx_0 H.size v3 hv4) (cwV 0 hts gX10_readLaw_X7_takeStop rfl rfl rfl (by decide +kernel) ⟨Nat.le_of_ble_eq_true rfl, Nat.le_of_ble_eq_true rfl⟩) (va_recv hK hP (ci := 5) (q0 := 1) rfl rfl) cl_blind (cl_pre hK hP hD [1, 2] (by decide) rfl) hP hD hS hA [1, 2] rfl rfl hl.1 rfl (lv_room (Nat.le_of_ble_eq_true rfl)) dX10_readLaw_117 ⟨Nat.le_of_ble_eq_true rfl, Nat.le_of_ble_eq_true rfl⟩ ⟨rfl, rfl⟩ (fun _ => updM [1, 2] [0, 3, 4, 5, 6, 7, 8] [(a0 0, .inr (8, [.ref (a0 1), .int (gvr_0.1), .int (gvr_0.2)])), (a1 0, .inr (7, [.int (gv_1.1), .int (gv_1.2.1), .ref (a1 1), .ref (a1 6), .ref (a1 10), .ref (a1 11), .ref (a1 12), .ref (a1 13), .ref (a1 14)])), (a1 1, .inr (2, [.int (gd_1.1), .int (gd_1.2.1), .ref (a1 2), .ref (a1 3), .ref (a1 4), .ref (a1 5)])), (a1 2, .inl (cy 1, 10, .inl (gd_1.2.2.1))), (a1 3, .inl (cy 1, 10, .inl (gd_1.2.2.2.1))), (a1 4, .inl (cy 1, 10, .inl (gd_1.2.2.2.2.1))), (a1 5, .inl (cy 1, 50, .inl (gd_1.2.2.2.2.2)))] 9 rfl rfl rfl rfl rfl (by decide +kernel) (by decide +kernel) rfl) (fun r u H locs hw hP hD hS => ?_)
    obtain ⟨rfl, rfl⟩ := hw
    have hP : va_P (dC, dI) vwCl (w_X10_readLaw cy a0 a1 gvr_0 v3.2 gtx_0 gv_1 gd_1) H := hP
    have hD : va_D A (w_X10_readLaw cy a0 a1 gvr_0 v3.2 gtx_0 gv_1 gd_1) := hD
    obtain ⟨hz5, h⟩ := ok_if h
    exact W.zret (v := v3.1) (ty := .boolean) hx hb hr (isZ_nar hz5) (fun t ht hW => by rw [hqq]; have hh := Option.some.inj h; exact ⟨⟨v3.1, ((gvr_0, v3.2, gd_1)), rfl, ⟨fst_of hh, snd_of hh⟩, by rw [ht]; exact hP, va_K.moved hW.alike hK⟩, hS.F ht⟩) hS.2.2 dX10_readLaw_120
  obtain ⟨H, hH⟩ : ∃ H : Heap, H = s.heap := ⟨_, rfl⟩
  obtain ⟨locs, hlocs⟩ : ∃ locs : List Loc, locs = [] := ⟨_, rfl⟩
  have hS : va_S A s.heap H locs := by rw [hH, hlocs]; exact hS
  rw [← hH] at hP
  suffices hg : W p l e rm_X10_readLaw s m aa below meth c H locs 0 0 (MQ below qq aa s 0 0 A) (F0 m 0 ls []) by subst hH; subst hlocs; exact hg
  unfold p_X10_readLaw at h
  refine lv_aload_n hx hb dX10_readLaw_0 rfl (lv_at hl 0 rfl) ?_
  refine va_get (D := (dC, dI)) (ci := 8) (v := .int gvr_0.1) (C := RX10) (T := TX10) (N := 3) hx hb hts in_X10 hown hK hP 0 rfl rfl 1 (by decide) lk1 (fun _ h9 => h9) rfl dX10_readLaw_1 ?_
  refine lv_if_eq (tgt := 16) hx hb dX10_readLaw_4 (by decide) (fun c1 => ?_) (fun c1 => ?_)
  · rw [if_pos c1] at h
    refine lv_aload_n hx hb dX10_readLaw_16 rfl (lv_at hl 0 rfl) ?_
    refine lv_iconst (v := (1 : Int32)) hx hb dX10_readLaw_17 (by decide) ?_
    refine va_put (D := (dC, dI)) (ci := 8) (v := .int (1 : Int32)) (ty := .boolean) (C := RX10) (T := TX10) (N := 3) hx hb hts in_X10 tyX10 tyX10_ok nmX10 hown hK hP hD hS 0 rfl rfl 1 (by decide) lk1 (fun _ h9 => h9) rfl (by decide +kernel) rfl rfl (Nat.le_of_ble_eq_true rfl) dX10_readLaw_18 (fun H locs hP hD hS => ?_)
    have hP : va_P (dC, dI) vwCl (w_X10_readLaw cy a0 a1 (((1 : Int32), gvr_0.2)) gr_0 gtx_0 gv_1 gd_1) H := hP
    have hD : va_D A (w_X10_readLaw cy a0 a1 (((1 : Int32), gvr_0.2)) gr_0 gtx_0 gv_1 gd_1) := hD
    refine lv_aload_n hx hb dX10_readLaw_21 rfl (lv_at hl 0 rfl) ?_
    refine va_get (D := (dC, dI)) (ci := 8) (v := .ref (a0 1)) (C := RX10) (T := TX10) (N := 3) hx hb hts in_X10 hown hK hP 0 rfl rfl 0 (by decide) lk0 (fun _ h9 => h9) rfl dX10_readLaw_22 ?_
    obtain ⟨v2, hv3, h⟩ := ok_bind h
    refine cl_vv (w2 := fun (u : (Int32 × Int32 × Int32 × Int32 × Int32 × Int32 × Int32 × Int32 × Int32)) => w_X10_readLaw cy a0 a1 (((1 : Int32), gvr_0.2)) u gtx_0 gv_1 gd_1) (As := []) (rest := []) ⟨hx, hb, hml, hown, hts⟩ (c_X7_step l dC dI cy (fun k => a0 (k + 1)) gr_0 gtx_0 H.size v2 hv3) (cwV 0 hts gX10_readLaw_X7_step rfl rfl rfl (by decide +kernel) ⟨Nat.le_of_ble_eq_true rfl, Nat.le_of_ble_eq_true rfl⟩) (va_recv hK hP (ci := 5) (q0 := 1) rfl rfl) cl_blind (cl_pre hK hP hD [1, 2] (by decide) rfl) hP hD hS hA [1, 2] rfl rfl hl.1 rfl (lv_room (Nat.le_of_ble_eq_true rfl)) dX10_readLaw_25 ⟨Nat.le_of_ble_eq_true rfl, Nat.le_of_ble_eq_true rfl⟩ ⟨rfl, rfl⟩ (fun _ => updM [1, 2] [0, 3, 4, 5, 6, 7, 8] [(a0 0, .inr (8, [.ref (a0 1), .int ((1 : Int32)), .int (gvr_0.2)])), (a1 0, .inr (7, [.int (gv_1.1), .int (gv_1.2.1), .ref (a1 1), .ref (a1 6), .ref (a1 10), .ref (a1 11), .ref (a1 12), .ref (a1 13), .ref (a1 14)])), (a1 1, .inr (2, [.int (gd_1.1), .int (gd_1.2.1), .ref (a1 2), .ref (a1 3), .ref (a1 4), .ref (a1 5)])), (a1 2, .inl (cy 1, 10, .inl (gd_1.2.2.1))), (a1 3, .inl (cy 1, 10, .inl (gd_1.2.2.2.1))), (a1 4, .inl (cy 1, 10, .inl (gd_1.2.2.2.2.1))), (a1 5, .inl (cy 1, 50, .inl (gd_1.2.2.2.2.2)))] 9 rfl rfl rfl rfl rfl (by decide +kernel) (by decide +kernel) rfl) (fun u H locs hw hP hD hS => ?_)
    have hw := hw.symm
    subst hw
    have hP : va_P (dC, dI) vwCl (w_X10_readLaw cy a0 a1 (((1 : Int32), gvr_0.2)) v2 gtx_0 gv_1 gd_1) H := hP
    have hD : va_D A (w_X10_readLaw cy a0 a1 (((1 : Int32), gvr_0.2)) v2 gtx_0 gv_1 gd_1) := hD
    refine lv_aload_n hx hb dX10_readLaw_28 rfl (lv_at hl 0 rfl) ?_
    refine va_get (D := (dC, dI)) (ci := 8) (v := .ref (a0 1)) (C := RX10) (T := TX10) (N := 3) hx hb hts in_X10 hown hK hP 0 rfl rfl 0 (by decide) lk0 (fun _ h9 => h9) rfl dX10_readLaw_29 ?_
    refine va_ldcS hx hb hown (hX.2.2.2.1.2.1 (116, "void", 4) (by decide)) dX10_readLaw_32 ?_
    obtain ⟨v4, hv5, h⟩ := ok_bind h
    refine cl_vi (w2 := fun (_ : Unit) => w_X10_readLaw cy a0 a1 (((1 : Int32), gvr_0.2)) v2 gtx_0 gv_1 gd_1) (As := [.ref (z 4)]) (rest := []) ⟨hx, hb, hml, hown, hts⟩ (c_X7_isWord l dC dI cy z (fun k => a0 (k + 1)) v2 gtx_0 4 H.size v4 hv5) (cwV 1 hts gX10_readLaw_X7_isWord rfl rfl rfl (by decide +kernel) ⟨Nat.le_of_ble_eq_true rfl, Nat.le_of_ble_eq_true rfl⟩) (va_recv hK hP (ci := 5) (q0 := 1) rfl rfl) cl_blindS (cl_preS hK hP hD hS hA hX [1, 2] (by decide) rfl) hP hD hS hA [1, 2] rfl rfl hl.1 rfl (lv_room (Nat.le_of_ble_eq_true rfl)) dX10_readLaw_34 ⟨Nat.le_of_ble_eq_true rfl, Nat.le_of_ble_eq_true rfl⟩ ⟨rfl, rfl⟩ (fun _ => updR [1, 2] rfl) (fun r u H locs hw hP hD hS => ?_)
    have hw := hw.symm
    subst hw
    have hP : va_P (dC, dI) vwCl (w_X10_readLaw cy a0 a1 (((1 : Int32), gvr_0.2)) v2 gtx_0 gv_1 gd_1) H := hP
    have hD : va_D A (w_X10_readLaw cy a0 a1 (((1 : Int32), gvr_0.2)) v2 gtx_0 gv_1 gd_1) := hD
    refine lv_if_eq (tgt := 51) hx hb dX10_readLaw_37 (by decide) (fun c6 => ?_) (fun c6 => ?_)
    · rw [if_pos c6] at h
      refine lv_aload_n hx hb dX10_readLaw_51 rfl (lv_at hl 0 rfl) ?_
      refine va_get (D := (dC, dI)) (ci := 8) (v := .ref (a0 1)) (C := RX10) (T := TX10) (N := 3) hx hb hts in_X10 hown hK hP 0 rfl rfl 0 (by decide) lk0 (fun _ h9 => h9) rfl dX10_readLaw_52 ?_
      refine va_ldcS hx hb hown (hX.2.2.2.1.2.1 (120, "due", 5) (by decide)) dX10_readLaw_55 ?_
      obtain ⟨v7, hv8, h⟩ := ok_bind h
      refine cl_vi (w2 := fun (_ : Unit) => w_X10_readLaw cy a0 a1 (((1 : Int32), gvr_0.2)) v2 gtx_0 gv_1 gd_1) (As := [.ref (z 5)]) (rest := []) ⟨hx, hb, hml, hown, hts⟩ (c_X7_isWord l dC dI cy z (fun k => a0 (k + 1)) v2 gtx_0 5 H.size v7 hv8) (cwV 1 hts gX10_readLaw_X7_isWord rfl rfl rfl (by decide +kernel) ⟨Nat.le_of_ble_eq_true rfl, Nat.le_of_ble_eq_true rfl⟩) (va_recv hK hP (ci := 5) (q0 := 1) rfl rfl) cl_blindS (cl_preS hK hP hD hS hA hX [1, 2] (by decide) rfl) hP hD hS hA [1, 2] rfl rfl hl.1 rfl (lv_room (Nat.le_of_ble_eq_true rfl)) dX10_readLaw_57 ⟨Nat.le_of_ble_eq_true rfl, Nat.le_of_ble_eq_true rfl⟩ ⟨rfl, rfl⟩ (fun _ => updR [1, 2] rfl) (fun r u H locs hw hP hD hS => ?_)
      have hw := hw.symm
      subst hw
      have hP : va_P (dC, dI) vwCl (w_X10_readLaw cy a0 a1 (((1 : Int32), gvr_0.2)) v2 gtx_0 gv_1 gd_1) H := hP
      have hD : va_D A (w_X10_readLaw cy a0 a1 (((1 : Int32), gvr_0.2)) v2 gtx_0 gv_1 gd_1) := hD
      refine lv_if_eq (tgt := 74) hx hb dX10_readLaw_60 (by decide) (fun c9 => ?_) (fun c9 => ?_)
      · rw [if_pos c9] at h
        refine lv_aload_n hx hb dX10_readLaw_74 rfl (lv_at hl 0 rfl) ?_
        refine va_get (D := (dC, dI)) (ci := 8) (v := .ref (a0 1)) (C := RX10) (T := TX10) (N := 3) hx hb hts in_X10 hown hK hP 0 rfl rfl 0 (by decide) lk0 (fun _ h9 => h9) rfl dX10_readLaw_75 ?_
        refine va_ldcS hx hb hown (hX.2.2.2.1.2.1 (122, "greatest", 6) (by decide)) dX10_readLaw_78 ?_
        obtain ⟨v10, hv11, h⟩ := ok_bind h
        refine cl_vi (w2 := fun (_ : Unit) => w_X10_readLaw cy a0 a1 (((1 : Int32), gvr_0.2)) v2 gtx_0 gv_1 gd_1) (As := [.ref (z 6)]) (rest := []) ⟨hx, hb, hml, hown, hts⟩ (c_X7_isWord l dC dI cy z (fun k => a0 (k + 1)) v2 gtx_0 6 H.size v10 hv11) (cwV 1 hts gX10_readLaw_X7_isWord rfl rfl rfl (by decide +kernel) ⟨Nat.le_of_ble_eq_true rfl, Nat.le_of_ble_eq_true rfl⟩) (va_recv hK hP (ci := 5) (q0 := 1) rfl rfl) cl_blindS (cl_preS hK hP hD hS hA hX [1, 2] (by decide) rfl) hP hD hS hA [1, 2] rfl rfl hl.1 rfl (lv_room (Nat.le_of_ble_eq_true rfl)) dX10_readLaw_80 ⟨Nat.le_of_ble_eq_true rfl, Nat.le_of_ble_eq_true rfl⟩ ⟨rfl, rfl⟩ (fun _ => updR [1, 2] rfl) (fun r u H locs hw hP hD hS => ?_)
        have hw := hw.symm
        subst hw
        have hP : va_P (dC, dI) vwCl (w_X10_readLaw cy a0 a1 (((1 : Int32), gvr_0.2)) v2 gtx_0 gv_1 gd_1) H := hP
        have hD : va_D A (w_X10_readLaw cy a0 a1 (((1 : Int32), gvr_0.2)) v2 gtx_0 gv_1 gd_1) := hD
        refine lv_if_eq (tgt := 97) hx hb dX10_readLaw_83 (by decide) (fun c12 => ?_) (fun c12 => ?_)
        · rw [if_pos c12] at h
          refine lv_aload_n hx hb dX10_readLaw_97 rfl (lv_at hl 0 rfl) ?_
          refine va_get (D := (dC, dI)) (ci := 8) (v := .ref (a0 1)) (C := RX10) (T := TX10) (N := 3) hx hb hts in_X10 hown hK hP 0 rfl rfl 0 (by decide) lk0 (fun _ h9 => h9) rfl dX10_readLaw_98 ?_
          refine lv_iconst (v := (1 : Int32)) hx hb dX10_readLaw_101 (by decide) ?_
          obtain ⟨v13, hv14, h⟩ := ok_bind h
          refine cl_vi (w2 := fun (u : (Int32 × Int32 × Int32 × Int32 × Int32 × Int32 × Int32 × Int32 × Int32)) => w_X10_readLaw cy a0 a1 (((1 : Int32), gvr_0.2)) u gtx_0 gv_1 gd_1) (As := [.int (1 : Int32)]) (rest := []) ⟨hx, hb, hml, hown, hts⟩ (c_X7_refuse l dC dI cy (fun k => a0 (k + 1)) v2 (1 : Int32) H.size v13 hv14) (cwV 1 hts gX10_readLaw_X7_refuse rfl rfl rfl (by decide +kernel) ⟨Nat.le_of_ble_eq_true rfl, Nat.le_of_ble_eq_true rfl⟩) (va_recv hK hP (ci := 5) (q0 := 1) rfl rfl) cl_blind (cl_pre hK hP hD [1] (by decide) rfl) hP hD hS hA [1] rfl rfl hl.1 rfl (lv_room (Nat.le_of_ble_eq_true rfl)) dX10_readLaw_102 ⟨Nat.le_of_ble_eq_true rfl, Nat.le_of_ble_eq_true rfl⟩ ⟨rfl, rfl⟩ (fun _ => updM [1] [0, 2, 3, 4, 5, 6, 7, 8] [(a0 0, .inr (8, [.ref (a0 1), .int ((1 : Int32)), .int (gvr_0.2)])), (a0 2, .inl (cy 0, 600, .inl (gtx_0))), (a1 0, .inr (7, [.int (gv_1.1), .int (gv_1.2.1), .ref (a1 1), .ref (a1 6), .ref (a1 10), .ref (a1 11), .ref (a1 12), .ref (a1 13), .ref (a1 14)])), (a1 1, .inr (2, [.int (gd_1.1), .int (gd_1.2.1), .ref (a1 2), .ref (a1 3), .ref (a1 4), .ref (a1 5)])), (a1 2, .inl (cy 1, 10, .inl (gd_1.2.2.1))), (a1 3, .inl (cy 1, 10, .inl (gd_1.2.2.2.1))), (a1 4, .inl (cy 1, 10, .inl (gd_1.2.2.2.2.1))), (a1 5, .inl (cy 1, 50, .inl (gd_1.2.2.2.2.2)))] 9 rfl rfl rfl rfl rfl (by decide +kernel) (by decide +kernel) rfl) (fun r u H locs hw hP hD hS => ?_)
          obtain ⟨rfl, rfl⟩ := hw
          have hP : va_P (dC, dI) vwCl (w_X10_readLaw cy a0 a1 (((1 : Int32), gvr_0.2)) v13.2 gtx_0 gv_1 gd_1) H := hP
          have hD : va_D A (w_X10_readLaw cy a0 a1 (((1 : Int32), gvr_0.2)) v13.2 gtx_0 gv_1 gd_1) := hD
          obtain ⟨hz15, h⟩ := ok_if h
          exact W.zret (v := v13.1) (ty := .boolean) hx hb hr (isZ_nar hz15) (fun t ht hW => by rw [hqq]; have hh := Option.some.inj h; exact ⟨⟨v13.1, ((((1 : Int32), gvr_0.2), v13.2, gd_1)), rfl, ⟨fst_of hh, snd_of hh⟩, by rw [ht]; exact hP, va_K.moved hW.alike hK⟩, hS.F ht⟩) hS.2.2 dX10_readLaw_105
        · rw [if_neg c12] at h
          refine lv_aload_n hx hb dX10_readLaw_86 rfl (lv_at hl 1 rfl) ?_
          refine va_get (D := (dC, dI)) (ci := 7) (v := .ref (a1 1)) (C := RX9) (T := TX9) (N := 9) hx hb hts in_X9 hown hK hP 3 rfl rfl 2 (by decide) lk2 (fun _ h9 => h9) rfl dX10_readLaw_87 ?_
          refine lv_iconst (v := (2 : Int32)) hx hb dX10_readLaw_90 (by decide) ?_
          refine va_put (D := (dC, dI)) (ci := 2) (v := .int (2 : Int32)) (ty := .int) (C := RX4) (T := TX4) (N := 6) hx hb hts in_X4 tyX4 tyX4_ok nmX4 hown hK hP hD hS 4 rfl rfl 0 (by decide) lk3 (fun _ h9 => h9) rfl (by decide +kernel) rfl rfl (Nat.le_of_ble_eq_true rfl) dX10_readLaw_91 (fun H locs hP hD hS => ?_)
          have hP : va_P (dC, dI) vwCl (w_X10_readLaw cy a0 a1 (((1 : Int32), gvr_0.2)) v2 gtx_0 gv_1 (((2 : Int32), gd_1.2))) H := hP
          have hD : va_D A (w_X10_readLaw cy a0 a1 (((1 : Int32), gvr_0.2)) v2 gtx_0 gv_1 (((2 : Int32), gd_1.2))) := hD
          refine lv_goto (tgt := 106) hx hb dX10_readLaw_94 (by decide) ?_
          exact c106 () ((1 : Int32), gvr_0.2) v2 ((2 : Int32), gd_1.2) H locs ls h hP hD hS (lv_sub hl [0] rfl)
      · rw [if_neg c9] at h
        refine lv_aload_n hx hb dX10_readLaw_63 rfl (lv_at hl 1 rfl) ?_
        refine va_get (D := (dC, dI)) (ci := 7) (v := .ref (a1 1)) (C := RX9) (T := TX9) (N := 9) hx hb hts in_X9 hown hK hP 3 rfl rfl 2 (by decide) lk2 (fun _ h9 => h9) rfl dX10_readLaw_64 ?_
        refine lv_iconst (v := (1 : Int32)) hx hb dX10_readLaw_67 (by decide) ?_
        refine va_put (D := (dC, dI)) (ci := 2) (v := .int (1 : Int32)) (ty := .int) (C := RX4) (T := TX4) (N := 6) hx hb hts in_X4 tyX4 tyX4_ok nmX4 hown hK hP hD hS 4 rfl rfl 0 (by decide) lk3 (fun _ h9 => h9) rfl (by decide +kernel) rfl rfl (Nat.le_of_ble_eq_true rfl) dX10_readLaw_68 (fun H locs hP hD hS => ?_)
        have hP : va_P (dC, dI) vwCl (w_X10_readLaw cy a0 a1 (((1 : Int32), gvr_0.2)) v2 gtx_0 gv_1 (((1 : Int32), gd_1.2))) H := hP
        have hD : va_D A (w_X10_readLaw cy a0 a1 (((1 : Int32), gvr_0.2)) v2 gtx_0 gv_1 (((1 : Int32), gd_1.2))) := hD
        refine lv_goto (tgt := 106) hx hb dX10_readLaw_71 (by decide) ?_
        exact c106 () ((1 : Int32), gvr_0.2) v2 ((1 : Int32), gd_1.2) H locs ls h hP hD hS (lv_sub hl [0] rfl)
    · rw [if_neg c6] at h
      refine lv_aload_n hx hb dX10_readLaw_40 rfl (lv_at hl 1 rfl) ?_
      refine va_get (D := (dC, dI)) (ci := 7) (v := .ref (a1 1)) (C := RX9) (T := TX9) (N := 9) hx hb hts in_X9 hown hK hP 3 rfl rfl 2 (by decide) lk2 (fun _ h9 => h9) rfl dX10_readLaw_41 ?_
      refine lv_iconst (v := (0 : Int32)) hx hb dX10_readLaw_44 (by decide) ?_
      refine va_put (D := (dC, dI)) (ci := 2) (v := .int (0 : Int32)) (ty := .int) (C := RX4) (T := TX4) (N := 6) hx hb hts in_X4 tyX4 tyX4_ok nmX4 hown hK hP hD hS 4 rfl rfl 0 (by decide) lk3 (fun _ h9 => h9) rfl (by decide +kernel) rfl rfl (Nat.le_of_ble_eq_true rfl) dX10_readLaw_45 (fun H locs hP hD hS => ?_)
      have hP : va_P (dC, dI) vwCl (w_X10_readLaw cy a0 a1 (((1 : Int32), gvr_0.2)) v2 gtx_0 gv_1 (((0 : Int32), gd_1.2))) H := hP
      have hD : va_D A (w_X10_readLaw cy a0 a1 (((1 : Int32), gvr_0.2)) v2 gtx_0 gv_1 (((0 : Int32), gd_1.2))) := hD
      refine lv_goto (tgt := 106) hx hb dX10_readLaw_48 (by decide) ?_
      exact c106 () ((1 : Int32), gvr_0.2) v2 ((0 : Int32), gd_1.2) H locs ls h hP hD hS (lv_sub hl [0] rfl)
  · rw [if_neg c1] at h
    refine lv_aload_n hx hb dX10_readLaw_7 rfl (lv_at hl 0 rfl) ?_
    refine va_get (D := (dC, dI)) (ci := 8) (v := .ref (a0 1)) (C := RX10) (T := TX10) (N := 3) hx hb hts in_X10 hown hK hP 0 rfl rfl 0 (by decide) lk0 (fun _ h9 => h9) rfl dX10_readLaw_8 ?_
    refine lv_iconst (v := (4 : Int32)) hx hb dX10_readLaw_11 (by decide) ?_
    obtain ⟨v16, hv17, h⟩ := ok_bind h
    refine cl_vi (w2 := fun (u : (Int32 × Int32 × Int32 × Int32 × Int32 × Int32 × Int32 × Int32 × Int32)) => w_X10_readLaw cy a0 a1 gvr_0 u gtx_0 gv_1 gd_1) (As := [.int (4 : Int32)]) (rest := []) ⟨hx, hb, hml, hown, hts⟩ (c_X7_refuse l dC dI cy (fun k => a0 (k + 1)) gr_0 (4 : Int32) H.size v16 hv17) (cwV 1 hts gX10_readLaw_X7_refuse rfl rfl rfl (by decide +kernel) ⟨Nat.le_of_ble_eq_true rfl, Nat.le_of_ble_eq_true rfl⟩) (va_recv hK hP (ci := 5) (q0 := 1) rfl rfl) cl_blind (cl_pre hK hP hD [1] (by decide) rfl) hP hD hS hA [1] rfl rfl hl.1 rfl (lv_room (Nat.le_of_ble_eq_true rfl)) dX10_readLaw_12 ⟨Nat.le_of_ble_eq_true rfl, Nat.le_of_ble_eq_true rfl⟩ ⟨rfl, rfl⟩ (fun _ => updM [1] [0, 2, 3, 4, 5, 6, 7, 8] [(a0 0, .inr (8, [.ref (a0 1), .int (gvr_0.1), .int (gvr_0.2)])), (a0 2, .inl (cy 0, 600, .inl (gtx_0))), (a1 0, .inr (7, [.int (gv_1.1), .int (gv_1.2.1), .ref (a1 1), .ref (a1 6), .ref (a1 10), .ref (a1 11), .ref (a1 12), .ref (a1 13), .ref (a1 14)])), (a1 1, .inr (2, [.int (gd_1.1), .int (gd_1.2.1), .ref (a1 2), .ref (a1 3), .ref (a1 4), .ref (a1 5)])), (a1 2, .inl (cy 1, 10, .inl (gd_1.2.2.1))), (a1 3, .inl (cy 1, 10, .inl (gd_1.2.2.2.1))), (a1 4, .inl (cy 1, 10, .inl (gd_1.2.2.2.2.1))), (a1 5, .inl (cy 1, 50, .inl (gd_1.2.2.2.2.2)))] 9 rfl rfl rfl rfl rfl (by decide +kernel) (by decide +kernel) rfl) (fun r u H locs hw hP hD hS => ?_)
    obtain ⟨rfl, rfl⟩ := hw
    have hP : va_P (dC, dI) vwCl (w_X10_readLaw cy a0 a1 gvr_0 v16.2 gtx_0 gv_1 gd_1) H := hP
    have hD : va_D A (w_X10_readLaw cy a0 a1 gvr_0 v16.2 gtx_0 gv_1 gd_1) := hD
    obtain ⟨hz18, h⟩ := ok_if h
    exact W.zret (v := v16.1) (ty := .boolean) hx hb hr (isZ_nar hz18) (fun t ht hW => by rw [hqq]; have hh := Option.some.inj h; exact ⟨⟨v16.1, ((gvr_0, v16.2, gd_1)), rfl, ⟨fst_of hh, snd_of hh⟩, by rw [ht]; exact hP, va_K.moved hW.alike hK⟩, hS.F ht⟩) hS.2.2 dX10_readLaw_15

abbrev w_X10_readDoor (cy : Nat → ClassId) (a0 : Nat → Nat) (a1 : Nat → Nat) (gvr_0 : Int32 × Int32) (gr_0 : Int32 × Int32 × Int32 × Int32 × Int32 × Int32 × Int32 × Int32 × Int32) (gtx_0 : (Nat → Int32)) (gv_1 : Int32 × Int32 × (Nat → Int32) × (Nat → Int32) × (Nat → Int32) × (Nat → Int32) × (Nat → Int32)) (gd_1 : Int32 × Int32 × (Nat → Int32) × (Nat → Int32) × (Nat → Int32) × (Nat → Int32)) : va_W := [(a0 0, .inr (8, [.ref (a0 1), .int (gvr_0.1), .int (gvr_0.2)])), (a0 1, .inr (5, [.ref (a0 2), .int (gr_0.1), .int (gr_0.2.1), .int (gr_0.2.2.1), .int (gr_0.2.2.2.1), .int (gr_0.2.2.2.2.1), .int (gr_0.2.2.2.2.2.1), .int (gr_0.2.2.2.2.2.2.1), .int (gr_0.2.2.2.2.2.2.2.1), .int (gr_0.2.2.2.2.2.2.2.2)])), (a0 2, .inl (cy 0, 600, .inl (gtx_0))), (a1 0, .inr (7, [.int (gv_1.1), .int (gv_1.2.1), .ref (a1 1), .ref (a1 6), .ref (a1 10), .ref (a1 11), .ref (a1 12), .ref (a1 13), .ref (a1 14)])), (a1 1, .inr (2, [.int (gd_1.1), .int (gd_1.2.1), .ref (a1 2), .ref (a1 3), .ref (a1 4), .ref (a1 5)])), (a1 2, .inl (cy 1, 10, .inl (gd_1.2.2.1))), (a1 3, .inl (cy 1, 10, .inl (gd_1.2.2.2.1))), (a1 4, .inl (cy 1, 10, .inl (gd_1.2.2.2.2.1))), (a1 5, .inl (cy 1, 50, .inl (gd_1.2.2.2.2.2))), (a1 10, .inl (cy 1, 5, .inl (gv_1.2.2.1))), (a1 11, .inl (cy 1, 5, .inl (gv_1.2.2.2.1))), (a1 12, .inl (cy 1, 5, .inl (gv_1.2.2.2.2.1))), (a1 13, .inl (cy 1, 5, .inl (gv_1.2.2.2.2.2.1))), (a1 14, .inl (cy 1, 5, .inl (gv_1.2.2.2.2.2.2)))]
abbrev rm_X10_readDoor : Room := { frames := 3, cells := 0, slots := 0, locals := 68 }
set_option maxHeartbeats 1000000 in
set_option maxRecDepth 100000 in
theorem c_X10_readDoor (l : Launch) (dC : Nat → ClassId) (dI : Nat → Nat → Nat) (cy : Nat → ClassId) (a0 : Nat → Nat) (a1 : Nat → Nat) (gvr_0 : Int32 × Int32) (gr_0 : Int32 × Int32 × Int32 × Int32 × Int32 × Int32 × Int32 × Int32 × Int32) (gtx_0 : (Nat → Int32)) (gv_1 : Int32 × Int32 × (Nat → Int32) × (Nat → Int32) × (Nat → Int32) × (Nat → Int32) × (Nat → Int32)) (gd_1 : Int32 × Int32 × (Nat → Int32) × (Nat → Int32) × (Nat → Int32) × (Nat → Int32)) (sz : Nat) (R0 : Int32 × (Int32 × Int32) × (Int32 × Int32 × Int32 × Int32 × Int32 × Int32 × Int32 × Int32 × Int32) × (Int32 × Int32 × (Nat → Int32) × (Nat → Int32) × (Nat → Int32) × (Nat → Int32))) (h : p_X10_readDoor gvr_0 gr_0 gtx_0 gv_1 gd_1 = some R0) : Met l yX10_readDoor wsX10_readDoor rm_X10_readDoor (va_Pc [.ref (a0 0), .ref (a1 0)] (prC dC dI cy (w_X10_readDoor cy a0 a1 gvr_0 gr_0 gtx_0 gv_1 gd_1) sz)) (va_Qi (fun (r : Int32) (u : (Int32 × Int32) × (Int32 × Int32 × Int32 × Int32 × Int32 × Int32 × Int32 × Int32 × Int32) × (Int32 × Int32 × (Nat → Int32) × (Nat → Int32) × (Nat → Int32) × (Nat → Int32))) => r = R0.1 ∧ u = R0.2) (fun (u : (Int32 × Int32) × (Int32 × Int32 × Int32 × Int32 × Int32 × Int32 × Int32 × Int32 × Int32) × (Int32 × Int32 × (Nat → Int32) × (Nat → Int32) × (Nat → Int32) × (Nat → Int32))) t => poC dC dI cy (w_X10_readDoor cy a0 a1 u.1 u.2.1 gtx_0 gv_1 u.2.2) t) (va_A (w_X10_readDoor cy a0 a1 gvr_0 gr_0 gtx_0 gv_1 gd_1) sz)) 0 0 (va_A (w_X10_readDoor cy a0 a1 gvr_0 gr_0 gtx_0 gv_1 gd_1) sz) := by
  refine Met.ofW (cc := cX10_readDoor) (maxL := 4) (ret := (some .boolean)) (by decide) rfl ?_
  intro p e s m aa below meth c s₁ B hml hv
  obtain ⟨haa, hsz, hP, hK, hD0⟩ := hv
  have hx := B.exec
  have hb := B.bytes
  have hr := B.returns
  have hts := atoms_spec (ws := wsX10_readDoor) B.pre
  have hown : s.vm.findClass RX10 = some m.cls := findClass_of_methodNamed B.named
  have hlocks := B.notSynchronized
  subst hsz
  have hD := hD0.self (sz := s.heap.size)
  obtain ⟨qq, hqq⟩ : ∃ qq, qq = (va_Qi (fun (r : Int32) (u : (Int32 × Int32) × (Int32 × Int32 × Int32 × Int32 × Int32 × Int32 × Int32 × Int32 × Int32) × (Int32 × Int32 × (Nat → Int32) × (Nat → Int32) × (Nat → Int32) × (Nat → Int32))) => r = R0.1 ∧ u = R0.2) (fun (u : (Int32 × Int32) × (Int32 × Int32 × Int32 × Int32 × Int32 × Int32 × Int32 × Int32 × Int32) × (Int32 × Int32 × (Nat → Int32) × (Nat → Int32) × (Nat → Int32) × (Nat → Int32))) t => poC dC dI cy (w_X10_readDoor cy a0 a1 u.1 u.2.1 gtx_0 gv_1 u.2.2) t) (va_A (w_X10_readDoor cy a0 a1 gvr_0 gr_0 gtx_0 gv_1 gd_1) s.heap.size)) := ⟨_, rfl⟩
  rw [← hqq]
  generalize hAe : va_A (w_X10_readDoor cy a0 a1 gvr_0 gr_0 gtx_0 gv_1 gd_1) s.heap.size = A at hD hqq ⊢
  have hA : ∀ q : Nat, s.heap.size ≤ q → A q := fun q h => by rw [← hAe]; exact Or.inr h
  have hS : va_S A s.heap s.heap [] := va_S.rf
  have hl := lv_entry ([.ref (a0 0), .ref (a1 0)]) (n := 4) (Nat.le_of_ble_eq_true rfl)
  have hE : entryFrame m aa 4 = F0 m 0 ((lg_sl ([.ref (a0 0), .ref (a1 0)]) ++ List.replicate (4 - (lg_sl ([.ref (a0 0), .ref (a1 0)])).length) Slot.unset).toArray) [] := by rw [haa]; exact lg_entry_eq m _ 4
  refine W.eq hE ?_
  generalize (lg_sl ([.ref (a0 0), .ref (a1 0)]) ++ List.replicate (4 - (lg_sl ([.ref (a0 0), .ref (a1 0)])).length) Slot.unset).toArray = ls at hl ⊢
  have hl : lv_has ls 4 [(0, .ref (a0 0)), (1, .ref (a1 0))] := hl
  change W p l e rm_X10_readDoor s m aa below meth c s.heap [] 0 0 (MQ below qq aa s 0 0 A) (F0 m 0 ls [])
  have hS0 := hS
  have lk0 := hts (.fieldLink RX10 24 "GoatDoors$VillageReader" "doorsTold" "I") (by decide +kernel)
  have lk1 := hts (.fieldLink RX10 9 "GoatDoors$VillageReader" "reader" "LGoatDoors$Reader;") (by decide +kernel)
  have lk2 := hts (.fieldLink RX10 72 "GoatDoors$Village" "owners" "I") (by decide +kernel)
  have lk3 := hts (.fieldLink RX10 88 "GoatDoors$Reader" "value" "I") (by decide +kernel)
  have lk4 := hts (.fieldLink RX10 106 "GoatDoors$Village" "doors" "LGoatDoors$Doors;") (by decide +kernel)
  have in_X10 : ∀ w ∈ wsX100, w ∈ wsX10_readDoor := by decide +kernel
  have in_X9 : ∀ w ∈ wsX90, w ∈ wsX10_readDoor := by decide +kernel
  have in_X7 : ∀ w ∈ wsX70, w ∈ wsX10_readDoor := by decide +kernel
  obtain ⟨H, hH⟩ : ∃ H : Heap, H = s.heap := ⟨_, rfl⟩
  obtain ⟨locs, hlocs⟩ : ∃ locs : List Loc, locs = [] := ⟨_, rfl⟩
  have hS : va_S A s.heap H locs := by rw [hH, hlocs]; exact hS
  rw [← hH] at hP
  suffices hg : W p l e rm_X10_readDoor s m aa below meth c H locs 0 0 (MQ below qq aa s 0 0 A) (F0 m 0 ls []) by subst hH; subst hlocs; exact hg
  unfold p_X10_readDoor at h
  refine lv_aload_n hx hb dX10_readDoor_0 rfl (lv_at hl 0 rfl) ?_
  refine va_get (D := (dC, dI)) (ci := 8) (v := .int gvr_0.2) (C := RX10) (T := TX10) (N := 3) hx hb hts in_X10 hown hK hP 0 rfl rfl 2 (by decide) lk0 (fun _ h9 => h9) rfl dX10_readDoor_1 ?_
  refine lv_bipush (v := (10 : Int32)) hx hb dX10_readDoor_4 (by decide) ?_
  refine lv_icmp_lt (tgt := 18) hx hb dX10_readDoor_6 (by decide) (fun c1 => ?_) (fun c1 => ?_)
  · rw [if_pos c1] at h
    refine lv_aload_n hx hb dX10_readDoor_18 rfl (lv_at hl 0 rfl) ?_
    refine lv_dup hx hb dX10_readDoor_19 rfl ?_
    refine va_get (D := (dC, dI)) (ci := 8) (v := .int gvr_0.2) (C := RX10) (T := TX10) (N := 3) hx hb hts in_X10 hown hK hP 0 rfl rfl 2 (by decide) lk0 (fun _ h9 => h9) rfl dX10_readDoor_20 ?_
    refine lv_iconst (v := (1 : Int32)) hx hb dX10_readDoor_23 (by decide) ?_
    refine lv_iadd hx hb dX10_readDoor_24 ?_
    refine va_put (D := (dC, dI)) (ci := 8) (v := .int (gvr_0.2 + (1 : Int32))) (ty := .int) (C := RX10) (T := TX10) (N := 3) hx hb hts in_X10 tyX10 tyX10_ok nmX10 hown hK hP hD hS 0 rfl rfl 2 (by decide) lk0 (fun _ h9 => h9) rfl (by decide +kernel) rfl rfl (Nat.le_of_ble_eq_true rfl) dX10_readDoor_25 (fun H locs hP hD hS => ?_)
    have hP : va_P (dC, dI) vwCl (w_X10_readDoor cy a0 a1 ((gvr_0.1, (gvr_0.2 + (1 : Int32)))) gr_0 gtx_0 gv_1 gd_1) H := hP
    have hD : va_D A (w_X10_readDoor cy a0 a1 ((gvr_0.1, (gvr_0.2 + (1 : Int32)))) gr_0 gtx_0 gv_1 gd_1) := hD
    refine lv_aload_n hx hb dX10_readDoor_28 rfl (lv_at hl 0 rfl) ?_
    refine va_get (D := (dC, dI)) (ci := 8) (v := .ref (a0 1)) (C := RX10) (T := TX10) (N := 3) hx hb hts in_X10 hown hK hP 0 rfl rfl 0 (by decide) lk1 (fun _ h9 => h9) rfl dX10_readDoor_29 ?_
    obtain ⟨v2, hv3, h⟩ := ok_bind h
    refine cl_vv (w2 := fun (u : (Int32 × Int32 × Int32 × Int32 × Int32 × Int32 × Int32 × Int32 × Int32)) => w_X10_readDoor cy a0 a1 ((gvr_0.1, (gvr_0.2 + (1 : Int32)))) u gtx_0 gv_1 gd_1) (As := []) (rest := []) ⟨hx, hb, hml, hown, hts⟩ (c_X7_step l dC dI cy (fun k => a0 (k + 1)) gr_0 gtx_0 H.size v2 hv3) (cwV 0 hts gX10_readDoor_X7_step rfl rfl rfl (by decide +kernel) ⟨Nat.le_of_ble_eq_true rfl, Nat.le_of_ble_eq_true rfl⟩) (va_recv hK hP (ci := 5) (q0 := 1) rfl rfl) cl_blind (cl_pre hK hP hD [1, 2] (by decide) rfl) hP hD hS hA [1, 2] rfl rfl hl.1 rfl (lv_room (Nat.le_of_ble_eq_true rfl)) dX10_readDoor_32 ⟨Nat.le_of_ble_eq_true rfl, Nat.le_of_ble_eq_true rfl⟩ ⟨rfl, rfl⟩ (fun _ => updM [1, 2] [0, 3, 4, 5, 6, 7, 8, 9, 10, 11, 12, 13] [(a0 0, .inr (8, [.ref (a0 1), .int (gvr_0.1), .int ((gvr_0.2 + (1 : Int32)))])), (a1 0, .inr (7, [.int (gv_1.1), .int (gv_1.2.1), .ref (a1 1), .ref (a1 6), .ref (a1 10), .ref (a1 11), .ref (a1 12), .ref (a1 13), .ref (a1 14)])), (a1 1, .inr (2, [.int (gd_1.1), .int (gd_1.2.1), .ref (a1 2), .ref (a1 3), .ref (a1 4), .ref (a1 5)])), (a1 2, .inl (cy 1, 10, .inl (gd_1.2.2.1))), (a1 3, .inl (cy 1, 10, .inl (gd_1.2.2.2.1))), (a1 4, .inl (cy 1, 10, .inl (gd_1.2.2.2.2.1))), (a1 5, .inl (cy 1, 50, .inl (gd_1.2.2.2.2.2))), (a1 10, .inl (cy 1, 5, .inl (gv_1.2.2.1))), (a1 11, .inl (cy 1, 5, .inl (gv_1.2.2.2.1))), (a1 12, .inl (cy 1, 5, .inl (gv_1.2.2.2.2.1))), (a1 13, .inl (cy 1, 5, .inl (gv_1.2.2.2.2.2.1))), (a1 14, .inl (cy 1, 5, .inl (gv_1.2.2.2.2.2.2)))] 14 rfl rfl rfl rfl rfl (by decide +kernel) (by decide +kernel) rfl) (fun u H locs hw hP hD hS => ?_)
    have hw := hw.symm
    subst hw
    have hP : va_P (dC, dI) vwCl (w_X10_readDoor cy a0 a1 ((gvr_0.1, (gvr_0.2 + (1 : Int32)))) v2 gtx_0 gv_1 gd_1) H := hP
    have hD : va_D A (w_X10_readDoor cy a0 a1 ((gvr_0.1, (gvr_0.2 + (1 : Int32)))) v2 gtx_0 gv_1 gd_1) := hD
    refine lv_aload_n hx hb dX10_readDoor_35 rfl (lv_at hl 0 rfl) ?_
    refine va_get (D := (dC, dI)) (ci := 8) (v := .ref (a0 1)) (C := RX10) (T := TX10) (N := 3) hx hb hts in_X10 hown hK hP 0 rfl rfl 0 (by decide) lk1 (fun _ h9 => h9) rfl dX10_readDoor_36 ?_
    refine lv_aload_n hx hb dX10_readDoor_39 rfl (lv_at hl 1 rfl) ?_
    refine va_get (D := (dC, dI)) (ci := 7) (v := .int gv_1.1) (C := RX9) (T := TX9) (N := 9) hx hb hts in_X9 hown hK hP 3 rfl rfl 0 (by decide) lk2 (fun _ h9 => h9) rfl dX10_readDoor_40 ?_
    refine lv_iconst (v := (-1 : Int32)) hx hb dX10_readDoor_43 (by decide) ?_
    obtain ⟨v4, hv5, h⟩ := ok_bind h
    refine cl_vi (w2 := fun (u : (Int32 × Int32 × Int32 × Int32 × Int32 × Int32 × Int32 × Int32 × Int32)) => w_X10_readDoor cy a0 a1 ((gvr_0.1, (gvr_0.2 + (1 : Int32)))) u gtx_0 gv_1 gd_1) (As := [.int gv_1.1, .int (-1 : Int32)]) (rest := []) ⟨hx, hb, hml, hown, hts⟩ (c_X7_takeOneOf l dC dI cy (fun k => a0 (k + 1)) v2 gtx_0 gv_1.1 (-1 : Int32) H.size v4 hv5) (cwV 2 hts gX10_readDoor_X7_takeOneOf rfl rfl rfl (by decide +kernel) ⟨Nat.le_of_ble_eq_true rfl, Nat.le_of_ble_eq_true rfl⟩) (va_recv hK hP (ci := 5) (q0 := 1) rfl rfl) cl_blind (cl_pre hK hP hD [1, 2] (by decide) rfl) hP hD hS hA [1, 2] rfl rfl hl.1 rfl (lv_room (Nat.le_of_ble_eq_true rfl)) dX10_readDoor_44 ⟨Nat.le_of_ble_eq_true rfl, Nat.le_of_ble_eq_true rfl⟩ ⟨rfl, rfl⟩ (fun _ => updM [1, 2] [0, 3, 4, 5, 6, 7, 8, 9, 10, 11, 12, 13] [(a0 0, .inr (8, [.ref (a0 1), .int (gvr_0.1), .int ((gvr_0.2 + (1 : Int32)))])), (a1 0, .inr (7, [.int (gv_1.1), .int (gv_1.2.1), .ref (a1 1), .ref (a1 6), .ref (a1 10), .ref (a1 11), .ref (a1 12), .ref (a1 13), .ref (a1 14)])), (a1 1, .inr (2, [.int (gd_1.1), .int (gd_1.2.1), .ref (a1 2), .ref (a1 3), .ref (a1 4), .ref (a1 5)])), (a1 2, .inl (cy 1, 10, .inl (gd_1.2.2.1))), (a1 3, .inl (cy 1, 10, .inl (gd_1.2.2.2.1))), (a1 4, .inl (cy 1, 10, .inl (gd_1.2.2.2.2.1))), (a1 5, .inl (cy 1, 50, .inl (gd_1.2.2.2.2.2))), (a1 10, .inl (cy 1, 5, .inl (gv_1.2.2.1))), (a1 11, .inl (cy 1, 5, .inl (gv_1.2.2.2.1))), (a1 12, .inl (cy 1, 5, .inl (gv_1.2.2.2.2.1))), (a1 13, .inl (cy 1, 5, .inl (gv_1.2.2.2.2.2.1))), (a1 14, .inl (cy 1, 5, .inl (gv_1.2.2.2.2.2.2)))] 14 rfl rfl rfl rfl rfl (by decide +kernel) (by decide +kernel) rfl) (fun r u H locs hw hP hD hS => ?_)
    obtain ⟨rfl, rfl⟩ := hw
    have hP : va_P (dC, dI) vwCl (w_X10_readDoor cy a0 a1 ((gvr_0.1, (gvr_0.2 + (1 : Int32)))) v4.2 gtx_0 gv_1 gd_1) H := hP
    have hD : va_D A (w_X10_readDoor cy a0 a1 ((gvr_0.1, (gvr_0.2 + (1 : Int32)))) v4.2 gtx_0 gv_1 gd_1) := hD
    refine lv_if_ne (tgt := 52) hx hb dX10_readDoor_47 (by decide) (fun c6 => ?_) (fun c6 => ?_)
    · rw [if_neg c6] at h
      refine lv_aload_n hx hb dX10_readDoor_52 rfl (lv_at hl 0 rfl) ?_
      refine va_get (D := (dC, dI)) (ci := 8) (v := .ref (a0 1)) (C := RX10) (T := TX10) (N := 3) hx hb hts in_X10 hown hK hP 0 rfl rfl 0 (by decide) lk1 (fun _ h9 => h9) rfl dX10_readDoor_53 ?_
      refine va_get (D := (dC, dI)) (ci := 5) (v := .int v4.2.2.2.2.2.2.2.1) (C := RX7) (T := TX7) (N := 10) hx hb hts in_X7 hown hK hP 1 rfl rfl 7 (by decide) lk3 (fun _ h9 => h9) rfl dX10_readDoor_56 ?_
      refine lv_istore_n (lv' := [(2, .int v4.2.2.2.2.2.2.2.1), (0, .ref (a0 0)), (1, .ref (a1 0))]) hx hb dX10_readDoor_59 rfl hl (by decide) rfl (fun ls hl => ?_)
      refine lv_aload_n hx hb dX10_readDoor_60 rfl (lv_at hl 1 rfl) ?_
      refine va_get (D := (dC, dI)) (ci := 8) (v := .ref (a0 1)) (C := RX10) (T := TX10) (N := 3) hx hb hts in_X10 hown hK hP 0 rfl rfl 0 (by decide) lk1 (fun _ h9 => h9) rfl dX10_readDoor_61 ?_
      refine lv_aload_n hx hb dX10_readDoor_64 rfl (lv_at hl 2 rfl) ?_
      refine va_get (D := (dC, dI)) (ci := 7) (v := .int gv_1.1) (C := RX9) (T := TX9) (N := 9) hx hb hts in_X9 hown hK hP 3 rfl rfl 0 (by decide) lk2 (fun _ h9 => h9) rfl dX10_readDoor_65 ?_
      refine lv_iload_n hx hb dX10_readDoor_68 rfl (lv_at hl 0 rfl) ?_
      obtain ⟨v7, hv8, h⟩ := ok_bind h
      refine cl_vi (w2 := fun (u : (Int32 × Int32 × Int32 × Int32 × Int32 × Int32 × Int32 × Int32 × Int32)) => w_X10_readDoor cy a0 a1 ((gvr_0.1, (gvr_0.2 + (1 : Int32)))) u gtx_0 gv_1 gd_1) (As := [.int gv_1.1, .int v4.2.2.2.2.2.2.2.1]) (rest := []) ⟨hx, hb, hml, hown, hts⟩ (c_X7_takeOneOf l dC dI cy (fun k => a0 (k + 1)) v4.2 gtx_0 gv_1.1 v4.2.2.2.2.2.2.2.1 H.size v7 hv8) (cwV 2 hts gX10_readDoor_X7_takeOneOf rfl rfl rfl (by decide +kernel) ⟨Nat.le_of_ble_eq_true rfl, Nat.le_of_ble_eq_true rfl⟩) (va_recv hK hP (ci := 5) (q0 := 1) rfl rfl) cl_blind (cl_pre hK hP hD [1, 2] (by decide) rfl) hP hD hS hA [1, 2] rfl rfl hl.1 rfl (lv_room (Nat.le_of_ble_eq_true rfl)) dX10_readDoor_69 ⟨Nat.le_of_ble_eq_true rfl, Nat.le_of_ble_eq_true rfl⟩ ⟨rfl, rfl⟩ (fun _ => updM [1, 2] [0, 3, 4, 5, 6, 7, 8, 9, 10, 11, 12, 13] [(a0 0, .inr (8, [.ref (a0 1), .int (gvr_0.1), .int ((gvr_0.2 + (1 : Int32)))])), (a1 0, .inr (7, [.int (gv_1.1), .int (gv_1.2.1), .ref (a1 1), .ref (a1 6), .ref (a1 10), .ref (a1 11), .ref (a1 12), .ref (a1 13), .ref (a1 14)])), (a1 1, .inr (2, [.int (gd_1.1), .int (gd_1.2.1), .ref (a1 2), .ref (a1 3), .ref (a1 4), .ref (a1 5)])), (a1 2, .inl (cy 1, 10, .inl (gd_1.2.2.1))), (a1 3, .inl (cy 1, 10, .inl (gd_1.2.2.2.1))), (a1 4, .inl (cy 1, 10, .inl (gd_1.2.2.2.2.1))), (a1 5, .inl (cy 1, 50, .inl (gd_1.2.2.2.2.2))), (a1 10, .inl (cy 1, 5, .inl (gv_1.2.2.1))), (a1 11, .inl (cy 1, 5, .inl (gv_1.2.2.2.1))), (a1 12, .inl (cy 1, 5, .inl (gv_1.2.2.2.2.1))), (a1 13, .inl (cy 1, 5, .inl (gv_1.2.2.2.2.2.1))), (a1 14, .inl (cy 1, 5, .inl (gv_1.2.2.2.2.2.2)))] 14 rfl rfl rfl rfl rfl (by decide +kernel) (by decide +kernel) rfl) (fun r u H locs hw hP hD hS => ?_)
      obtain ⟨rfl, rfl⟩ := hw
      have hP : va_P (dC, dI) vwCl (w_X10_readDoor cy a0 a1 ((gvr_0.1, (gvr_0.2 + (1 : Int32)))) v7.2 gtx_0 gv_1 gd_1) H := hP
      have hD : va_D A (w_X10_readDoor cy a0 a1 ((gvr_0.1, (gvr_0.2 + (1 : Int32)))) v7.2 gtx_0 gv_1 gd_1) := hD
      refine lv_if_ne (tgt := 77) hx hb dX10_readDoor_72 (by decide) (fun c9 => ?_) (fun c9 => ?_)
      · rw [if_neg c9] at h
        refine lv_aload_n hx hb dX10_readDoor_77 rfl (lv_at hl 1 rfl) ?_
        refine va_get (D := (dC, dI)) (ci := 8) (v := .ref (a0 1)) (C := RX10) (T := TX10) (N := 3) hx hb hts in_X10 hown hK hP 0 rfl rfl 0 (by decide) lk1 (fun _ h9 => h9) rfl dX10_readDoor_78 ?_
        refine va_get (D := (dC, dI)) (ci := 5) (v := .int v7.2.2.2.2.2.2.2.1) (C := RX7) (T := TX7) (N := 10) hx hb hts in_X7 hown hK hP 1 rfl rfl 7 (by decide) lk3 (fun _ h9 => h9) rfl dX10_readDoor_81 ?_
        refine lv_istore_n (lv' := [(3, .int v7.2.2.2.2.2.2.2.1), (2, .int v4.2.2.2.2.2.2.2.1), (0, .ref (a0 0)), (1, .ref (a1 0))]) hx hb dX10_readDoor_84 rfl hl (by decide) rfl (fun ls hl => ?_)
        refine lv_aload_n hx hb dX10_readDoor_85 rfl (lv_at hl 2 rfl) ?_
        refine va_get (D := (dC, dI)) (ci := 8) (v := .ref (a0 1)) (C := RX10) (T := TX10) (N := 3) hx hb hts in_X10 hown hK hP 0 rfl rfl 0 (by decide) lk1 (fun _ h9 => h9) rfl dX10_readDoor_86 ?_
        obtain ⟨v10, hv11, h⟩ := ok_bind h
        refine cl_vi (w2 := fun (u : (Int32 × Int32 × Int32 × Int32 × Int32 × Int32 × Int32 × Int32 × Int32)) => w_X10_readDoor cy a0 a1 ((gvr_0.1, (gvr_0.2 + (1 : Int32)))) u gtx_0 gv_1 gd_1) (As := []) (rest := []) ⟨hx, hb, hml, hown, hts⟩ (c_X7_takeRow l dC dI cy (fun k => a0 (k + 1)) v7.2 gtx_0 H.size v10 hv11) (cwV 0 hts gX10_readDoor_X7_takeRow rfl rfl rfl (by decide +kernel) ⟨Nat.le_of_ble_eq_true rfl, Nat.le_of_ble_eq_true rfl⟩) (va_recv hK hP (ci := 5) (q0 := 1) rfl rfl) cl_blind (cl_pre hK hP hD [1, 2] (by decide) rfl) hP hD hS hA [1, 2] rfl rfl hl.1 rfl (lv_room (Nat.le_of_ble_eq_true rfl)) dX10_readDoor_89 ⟨Nat.le_of_ble_eq_true rfl, Nat.le_of_ble_eq_true rfl⟩ ⟨rfl, rfl⟩ (fun _ => updM [1, 2] [0, 3, 4, 5, 6, 7, 8, 9, 10, 11, 12, 13] [(a0 0, .inr (8, [.ref (a0 1), .int (gvr_0.1), .int ((gvr_0.2 + (1 : Int32)))])), (a1 0, .inr (7, [.int (gv_1.1), .int (gv_1.2.1), .ref (a1 1), .ref (a1 6), .ref (a1 10), .ref (a1 11), .ref (a1 12), .ref (a1 13), .ref (a1 14)])), (a1 1, .inr (2, [.int (gd_1.1), .int (gd_1.2.1), .ref (a1 2), .ref (a1 3), .ref (a1 4), .ref (a1 5)])), (a1 2, .inl (cy 1, 10, .inl (gd_1.2.2.1))), (a1 3, .inl (cy 1, 10, .inl (gd_1.2.2.2.1))), (a1 4, .inl (cy 1, 10, .inl (gd_1.2.2.2.2.1))), (a1 5, .inl (cy 1, 50, .inl (gd_1.2.2.2.2.2))), (a1 10, .inl (cy 1, 5, .inl (gv_1.2.2.1))), (a1 11, .inl (cy 1, 5, .inl (gv_1.2.2.2.1))), (a1 12, .inl (cy 1, 5, .inl (gv_1.2.2.2.2.1))), (a1 13, .inl (cy 1, 5, .inl (gv_1.2.2.2.2.2.1))), (a1 14, .inl (cy 1, 5, .inl (gv_1.2.2.2.2.2.2)))] 14 rfl rfl rfl rfl rfl (by decide +kernel) (by decide +kernel) rfl) (fun r u H locs hw hP hD hS => ?_)
        obtain ⟨rfl, rfl⟩ := hw
        have hP : va_P (dC, dI) vwCl (w_X10_readDoor cy a0 a1 ((gvr_0.1, (gvr_0.2 + (1 : Int32)))) v10.2 gtx_0 gv_1 gd_1) H := hP
        have hD : va_D A (w_X10_readDoor cy a0 a1 ((gvr_0.1, (gvr_0.2 + (1 : Int32)))) v10.2 gtx_0 gv_1 gd_1) := hD
        refine lv_if_ne (tgt := 97) hx hb dX10_readDoor_92 (by decide) (fun c12 => ?_) (fun c12 => ?_)
        · rw [if_neg c12] at h
          refine lv_aload_n hx hb dX10_readDoor_97 rfl (lv_at hl 3 rfl) ?_
          refine va_get (D := (dC, dI)) (ci := 7) (v := .ref (a1 1)) (C := RX9) (T := TX9) (N := 9) hx hb hts in_X9 hown hK hP 3 rfl rfl 2 (by decide) lk4 (fun _ h9 => h9) rfl dX10_readDoor_98 ?_
          refine lv_iload_n hx hb dX10_readDoor_101 rfl (lv_at hl 1 rfl) ?_
          refine lv_iload_n hx hb dX10_readDoor_102 rfl (lv_at hl 0 rfl) ?_
          refine lv_aload_n hx hb dX10_readDoor_103 rfl (lv_at hl 2 rfl) ?_
          refine va_get (D := (dC, dI)) (ci := 8) (v := .ref (a0 1)) (C := RX10) (T := TX10) (N := 3) hx hb hts in_X10 hown hK hP 0 rfl rfl 0 (by decide) lk1 (fun _ h9 => h9) rfl dX10_readDoor_104 ?_
          obtain ⟨v13, hv14, h⟩ := ok_bind h
          refine cl_vi (w2 := fun (u : (Int32 × Int32 × (Nat → Int32) × (Nat → Int32) × (Nat → Int32) × (Nat → Int32))) => w_X10_readDoor cy a0 a1 ((gvr_0.1, (gvr_0.2 + (1 : Int32)))) v10.2 gtx_0 gv_1 u) (As := [.int v4.2.2.2.2.2.2.2.1, .int v7.2.2.2.2.2.2.2.1, .ref (a0 1)]) (rest := []) ⟨hx, hb, hml, hown, hts⟩ (c_X4_chalk l dC dI cy (fun k => a1 (k + 1)) (fun k => a0 (k + 1)) gd_1 v10.2 gtx_0 v4.2.2.2.2.2.2.2.1 v7.2.2.2.2.2.2.2.1 H.size v13 hv14) (cwV 3 hts gX10_readDoor_X4_chalk rfl rfl rfl (by decide +kernel) ⟨Nat.le_of_ble_eq_true rfl, Nat.le_of_ble_eq_true rfl⟩) (va_recv hK hP (ci := 2) (q0 := 4) rfl rfl) cl_blind (cl_pre hK hP hD [4, 5, 6, 7, 8, 1, 2] (by decide) rfl) hP hD hS hA [4, 5, 6, 7, 8, 1, 2] rfl rfl hl.1 rfl (lv_room (Nat.le_of_ble_eq_true rfl)) dX10_readDoor_107 ⟨Nat.le_of_ble_eq_true rfl, Nat.le_of_ble_eq_true rfl⟩ ⟨rfl, rfl⟩ (fun _ => updM [4, 5, 6, 7, 8, 1, 2] [0, 3, 9, 10, 11, 12, 13] [(a0 0, .inr (8, [.ref (a0 1), .int (gvr_0.1), .int ((gvr_0.2 + (1 : Int32)))])), (a1 0, .inr (7, [.int (gv_1.1), .int (gv_1.2.1), .ref (a1 1), .ref (a1 6), .ref (a1 10), .ref (a1 11), .ref (a1 12), .ref (a1 13), .ref (a1 14)])), (a1 10, .inl (cy 1, 5, .inl (gv_1.2.2.1))), (a1 11, .inl (cy 1, 5, .inl (gv_1.2.2.2.1))), (a1 12, .inl (cy 1, 5, .inl (gv_1.2.2.2.2.1))), (a1 13, .inl (cy 1, 5, .inl (gv_1.2.2.2.2.2.1))), (a1 14, .inl (cy 1, 5, .inl (gv_1.2.2.2.2.2.2)))] 14 rfl rfl rfl rfl rfl (by decide +kernel) (by decide +kernel) rfl) (fun r u H locs hw hP hD hS => ?_)
          obtain ⟨rfl, rfl⟩ := hw
          have hP : va_P (dC, dI) vwCl (w_X10_readDoor cy a0 a1 ((gvr_0.1, (gvr_0.2 + (1 : Int32)))) v10.2 gtx_0 gv_1 v13.2) H := hP
          have hD : va_D A (w_X10_readDoor cy a0 a1 ((gvr_0.1, (gvr_0.2 + (1 : Int32)))) v10.2 gtx_0 gv_1 v13.2) := hD
          refine lv_pop hx hb dX10_readDoor_110 rfl ?_
          refine lv_aload_n hx hb dX10_readDoor_111 rfl (lv_at hl 2 rfl) ?_
          refine va_get (D := (dC, dI)) (ci := 8) (v := .ref (a0 1)) (C := RX10) (T := TX10) (N := 3) hx hb hts in_X10 hown hK hP 0 rfl rfl 0 (by decide) lk1 (fun _ h9 => h9) rfl dX10_readDoor_112 ?_
          obtain ⟨v15, hv16, h⟩ := ok_bind h
          refine cl_vi (w2 := fun (u : (Int32 × Int32 × Int32 × Int32 × Int32 × Int32 × Int32 × Int32 × Int32)) => w_X10_readDoor cy a0 a1 ((gvr_0.1, (gvr_0.2 + (1 : Int32)))) u gtx_0 gv_1 v13.2) (As := []) (rest := []) ⟨hx, hb, hml, hown, hts⟩ (c_X7_takeStop l dC dI cy (fun k => a0 (k + 1)) v10.2 gtx_0 H.size v15 hv16) (cwV 0 hts gX10_readDoor_X7_takeStop rfl rfl rfl (by decide +kernel) ⟨Nat.le_of_ble_eq_true rfl, Nat.le_of_ble_eq_true rfl⟩) (va_recv hK hP (ci := 5) (q0 := 1) rfl rfl) cl_blind (cl_pre hK hP hD [1, 2] (by decide) rfl) hP hD hS hA [1, 2] rfl rfl hl.1 rfl (lv_room (Nat.le_of_ble_eq_true rfl)) dX10_readDoor_115 ⟨Nat.le_of_ble_eq_true rfl, Nat.le_of_ble_eq_true rfl⟩ ⟨rfl, rfl⟩ (fun _ => updM [1, 2] [0, 3, 4, 5, 6, 7, 8, 9, 10, 11, 12, 13] [(a0 0, .inr (8, [.ref (a0 1), .int (gvr_0.1), .int ((gvr_0.2 + (1 : Int32)))])), (a1 0, .inr (7, [.int (gv_1.1), .int (gv_1.2.1), .ref (a1 1), .ref (a1 6), .ref (a1 10), .ref (a1 11), .ref (a1 12), .ref (a1 13), .ref (a1 14)])), (a1 1, .inr (2, [.int (v13.2.1), .int (v13.2.2.1), .ref (a1 2), .ref (a1 3), .ref (a1 4), .ref (a1 5)])), (a1 2, .inl (cy 1, 10, .inl (v13.2.2.2.1))), (a1 3, .inl (cy 1, 10, .inl (v13.2.2.2.2.1))), (a1 4, .inl (cy 1, 10, .inl (v13.2.2.2.2.2.1))), (a1 5, .inl (cy 1, 50, .inl (v13.2.2.2.2.2.2))), (a1 10, .inl (cy 1, 5, .inl (gv_1.2.2.1))), (a1 11, .inl (cy 1, 5, .inl (gv_1.2.2.2.1))), (a1 12, .inl (cy 1, 5, .inl (gv_1.2.2.2.2.1))), (a1 13, .inl (cy 1, 5, .inl (gv_1.2.2.2.2.2.1))), (a1 14, .inl (cy 1, 5, .inl (gv_1.2.2.2.2.2.2)))] 14 rfl rfl rfl rfl rfl (by decide +kernel) (by decide +kernel) rfl) (fun r u H locs hw hP hD hS => ?_)
          obtain ⟨rfl, rfl⟩ := hw
          have hP : va_P (dC, dI) vwCl (w_X10_readDoor cy a0 a1 ((gvr_0.1, (gvr_0.2 + (1 : Int32)))) v15.2 gtx_0 gv_1 v13.2) H := hP
          have hD : va_D A (w_X10_readDoor cy a0 a1 ((gvr_0.1, (gvr_0.2 + (1 : Int32)))) v15.2 gtx_0 gv_1 v13.2) := hD
          obtain ⟨hz17, h⟩ := ok_if h
          exact W.zret (v := v15.1) (ty := .boolean) hx hb hr (isZ_nar hz17) (fun t ht hW => by rw [hqq]; have hh := Option.some.inj h; exact ⟨⟨v15.1, (((gvr_0.1, (gvr_0.2 + (1 : Int32))), v15.2, v13.2)), rfl, ⟨fst_of hh, snd_of hh⟩, by rw [ht]; exact hP, va_K.moved hW.alike hK⟩, hS.F ht⟩) hS.2.2 dX10_readDoor_118
        · rw [if_pos c12] at h
          refine lv_iconst (v := (0 : Int32)) hx hb dX10_readDoor_95 (by decide) ?_
          exact W.zret (v := (0 : Int32)) (ty := .boolean) hx hb hr rfl (fun t ht hW => by rw [hqq]; have hh := Option.some.inj h; exact ⟨⟨(0 : Int32), (((gvr_0.1, (gvr_0.2 + (1 : Int32))), v10.2, gd_1)), rfl, ⟨fst_of hh, snd_of hh⟩, by rw [ht]; exact hP, va_K.moved hW.alike hK⟩, hS.F ht⟩) hS.2.2 dX10_readDoor_96
      · rw [if_pos c9] at h
        refine lv_iconst (v := (0 : Int32)) hx hb dX10_readDoor_75 (by decide) ?_
        exact W.zret (v := (0 : Int32)) (ty := .boolean) hx hb hr rfl (fun t ht hW => by rw [hqq]; have hh := Option.some.inj h; exact ⟨⟨(0 : Int32), (((gvr_0.1, (gvr_0.2 + (1 : Int32))), v7.2, gd_1)), rfl, ⟨fst_of hh, snd_of hh⟩, by rw [ht]; exact hP, va_K.moved hW.alike hK⟩, hS.F ht⟩) hS.2.2 dX10_readDoor_76
    · rw [if_pos c6] at h
      refine lv_iconst (v := (0 : Int32)) hx hb dX10_readDoor_50 (by decide) ?_
      exact W.zret (v := (0 : Int32)) (ty := .boolean) hx hb hr rfl (fun t ht hW => by rw [hqq]; have hh := Option.some.inj h; exact ⟨⟨(0 : Int32), (((gvr_0.1, (gvr_0.2 + (1 : Int32))), v4.2, gd_1)), rfl, ⟨fst_of hh, snd_of hh⟩, by rw [ht]; exact hP, va_K.moved hW.alike hK⟩, hS.F ht⟩) hS.2.2 dX10_readDoor_51
  · rw [if_neg c1] at h
    refine lv_aload_n hx hb dX10_readDoor_9 rfl (lv_at hl 0 rfl) ?_
    refine va_get (D := (dC, dI)) (ci := 8) (v := .ref (a0 1)) (C := RX10) (T := TX10) (N := 3) hx hb hts in_X10 hown hK hP 0 rfl rfl 0 (by decide) lk1 (fun _ h9 => h9) rfl dX10_readDoor_10 ?_
    refine lv_iconst (v := (2 : Int32)) hx hb dX10_readDoor_13 (by decide) ?_
    obtain ⟨v18, hv19, h⟩ := ok_bind h
    refine cl_vi (w2 := fun (u : (Int32 × Int32 × Int32 × Int32 × Int32 × Int32 × Int32 × Int32 × Int32)) => w_X10_readDoor cy a0 a1 gvr_0 u gtx_0 gv_1 gd_1) (As := [.int (2 : Int32)]) (rest := []) ⟨hx, hb, hml, hown, hts⟩ (c_X7_refuse l dC dI cy (fun k => a0 (k + 1)) gr_0 (2 : Int32) H.size v18 hv19) (cwV 1 hts gX10_readDoor_X7_refuse rfl rfl rfl (by decide +kernel) ⟨Nat.le_of_ble_eq_true rfl, Nat.le_of_ble_eq_true rfl⟩) (va_recv hK hP (ci := 5) (q0 := 1) rfl rfl) cl_blind (cl_pre hK hP hD [1] (by decide) rfl) hP hD hS hA [1] rfl rfl hl.1 rfl (lv_room (Nat.le_of_ble_eq_true rfl)) dX10_readDoor_14 ⟨Nat.le_of_ble_eq_true rfl, Nat.le_of_ble_eq_true rfl⟩ ⟨rfl, rfl⟩ (fun _ => updM [1] [0, 2, 3, 4, 5, 6, 7, 8, 9, 10, 11, 12, 13] [(a0 0, .inr (8, [.ref (a0 1), .int (gvr_0.1), .int (gvr_0.2)])), (a0 2, .inl (cy 0, 600, .inl (gtx_0))), (a1 0, .inr (7, [.int (gv_1.1), .int (gv_1.2.1), .ref (a1 1), .ref (a1 6), .ref (a1 10), .ref (a1 11), .ref (a1 12), .ref (a1 13), .ref (a1 14)])), (a1 1, .inr (2, [.int (gd_1.1), .int (gd_1.2.1), .ref (a1 2), .ref (a1 3), .ref (a1 4), .ref (a1 5)])), (a1 2, .inl (cy 1, 10, .inl (gd_1.2.2.1))), (a1 3, .inl (cy 1, 10, .inl (gd_1.2.2.2.1))), (a1 4, .inl (cy 1, 10, .inl (gd_1.2.2.2.2.1))), (a1 5, .inl (cy 1, 50, .inl (gd_1.2.2.2.2.2))), (a1 10, .inl (cy 1, 5, .inl (gv_1.2.2.1))), (a1 11, .inl (cy 1, 5, .inl (gv_1.2.2.2.1))), (a1 12, .inl (cy 1, 5, .inl (gv_1.2.2.2.2.1))), (a1 13, .inl (cy 1, 5, .inl (gv_1.2.2.2.2.2.1))), (a1 14, .inl (cy 1, 5, .inl (gv_1.2.2.2.2.2.2)))] 14 rfl rfl rfl rfl rfl (by decide +kernel) (by decide +kernel) rfl) (fun r u H locs hw hP hD hS => ?_)
    obtain ⟨rfl, rfl⟩ := hw
    have hP : va_P (dC, dI) vwCl (w_X10_readDoor cy a0 a1 gvr_0 v18.2 gtx_0 gv_1 gd_1) H := hP
    have hD : va_D A (w_X10_readDoor cy a0 a1 gvr_0 v18.2 gtx_0 gv_1 gd_1) := hD
    obtain ⟨hz20, h⟩ := ok_if h
    exact W.zret (v := v18.1) (ty := .boolean) hx hb hr (isZ_nar hz20) (fun t ht hW => by rw [hqq]; have hh := Option.some.inj h; exact ⟨⟨v18.1, ((gvr_0, v18.2, gd_1)), rfl, ⟨fst_of hh, snd_of hh⟩, by rw [ht]; exact hP, va_K.moved hW.alike hK⟩, hS.F ht⟩) hS.2.2 dX10_readDoor_17

abbrev w_X10_readOwner (cy : Nat → ClassId) (a0 : Nat → Nat) (a1 : Nat → Nat) (gvr_0 : Int32 × Int32) (gr_0 : Int32 × Int32 × Int32 × Int32 × Int32 × Int32 × Int32 × Int32 × Int32) (gtx_0 : (Nat → Int32)) (gv_1 : Int32 × Int32 × (Nat → Int32) × (Nat → Int32) × (Nat → Int32) × (Nat → Int32) × (Nat → Int32)) : va_W := [(a0 0, .inr (8, [.ref (a0 1), .int (gvr_0.1), .int (gvr_0.2)])), (a0 1, .inr (5, [.ref (a0 2), .int (gr_0.1), .int (gr_0.2.1), .int (gr_0.2.2.1), .int (gr_0.2.2.2.1), .int (gr_0.2.2.2.2.1), .int (gr_0.2.2.2.2.2.1), .int (gr_0.2.2.2.2.2.2.1), .int (gr_0.2.2.2.2.2.2.2.1), .int (gr_0.2.2.2.2.2.2.2.2)])), (a0 2, .inl (cy 0, 600, .inl (gtx_0))), (a1 0, .inr (7, [.int (gv_1.1), .int (gv_1.2.1), .ref (a1 1), .ref (a1 6), .ref (a1 10), .ref (a1 11), .ref (a1 12), .ref (a1 13), .ref (a1 14)])), (a1 10, .inl (cy 1, 5, .inl (gv_1.2.2.1))), (a1 11, .inl (cy 1, 5, .inl (gv_1.2.2.2.1))), (a1 12, .inl (cy 1, 5, .inl (gv_1.2.2.2.2.1))), (a1 13, .inl (cy 1, 5, .inl (gv_1.2.2.2.2.2.1))), (a1 14, .inl (cy 1, 5, .inl (gv_1.2.2.2.2.2.2)))]
abbrev rm_X10_readOwner : Room := { frames := 5, cells := 0, slots := 0, locals := 107 }
set_option maxHeartbeats 1000000 in
set_option maxRecDepth 100000 in
theorem c_X10_readOwner (l : Launch) (dC : Nat → ClassId) (dI : Nat → Nat → Nat) (cy : Nat → ClassId) (z : Nat → Nat) (a0 : Nat → Nat) (a1 : Nat → Nat) (gvr_0 : Int32 × Int32) (gr_0 : Int32 × Int32 × Int32 × Int32 × Int32 × Int32 × Int32 × Int32 × Int32) (gtx_0 : (Nat → Int32)) (gv_1 : Int32 × Int32 × (Nat → Int32) × (Nat → Int32) × (Nat → Int32) × (Nat → Int32) × (Nat → Int32)) (sz : Nat) (R0 : Int32 × (Int32 × Int32 × Int32 × Int32 × Int32 × Int32 × Int32 × Int32 × Int32) × (Int32 × Int32 × (Nat → Int32) × (Nat → Int32) × (Nat → Int32) × (Nat → Int32) × (Nat → Int32))) (h : p_X10_readOwner gr_0 gtx_0 gv_1 = some R0) : Met l yX10_readOwner wsX10_readOwner rm_X10_readOwner (va_Pc [.ref (a0 0), .ref (a1 0)] (prS dC dI cy z (w_X10_readOwner cy a0 a1 gvr_0 gr_0 gtx_0 gv_1) sz)) (va_Qi (fun (r : Int32) (u : (Int32 × Int32 × Int32 × Int32 × Int32 × Int32 × Int32 × Int32 × Int32) × (Int32 × Int32 × (Nat → Int32) × (Nat → Int32) × (Nat → Int32) × (Nat → Int32) × (Nat → Int32))) => r = R0.1 ∧ u = R0.2) (fun (u : (Int32 × Int32 × Int32 × Int32 × Int32 × Int32 × Int32 × Int32 × Int32) × (Int32 × Int32 × (Nat → Int32) × (Nat → Int32) × (Nat → Int32) × (Nat → Int32) × (Nat → Int32))) t => poC dC dI cy (w_X10_readOwner cy a0 a1 gvr_0 u.1 gtx_0 u.2) t) (va_A (w_X10_readOwner cy a0 a1 gvr_0 gr_0 gtx_0 gv_1) sz)) 0 0 (va_A (w_X10_readOwner cy a0 a1 gvr_0 gr_0 gtx_0 gv_1) sz) := by
  refine Met.ofW (cc := cX10_readOwner) (maxL := 4) (ret := (some .boolean)) (by decide) rfl ?_
  intro p e s m aa below meth c s₁ B hml hv
  obtain ⟨haa, ⟨hsz, hP, hK, hD0⟩, hX⟩ := hv
  have hx := B.exec
  have hb := B.bytes
  have hr := B.returns
  have hts := atoms_spec (ws := wsX10_readOwner) B.pre
  have hown : s.vm.findClass RX10 = some m.cls := findClass_of_methodNamed B.named
  have hlocks := B.notSynchronized
  subst hsz
  have hD := hD0.self (sz := s.heap.size)
  obtain ⟨qq, hqq⟩ : ∃ qq, qq = (va_Qi (fun (r : Int32) (u : (Int32 × Int32 × Int32 × Int32 × Int32 × Int32 × Int32 × Int32 × Int32) × (Int32 × Int32 × (Nat → Int32) × (Nat → Int32) × (Nat → Int32) × (Nat → Int32) × (Nat → Int32))) => r = R0.1 ∧ u = R0.2) (fun (u : (Int32 × Int32 × Int32 × Int32 × Int32 × Int32 × Int32 × Int32 × Int32) × (Int32 × Int32 × (Nat → Int32) × (Nat → Int32) × (Nat → Int32) × (Nat → Int32) × (Nat → Int32))) t => poC dC dI cy (w_X10_readOwner cy a0 a1 gvr_0 u.1 gtx_0 u.2) t) (va_A (w_X10_readOwner cy a0 a1 gvr_0 gr_0 gtx_0 gv_1) s.heap.size)) := ⟨_, rfl⟩
  rw [← hqq]
  generalize hAe : va_A (w_X10_readOwner cy a0 a1 gvr_0 gr_0 gtx_0 gv_1) s.heap.size = A at hD hqq hX ⊢
  have hA : ∀ q : Nat, s.heap.size ≤ q → A q := fun q h => by rw [← hAe]; exact Or.inr h
  have hS : va_S A s.heap s.heap [] := va_S.rf
  have hl := lv_entry ([.ref (a0 0), .ref (a1 0)]) (n := 4) (Nat.le_of_ble_eq_true rfl)
  have hE : entryFrame m aa 4 = F0 m 0 ((lg_sl ([.ref (a0 0), .ref (a1 0)]) ++ List.replicate (4 - (lg_sl ([.ref (a0 0), .ref (a1 0)])).length) Slot.unset).toArray) [] := by rw [haa]; exact lg_entry_eq m _ 4
  refine W.eq hE ?_
  generalize (lg_sl ([.ref (a0 0), .ref (a1 0)]) ++ List.replicate (4 - (lg_sl ([.ref (a0 0), .ref (a1 0)])).length) Slot.unset).toArray = ls at hl ⊢
  have hl : lv_has ls 4 [(0, .ref (a0 0)), (1, .ref (a1 0))] := hl
  change W p l e rm_X10_readOwner s m aa below meth c s.heap [] 0 0 (MQ below qq aa s 0 0 A) (F0 m 0 ls [])
  have hS0 := hS
  have lk0 := hts (.fieldLink RX10 9 "GoatDoors$VillageReader" "reader" "LGoatDoors$Reader;") (by decide +kernel)
  have lk1 := hts (.fieldLink RX10 72 "GoatDoors$Village" "owners" "I") (by decide +kernel)
  have lk2 := hts (.methodLink RX10 78 Lib.Math.min.name) (by decide +kernel)
  have lk3 := hts (.static Lib.Math.min.name) (by decide +kernel)
  have lk4 := hts (.initialized "java/lang/Math") (by decide +kernel)
  have lk5 := hts (.code Lib.Math.min.name Lib.Math.min.code 2 (some .int)) (by decide +kernel)
  have lk6 := hts (.fieldLink RX10 88 "GoatDoors$Reader" "value" "I") (by decide +kernel)
  have in_X10 : ∀ w ∈ wsX100, w ∈ wsX10_readOwner := by decide +kernel
  have in_X9 : ∀ w ∈ wsX90, w ∈ wsX10_readOwner := by decide +kernel
  have in_X7 : ∀ w ∈ wsX70, w ∈ wsX10_readOwner := by decide +kernel
  have c100 : ∀ (_u : Unit), ∀ (gr_0 : Int32 × Int32 × Int32 × Int32 × Int32 × Int32 × Int32 × Int32 × Int32) (gv_1 : Int32 × Int32 × (Nat → Int32) × (Nat → Int32) × (Nat → Int32) × (Nat → Int32) × (Nat → Int32)) (x2 : Int32) (x3 : Int32) (H : Heap) (locs : List Loc) (ls : Array Slot), p_X10_readOwner_100 gtx_0 gr_0 gv_1 x2 x3 = some R0 → va_P (dC, dI) vwCl (w_X10_readOwner cy a0 a1 gvr_0 gr_0 gtx_0 gv_1) H → va_D A (w_X10_readOwner cy a0 a1 gvr_0 gr_0 gtx_0 gv_1) → va_S A s.heap H locs → lv_has ls 4 [(0, .ref (a0 0)), (1, .ref (a1 0)), (2, .int x2), (3, .int x3)] → W p l e rm_X10_readOwner s m aa below meth c H locs 0 0 (MQ below qq aa s 0 0 A) (F0 m 100 ls []) := by
    intro _ gr_0 gv_1 x2 x3 H locs ls h hP hD hS hl
    unfold p_X10_readOwner_100 at h
    refine lv_aload_n hx hb dX10_readOwner_100 rfl (lv_at hl 1 rfl) ?_
    refine lv_iload_n hx hb dX10_readOwner_101 rfl (lv_at hl 2 rfl) ?_
    refine lv_iload_n hx hb dX10_readOwner_102 rfl (lv_at hl 3 rfl) ?_
    obtain ⟨v1, hv2, h⟩ := ok_bind h
    refine cl_vv (w2 := fun (u : (Int32 × Int32 × (Nat → Int32) × (Nat → Int32) × (Nat → Int32) × (Nat → Int32) × (Nat → Int32))) => w_X10_readOwner cy a0 a1 gvr_0 gr_0 gtx_0 u) (As := [.int x2, .int x3]) (rest := []) ⟨hx, hb, hml, hown, hts⟩ (c_X9_addOwner l dC dI cy a1 gv_1 x2 x3 H.size v1 hv2) (cwV 2 hts gX10_readOwner_X9_addOwner rfl rfl rfl (by decide +kernel) ⟨Nat.le_of_ble_eq_true rfl, Nat.le_of_ble_eq_true rfl⟩) (va_recv hK hP (ci := 7) (q0 := 3) rfl rfl) cl_blind (cl_pre hK hP hD [3, 4, 5, 6, 7, 8] (by decide) rfl) hP hD hS hA [3, 4, 5, 6, 7, 8] rfl rfl hl.1 rfl (lv_room (Nat.le_of_ble_eq_true rfl)) dX10_readOwner_103 ⟨Nat.le_of_ble_eq_true rfl, Nat.le_of_ble_eq_true rfl⟩ ⟨rfl, rfl⟩ (fun _ => updM [3, 4, 5, 6, 7, 8] [0, 1, 2] [(a0 0, .inr (8, [.ref (a0 1), .int (gvr_0.1), .int (gvr_0.2)])), (a0 1, .inr (5, [.ref (a0 2), .int (gr_0.1), .int (gr_0.2.1), .int (gr_0.2.2.1), .int (gr_0.2.2.2.1), .int (gr_0.2.2.2.2.1), .int (gr_0.2.2.2.2.2.1), .int (gr_0.2.2.2.2.2.2.1), .int (gr_0.2.2.2.2.2.2.2.1), .int (gr_0.2.2.2.2.2.2.2.2)])), (a0 2, .inl (cy 0, 600, .inl (gtx_0)))] 9 rfl rfl rfl rfl rfl (by decide +kernel) (by decide +kernel) rfl) (fun u H locs hw hP hD hS => ?_)
    have hw := hw.symm
    subst hw
    have hP : va_P (dC, dI) vwCl (w_X10_readOwner cy a0 a1 gvr_0 gr_0 gtx_0 v1) H := hP
    have hD : va_D A (w_X10_readOwner cy a0 a1 gvr_0 gr_0 gtx_0 v1) := hD
    refine lv_aload_n hx hb dX10_readOwner_106 rfl (lv_at hl 0 rfl) ?_
    refine va_get (D := (dC, dI)) (ci := 8) (v := .ref (a0 1)) (C := RX10) (T := TX10) (N := 3) hx hb hts in_X10 hown hK hP 0 rfl rfl 0 (by decide) lk0 (fun _ h9 => h9) rfl dX10_readOwner_107 ?_
    obtain ⟨v3, hv4, h⟩ := ok_bind h
    refine cl_vi (w2 := fun (u : (Int32 × Int32 × Int32 × Int32 × Int32 × Int32 × Int32 × Int32 × Int32)) => w_X10_readOwner cy a0 a1 gvr_0 u gtx_0 v1) (As := []) (rest := []) ⟨hx, hb, hml, hown, hts⟩ (c_X7_takeStop l dC dI cy (fun k => a0 (k + 1)) gr_0 gtx_0 H.size v3 hv4) (cwV 0 hts gX10_readOwner_X7_takeStop rfl rfl rfl (by decide +kernel) ⟨Nat.le_of_ble_eq_true rfl, Nat.le_of_ble_eq_true rfl⟩) (va_recv hK hP (ci := 5) (q0 := 1) rfl rfl) cl_blind (cl_pre hK hP hD [1, 2] (by decide) rfl) hP hD hS hA [1, 2] rfl rfl hl.1 rfl (lv_room (Nat.le_of_ble_eq_true rfl)) dX10_readOwner_110 ⟨Nat.le_of_ble_eq_true rfl, Nat.le_of_ble_eq_true rfl⟩ ⟨rfl, rfl⟩ (fun _ => updM [1, 2] [0, 3, 4, 5, 6, 7, 8] [(a0 0, .inr (8, [.ref (a0 1), .int (gvr_0.1), .int (gvr_0.2)])), (a1 0, .inr (7, [.int (v1.1), .int (v1.2.1), .ref (a1 1), .ref (a1 6), .ref (a1 10), .ref (a1 11), .ref (a1 12), .ref (a1 13), .ref (a1 14)])), (a1 10, .inl (cy 1, 5, .inl (v1.2.2.1))), (a1 11, .inl (cy 1, 5, .inl (v1.2.2.2.1))), (a1 12, .inl (cy 1, 5, .inl (v1.2.2.2.2.1))), (a1 13, .inl (cy 1, 5, .inl (v1.2.2.2.2.2.1))), (a1 14, .inl (cy 1, 5, .inl (v1.2.2.2.2.2.2)))] 9 rfl rfl rfl rfl rfl (by decide +kernel) (by decide +kernel) rfl) (fun r u H locs hw hP hD hS => ?_)
    obtain ⟨rfl, rfl⟩ := hw
    have hP : va_P (dC, dI) vwCl (w_X10_readOwner cy a0 a1 gvr_0 v3.2 gtx_0 v1) H := hP
    have hD : va_D A (w_X10_readOwner cy a0 a1 gvr_0 v3.2 gtx_0 v1) := hD
    obtain ⟨hz5, h⟩ := ok_if h
    exact W.zret (v := v3.1) (ty := .boolean) hx hb hr (isZ_nar hz5) (fun t ht hW => by rw [hqq]; have hh := Option.some.inj h; exact ⟨⟨v3.1, ((v3.2, v1)), rfl, ⟨fst_of hh, snd_of hh⟩, by rw [ht]; exact hP, va_K.moved hW.alike hK⟩, hS.F ht⟩) hS.2.2 dX10_readOwner_113
  obtain ⟨H, hH⟩ : ∃ H : Heap, H = s.heap := ⟨_, rfl⟩
  obtain ⟨locs, hlocs⟩ : ∃ locs : List Loc, locs = [] := ⟨_, rfl⟩
  have hS : va_S A s.heap H locs := by rw [hH, hlocs]; exact hS
  rw [← hH] at hP
  suffices hg : W p l e rm_X10_readOwner s m aa below meth c H locs 0 0 (MQ below qq aa s 0 0 A) (F0 m 0 ls []) by subst hH; subst hlocs; exact hg
  unfold p_X10_readOwner at h
  refine lv_aload_n hx hb dX10_readOwner_0 rfl (lv_at hl 1 rfl) ?_
  refine va_get (D := (dC, dI)) (ci := 7) (v := .int gv_1.1) (C := RX9) (T := TX9) (N := 9) hx hb hts in_X9 hown hK hP 3 rfl rfl 0 (by decide) lk1 (fun _ h9 => h9) rfl dX10_readOwner_1 ?_
  refine lv_iconst (v := (5 : Int32)) hx hb dX10_readOwner_4 (by decide) ?_
  refine lv_icmp_lt (tgt := 17) hx hb dX10_readOwner_5 (by decide) (fun c1 => ?_) (fun c1 => ?_)
  · rw [if_pos c1] at h
    refine lv_aload_n hx hb dX10_readOwner_17 rfl (lv_at hl 0 rfl) ?_
    refine va_get (D := (dC, dI)) (ci := 8) (v := .ref (a0 1)) (C := RX10) (T := TX10) (N := 3) hx hb hts in_X10 hown hK hP 0 rfl rfl 0 (by decide) lk0 (fun _ h9 => h9) rfl dX10_readOwner_18 ?_
    obtain ⟨v2, hv3, h⟩ := ok_bind h
    refine cl_vv (w2 := fun (u : (Int32 × Int32 × Int32 × Int32 × Int32 × Int32 × Int32 × Int32 × Int32)) => w_X10_readOwner cy a0 a1 gvr_0 u gtx_0 gv_1) (As := []) (rest := []) ⟨hx, hb, hml, hown, hts⟩ (c_X7_step l dC dI cy (fun k => a0 (k + 1)) gr_0 gtx_0 H.size v2 hv3) (cwV 0 hts gX10_readOwner_X7_step rfl rfl rfl (by decide +kernel) ⟨Nat.le_of_ble_eq_true rfl, Nat.le_of_ble_eq_true rfl⟩) (va_recv hK hP (ci := 5) (q0 := 1) rfl rfl) cl_blind (cl_pre hK hP hD [1, 2] (by decide) rfl) hP hD hS hA [1, 2] rfl rfl hl.1 rfl (lv_room (Nat.le_of_ble_eq_true rfl)) dX10_readOwner_21 ⟨Nat.le_of_ble_eq_true rfl, Nat.le_of_ble_eq_true rfl⟩ ⟨rfl, rfl⟩ (fun _ => updM [1, 2] [0, 3, 4, 5, 6, 7, 8] [(a0 0, .inr (8, [.ref (a0 1), .int (gvr_0.1), .int (gvr_0.2)])), (a1 0, .inr (7, [.int (gv_1.1), .int (gv_1.2.1), .ref (a1 1), .ref (a1 6), .ref (a1 10), .ref (a1 11), .ref (a1 12), .ref (a1 13), .ref (a1 14)])), (a1 10, .inl (cy 1, 5, .inl (gv_1.2.2.1))), (a1 11, .inl (cy 1, 5, .inl (gv_1.2.2.2.1))), (a1 12, .inl (cy 1, 5, .inl (gv_1.2.2.2.2.1))), (a1 13, .inl (cy 1, 5, .inl (gv_1.2.2.2.2.2.1))), (a1 14, .inl (cy 1, 5, .inl (gv_1.2.2.2.2.2.2)))] 9 rfl rfl rfl rfl rfl (by decide +kernel) (by decide +kernel) rfl) (fun u H locs hw hP hD hS => ?_)
    have hw := hw.symm
    subst hw
    have hP : va_P (dC, dI) vwCl (w_X10_readOwner cy a0 a1 gvr_0 v2 gtx_0 gv_1) H := hP
    have hD : va_D A (w_X10_readOwner cy a0 a1 gvr_0 v2 gtx_0 gv_1) := hD
    refine lv_aload_n hx hb dX10_readOwner_24 rfl (lv_at hl 0 rfl) ?_
    refine va_get (D := (dC, dI)) (ci := 8) (v := .ref (a0 1)) (C := RX10) (T := TX10) (N := 3) hx hb hts in_X10 hown hK hP 0 rfl rfl 0 (by decide) lk0 (fun _ h9 => h9) rfl dX10_readOwner_25 ?_
    refine lv_iconst (v := (0 : Int32)) hx hb dX10_readOwner_28 (by decide) ?_
    refine lv_bipush (v := (20 : Int32)) hx hb dX10_readOwner_29 (by decide) ?_
    refine lv_bipush (v := (40 : Int32)) hx hb dX10_readOwner_31 (by decide) ?_
    refine lv_aload_n hx hb dX10_readOwner_33 rfl (lv_at hl 1 rfl) ?_
    obtain ⟨v4, hv5, h⟩ := ok_bind h
    refine cl_vi (w2 := fun (_ : Unit) => w_X10_readOwner cy a0 a1 gvr_0 v2 gtx_0 gv_1) (As := []) (rest := [.int (40 : Int32), .int (20 : Int32), .int (0 : Int32), .ref (a0 1)]) ⟨hx, hb, hml, hown, hts⟩ (c_X9_allGoats l dC dI cy a1 gv_1 H.size v4 hv5) (cwV 0 hts gX10_readOwner_X9_allGoats rfl rfl rfl (by decide +kernel) ⟨Nat.le_of_ble_eq_true rfl, Nat.le_of_ble_eq_true rfl⟩) (va_recv hK hP (ci := 7) (q0 := 3) rfl rfl) cl_blind (cl_pre hK hP hD [3, 4, 5, 6, 7, 8] (by decide) rfl) hP hD hS hA [3, 4, 5, 6, 7, 8] rfl rfl hl.1 rfl (lv_room (Nat.le_of_ble_eq_true rfl)) dX10_readOwner_34 ⟨Nat.le_of_ble_eq_true rfl, Nat.le_of_ble_eq_true rfl⟩ ⟨rfl, rfl⟩ (fun _ => updR [3, 4, 5, 6, 7, 8] rfl) (fun r u H locs hw hP hD hS => ?_)
    have hw := hw.symm
    subst hw
    have hP : va_P (dC, dI) vwCl (w_X10_readOwner cy a0 a1 gvr_0 v2 gtx_0 gv_1) H := hP
    have hD : va_D A (w_X10_readOwner cy a0 a1 gvr_0 v2 gtx_0 gv_1) := hD
    refine lv_isub hx hb dX10_readOwner_37 ?_
    refine va_mmin hx hb (by rw [hml]; exact hl.1.symm) hown lk2 lk3 lk4 lk5 (Nat.le_of_ble_eq_true rfl) (Nat.le_of_ble_eq_true rfl) (Nat.le_of_ble_eq_true rfl) (Nat.le_of_ble_eq_true rfl) dX10_readOwner_38 ?_
    obtain ⟨v6, hv7, h⟩ := ok_bind h
    refine cl_vi (w2 := fun (u : (Int32 × Int32 × Int32 × Int32 × Int32 × Int32 × Int32 × Int32 × Int32)) => w_X10_readOwner cy a0 a1 gvr_0 u gtx_0 gv_1) (As := [.int (0 : Int32), .int (if ((40 : Int32) - v4) < (20 : Int32) then ((40 : Int32) - v4) else (20 : Int32))]) (rest := []) ⟨hx, hb, hml, hown, hts⟩ (c_X7_takeNumber l dC dI cy (fun k => a0 (k + 1)) v2 gtx_0 (0 : Int32) (if ((40 : Int32) - v4) < (20 : Int32) then ((40 : Int32) - v4) else (20 : Int32)) H.size v6 hv7) (cwV 2 hts gX10_readOwner_X7_takeNumber rfl rfl rfl (by decide +kernel) ⟨Nat.le_of_ble_eq_true rfl, Nat.le_of_ble_eq_true rfl⟩) (va_recv hK hP (ci := 5) (q0 := 1) rfl rfl) cl_blind (cl_pre hK hP hD [1, 2] (by decide) rfl) hP hD hS hA [1, 2] rfl rfl hl.1 rfl (lv_room (Nat.le_of_ble_eq_true rfl)) dX10_readOwner_41 ⟨Nat.le_of_ble_eq_true rfl, Nat.le_of_ble_eq_true rfl⟩ ⟨rfl, rfl⟩ (fun _ => updM [1, 2] [0, 3, 4, 5, 6, 7, 8] [(a0 0, .inr (8, [.ref (a0 1), .int (gvr_0.1), .int (gvr_0.2)])), (a1 0, .inr (7, [.int (gv_1.1), .int (gv_1.2.1), .ref (a1 1), .ref (a1 6), .ref (a1 10), .ref (a1 11), .ref (a1 12), .ref (a1 13), .ref (a1 14)])), (a1 10, .inl (cy 1, 5, .inl (gv_1.2.2.1))), (a1 11, .inl (cy 1, 5, .inl (gv_1.2.2.2.1))), (a1 12, .inl (cy 1, 5, .inl (gv_1.2.2.2.2.1))), (a1 13, .inl (cy 1, 5, .inl (gv_1.2.2.2.2.2.1))), (a1 14, .inl (cy 1, 5, .inl (gv_1.2.2.2.2.2.2)))] 9 rfl rfl rfl rfl rfl (by decide +kernel) (by decide +kernel) rfl) (fun r u H locs hw hP hD hS => ?_)
    obtain ⟨rfl, rfl⟩ := hw
    have hP : va_P (dC, dI) vwCl (w_X10_readOwner cy a0 a1 gvr_0 v6.2 gtx_0 gv_1) H := hP
    have hD : va_D A (w_X10_readOwner cy a0 a1 gvr_0 v6.2 gtx_0 gv_1) := hD
    refine lv_if_ne (tgt := 49) hx hb dX10_readOwner_44 (by decide) (fun c8 => ?_) (fun c8 => ?_)
    · rw [if_neg c8] at h
      refine lv_aload_n hx hb dX10_readOwner_49 rfl (lv_at hl 0 rfl) ?_
      refine va_get (D := (dC, dI)) (ci := 8) (v := .ref (a0 1)) (C := RX10) (T := TX10) (N := 3) hx hb hts in_X10 hown hK hP 0 rfl rfl 0 (by decide) lk0 (fun _ h9 => h9) rfl dX10_readOwner_50 ?_
      refine va_get (D := (dC, dI)) (ci := 5) (v := .int v6.2.2.2.2.2.2.2.1) (C := RX7) (T := TX7) (N := 10) hx hb hts in_X7 hown hK hP 1 rfl rfl 7 (by decide) lk6 (fun _ h9 => h9) rfl dX10_readOwner_53 ?_
      refine lv_istore_n (lv' := [(2, .int v6.2.2.2.2.2.2.2.1), (0, .ref (a0 0)), (1, .ref (a1 0))]) hx hb dX10_readOwner_56 rfl hl (by decide) rfl (fun ls hl => ?_)
      refine lv_iconst (v := (0 : Int32)) hx hb dX10_readOwner_57 (by decide) ?_
      refine lv_istore_n (lv' := [(3, .int (0 : Int32)), (2, .int v6.2.2.2.2.2.2.2.1), (0, .ref (a0 0)), (1, .ref (a1 0))]) hx hb dX10_readOwner_58 rfl hl (by decide) rfl (fun ls hl => ?_)
      refine lv_aload_n hx hb dX10_readOwner_59 rfl (lv_at hl 2 rfl) ?_
      refine va_get (D := (dC, dI)) (ci := 8) (v := .ref (a0 1)) (C := RX10) (T := TX10) (N := 3) hx hb hts in_X10 hown hK hP 0 rfl rfl 0 (by decide) lk0 (fun _ h9 => h9) rfl dX10_readOwner_60 ?_
      refine va_ldcS hx hb hown (hX.2.2.2.1.2.1 (91, "hides", 3) (by decide)) dX10_readOwner_63 ?_
      obtain ⟨v9, hv10, h⟩ := ok_bind h
      refine cl_vi (w2 := fun (_ : Unit) => w_X10_readOwner cy a0 a1 gvr_0 v6.2 gtx_0 gv_1) (As := [.ref (z 3)]) (rest := []) ⟨hx, hb, hml, hown, hts⟩ (c_X7_isWord l dC dI cy z (fun k => a0 (k + 1)) v6.2 gtx_0 3 H.size v9 hv10) (cwV 1 hts gX10_readOwner_X7_isWord rfl rfl rfl (by decide +kernel) ⟨Nat.le_of_ble_eq_true rfl, Nat.le_of_ble_eq_true rfl⟩) (va_recv hK hP (ci := 5) (q0 := 1) rfl rfl) cl_blindS (cl_preS hK hP hD hS hA hX [1, 2] (by decide) rfl) hP hD hS hA [1, 2] rfl rfl hl.1 rfl (lv_room (Nat.le_of_ble_eq_true rfl)) dX10_readOwner_65 ⟨Nat.le_of_ble_eq_true rfl, Nat.le_of_ble_eq_true rfl⟩ ⟨rfl, rfl⟩ (fun _ => updR [1, 2] rfl) (fun r u H locs hw hP hD hS => ?_)
      have hw := hw.symm
      subst hw
      have hP : va_P (dC, dI) vwCl (w_X10_readOwner cy a0 a1 gvr_0 v6.2 gtx_0 gv_1) H := hP
      have hD : va_D A (w_X10_readOwner cy a0 a1 gvr_0 v6.2 gtx_0 gv_1) := hD
      refine lv_if_eq (tgt := 100) hx hb dX10_readOwner_68 (by decide) (fun c11 => ?_) (fun c11 => ?_)
      · rw [if_pos c11] at h
        exact c100 () v6.2 gv_1 v6.2.2.2.2.2.2.2.1 (0 : Int32) H locs ls h hP hD hS (lv_sub hl [2, 3, 1, 0] rfl)
      · rw [if_neg c11] at h
        refine lv_aload_n hx hb dX10_readOwner_71 rfl (lv_at hl 2 rfl) ?_
        refine va_get (D := (dC, dI)) (ci := 8) (v := .ref (a0 1)) (C := RX10) (T := TX10) (N := 3) hx hb hts in_X10 hown hK hP 0 rfl rfl 0 (by decide) lk0 (fun _ h9 => h9) rfl dX10_readOwner_72 ?_
        obtain ⟨v12, hv13, h⟩ := ok_bind h
        refine cl_vv (w2 := fun (u : (Int32 × Int32 × Int32 × Int32 × Int32 × Int32 × Int32 × Int32 × Int32)) => w_X10_readOwner cy a0 a1 gvr_0 u gtx_0 gv_1) (As := []) (rest := []) ⟨hx, hb, hml, hown, hts⟩ (c_X7_step l dC dI cy (fun k => a0 (k + 1)) v6.2 gtx_0 H.size v12 hv13) (cwV 0 hts gX10_readOwner_X7_step rfl rfl rfl (by decide +kernel) ⟨Nat.le_of_ble_eq_true rfl, Nat.le_of_ble_eq_true rfl⟩) (va_recv hK hP (ci := 5) (q0 := 1) rfl rfl) cl_blind (cl_pre hK hP hD [1, 2] (by decide) rfl) hP hD hS hA [1, 2] rfl rfl hl.1 rfl (lv_room (Nat.le_of_ble_eq_true rfl)) dX10_readOwner_75 ⟨Nat.le_of_ble_eq_true rfl, Nat.le_of_ble_eq_true rfl⟩ ⟨rfl, rfl⟩ (fun _ => updM [1, 2] [0, 3, 4, 5, 6, 7, 8] [(a0 0, .inr (8, [.ref (a0 1), .int (gvr_0.1), .int (gvr_0.2)])), (a1 0, .inr (7, [.int (gv_1.1), .int (gv_1.2.1), .ref (a1 1), .ref (a1 6), .ref (a1 10), .ref (a1 11), .ref (a1 12), .ref (a1 13), .ref (a1 14)])), (a1 10, .inl (cy 1, 5, .inl (gv_1.2.2.1))), (a1 11, .inl (cy 1, 5, .inl (gv_1.2.2.2.1))), (a1 12, .inl (cy 1, 5, .inl (gv_1.2.2.2.2.1))), (a1 13, .inl (cy 1, 5, .inl (gv_1.2.2.2.2.2.1))), (a1 14, .inl (cy 1, 5, .inl (gv_1.2.2.2.2.2.2)))] 9 rfl rfl rfl rfl rfl (by decide +kernel) (by decide +kernel) rfl) (fun u H locs hw hP hD hS => ?_)
        have hw := hw.symm
        subst hw
        have hP : va_P (dC, dI) vwCl (w_X10_readOwner cy a0 a1 gvr_0 v12 gtx_0 gv_1) H := hP
        have hD : va_D A (w_X10_readOwner cy a0 a1 gvr_0 v12 gtx_0 gv_1) := hD
        refine lv_aload_n hx hb dX10_readOwner_78 rfl (lv_at hl 2 rfl) ?_
        refine va_get (D := (dC, dI)) (ci := 8) (v := .ref (a0 1)) (C := RX10) (T := TX10) (N := 3) hx hb hts in_X10 hown hK hP 0 rfl rfl 0 (by decide) lk0 (fun _ h9 => h9) rfl dX10_readOwner_79 ?_
        refine lv_iconst (v := (0 : Int32)) hx hb dX10_readOwner_82 (by decide) ?_
        refine lv_iconst (v := (5 : Int32)) hx hb dX10_readOwner_83 (by decide) ?_
        obtain ⟨v14, hv15, h⟩ := ok_bind h
        refine cl_vi (w2 := fun (u : (Int32 × Int32 × Int32 × Int32 × Int32 × Int32 × Int32 × Int32 × Int32)) => w_X10_readOwner cy a0 a1 gvr_0 u gtx_0 gv_1) (As := [.int (0 : Int32), .int (5 : Int32)]) (rest := []) ⟨hx, hb, hml, hown, hts⟩ (c_X7_takeNumber l dC dI cy (fun k => a0 (k + 1)) v12 gtx_0 (0 : Int32) (5 : Int32) H.size v14 hv15) (cwV 2 hts gX10_readOwner_X7_takeNumber rfl rfl rfl (by decide +kernel) ⟨Nat.le_of_ble_eq_true rfl, Nat.le_of_ble_eq_true rfl⟩) (va_recv hK hP (ci := 5) (q0 := 1) rfl rfl) cl_blind (cl_pre hK hP hD [1, 2] (by decide) rfl) hP hD hS hA [1, 2] rfl rfl hl.1 rfl (lv_room (Nat.le_of_ble_eq_true rfl)) dX10_readOwner_84 ⟨Nat.le_of_ble_eq_true rfl, Nat.le_of_ble_eq_true rfl⟩ ⟨rfl, rfl⟩ (fun _ => updM [1, 2] [0, 3, 4, 5, 6, 7, 8] [(a0 0, .inr (8, [.ref (a0 1), .int (gvr_0.1), .int (gvr_0.2)])), (a1 0, .inr (7, [.int (gv_1.1), .int (gv_1.2.1), .ref (a1 1), .ref (a1 6), .ref (a1 10), .ref (a1 11), .ref (a1 12), .ref (a1 13), .ref (a1 14)])), (a1 10, .inl (cy 1, 5, .inl (gv_1.2.2.1))), (a1 11, .inl (cy 1, 5, .inl (gv_1.2.2.2.1))), (a1 12, .inl (cy 1, 5, .inl (gv_1.2.2.2.2.1))), (a1 13, .inl (cy 1, 5, .inl (gv_1.2.2.2.2.2.1))), (a1 14, .inl (cy 1, 5, .inl (gv_1.2.2.2.2.2.2)))] 9 rfl rfl rfl rfl rfl (by decide +kernel) (by decide +kernel) rfl) (fun r u H locs hw hP hD hS => ?_)
        obtain ⟨rfl, rfl⟩ := hw
        have hP : va_P (dC, dI) vwCl (w_X10_readOwner cy a0 a1 gvr_0 v14.2 gtx_0 gv_1) H := hP
        have hD : va_D A (w_X10_readOwner cy a0 a1 gvr_0 v14.2 gtx_0 gv_1) := hD
        refine lv_if_ne (tgt := 92) hx hb dX10_readOwner_87 (by decide) (fun c16 => ?_) (fun c16 => ?_)
        · rw [if_neg c16] at h
          refine lv_aload_n hx hb dX10_readOwner_92 rfl (lv_at hl 2 rfl) ?_
          refine va_get (D := (dC, dI)) (ci := 8) (v := .ref (a0 1)) (C := RX10) (T := TX10) (N := 3) hx hb hts in_X10 hown hK hP 0 rfl rfl 0 (by decide) lk0 (fun _ h9 => h9) rfl dX10_readOwner_93 ?_
          refine va_get (D := (dC, dI)) (ci := 5) (v := .int v14.2.2.2.2.2.2.2.1) (C := RX7) (T := TX7) (N := 10) hx hb hts in_X7 hown hK hP 1 rfl rfl 7 (by decide) lk6 (fun _ h9 => h9) rfl dX10_readOwner_96 ?_
          refine lv_istore_n (lv' := [(3, .int v14.2.2.2.2.2.2.2.1), (2, .int v6.2.2.2.2.2.2.2.1), (0, .ref (a0 0)), (1, .ref (a1 0))]) hx hb dX10_readOwner_99 rfl hl (by decide) rfl (fun ls hl => ?_)
          exact c100 () v14.2 gv_1 v6.2.2.2.2.2.2.2.1 v14.2.2.2.2.2.2.2.1 H locs ls h hP hD hS (lv_sub hl [2, 3, 1, 0] rfl)
        · rw [if_pos c16] at h
          refine lv_iconst (v := (0 : Int32)) hx hb dX10_readOwner_90 (by decide) ?_
          exact W.zret (v := (0 : Int32)) (ty := .boolean) hx hb hr rfl (fun t ht hW => by rw [hqq]; have hh := Option.some.inj h; exact ⟨⟨(0 : Int32), ((v14.2, gv_1)), rfl, ⟨fst_of hh, snd_of hh⟩, by rw [ht]; exact hP, va_K.moved hW.alike hK⟩, hS.F ht⟩) hS.2.2 dX10_readOwner_91
    · rw [if_pos c8] at h
      refine lv_iconst (v := (0 : Int32)) hx hb dX10_readOwner_47 (by decide) ?_
      exact W.zret (v := (0 : Int32)) (ty := .boolean) hx hb hr rfl (fun t ht hW => by rw [hqq]; have hh := Option.some.inj h; exact ⟨⟨(0 : Int32), ((v6.2, gv_1)), rfl, ⟨fst_of hh, snd_of hh⟩, by rw [ht]; exact hP, va_K.moved hW.alike hK⟩, hS.F ht⟩) hS.2.2 dX10_readOwner_48
  · rw [if_neg c1] at h
    refine lv_aload_n hx hb dX10_readOwner_8 rfl (lv_at hl 0 rfl) ?_
    refine va_get (D := (dC, dI)) (ci := 8) (v := .ref (a0 1)) (C := RX10) (T := TX10) (N := 3) hx hb hts in_X10 hown hK hP 0 rfl rfl 0 (by decide) lk0 (fun _ h9 => h9) rfl dX10_readOwner_9 ?_
    refine lv_iconst (v := (2 : Int32)) hx hb dX10_readOwner_12 (by decide) ?_
    obtain ⟨v17, hv18, h⟩ := ok_bind h
    refine cl_vi (w2 := fun (u : (Int32 × Int32 × Int32 × Int32 × Int32 × Int32 × Int32 × Int32 × Int32)) => w_X10_readOwner cy a0 a1 gvr_0 u gtx_0 gv_1) (As := [.int (2 : Int32)]) (rest := []) ⟨hx, hb, hml, hown, hts⟩ (c_X7_refuse l dC dI cy (fun k => a0 (k + 1)) gr_0 (2 : Int32) H.size v17 hv18) (cwV 1 hts gX10_readOwner_X7_refuse rfl rfl rfl (by decide +kernel) ⟨Nat.le_of_ble_eq_true rfl, Nat.le_of_ble_eq_true rfl⟩) (va_recv hK hP (ci := 5) (q0 := 1) rfl rfl) cl_blind (cl_pre hK hP hD [1] (by decide) rfl) hP hD hS hA [1] rfl rfl hl.1 rfl (lv_room (Nat.le_of_ble_eq_true rfl)) dX10_readOwner_13 ⟨Nat.le_of_ble_eq_true rfl, Nat.le_of_ble_eq_true rfl⟩ ⟨rfl, rfl⟩ (fun _ => updM [1] [0, 2, 3, 4, 5, 6, 7, 8] [(a0 0, .inr (8, [.ref (a0 1), .int (gvr_0.1), .int (gvr_0.2)])), (a0 2, .inl (cy 0, 600, .inl (gtx_0))), (a1 0, .inr (7, [.int (gv_1.1), .int (gv_1.2.1), .ref (a1 1), .ref (a1 6), .ref (a1 10), .ref (a1 11), .ref (a1 12), .ref (a1 13), .ref (a1 14)])), (a1 10, .inl (cy 1, 5, .inl (gv_1.2.2.1))), (a1 11, .inl (cy 1, 5, .inl (gv_1.2.2.2.1))), (a1 12, .inl (cy 1, 5, .inl (gv_1.2.2.2.2.1))), (a1 13, .inl (cy 1, 5, .inl (gv_1.2.2.2.2.2.1))), (a1 14, .inl (cy 1, 5, .inl (gv_1.2.2.2.2.2.2)))] 9 rfl rfl rfl rfl rfl (by decide +kernel) (by decide +kernel) rfl) (fun r u H locs hw hP hD hS => ?_)
    obtain ⟨rfl, rfl⟩ := hw
    have hP : va_P (dC, dI) vwCl (w_X10_readOwner cy a0 a1 gvr_0 v17.2 gtx_0 gv_1) H := hP
    have hD : va_D A (w_X10_readOwner cy a0 a1 gvr_0 v17.2 gtx_0 gv_1) := hD
    obtain ⟨hz19, h⟩ := ok_if h
    exact W.zret (v := v17.1) (ty := .boolean) hx hb hr (isZ_nar hz19) (fun t ht hW => by rw [hqq]; have hh := Option.some.inj h; exact ⟨⟨v17.1, ((v17.2, gv_1)), rfl, ⟨fst_of hh, snd_of hh⟩, by rw [ht]; exact hP, va_K.moved hW.alike hK⟩, hS.F ht⟩) hS.2.2 dX10_readOwner_16

abbrev w_X10_readLine (cy : Nat → ClassId) (a0 : Nat → Nat) (a1 : Nat → Nat) (gvr_0 : Int32 × Int32) (gr_0 : Int32 × Int32 × Int32 × Int32 × Int32 × Int32 × Int32 × Int32 × Int32) (gtx_0 : (Nat → Int32)) (gv_1 : Int32 × Int32 × (Nat → Int32) × (Nat → Int32) × (Nat → Int32) × (Nat → Int32) × (Nat → Int32)) (gd_1 : Int32 × Int32 × (Nat → Int32) × (Nat → Int32) × (Nat → Int32) × (Nat → Int32)) : va_W := [(a0 0, .inr (8, [.ref (a0 1), .int (gvr_0.1), .int (gvr_0.2)])), (a0 1, .inr (5, [.ref (a0 2), .int (gr_0.1), .int (gr_0.2.1), .int (gr_0.2.2.1), .int (gr_0.2.2.2.1), .int (gr_0.2.2.2.2.1), .int (gr_0.2.2.2.2.2.1), .int (gr_0.2.2.2.2.2.2.1), .int (gr_0.2.2.2.2.2.2.2.1), .int (gr_0.2.2.2.2.2.2.2.2)])), (a0 2, .inl (cy 0, 600, .inl (gtx_0))), (a1 0, .inr (7, [.int (gv_1.1), .int (gv_1.2.1), .ref (a1 1), .ref (a1 6), .ref (a1 10), .ref (a1 11), .ref (a1 12), .ref (a1 13), .ref (a1 14)])), (a1 1, .inr (2, [.int (gd_1.1), .int (gd_1.2.1), .ref (a1 2), .ref (a1 3), .ref (a1 4), .ref (a1 5)])), (a1 2, .inl (cy 1, 10, .inl (gd_1.2.2.1))), (a1 3, .inl (cy 1, 10, .inl (gd_1.2.2.2.1))), (a1 4, .inl (cy 1, 10, .inl (gd_1.2.2.2.2.1))), (a1 5, .inl (cy 1, 50, .inl (gd_1.2.2.2.2.2))), (a1 10, .inl (cy 1, 5, .inl (gv_1.2.2.1))), (a1 11, .inl (cy 1, 5, .inl (gv_1.2.2.2.1))), (a1 12, .inl (cy 1, 5, .inl (gv_1.2.2.2.2.1))), (a1 13, .inl (cy 1, 5, .inl (gv_1.2.2.2.2.2.1))), (a1 14, .inl (cy 1, 5, .inl (gv_1.2.2.2.2.2.2)))]
abbrev rm_X10_readLine : Room := { frames := 6, cells := 0, slots := 0, locals := 130 }
set_option maxHeartbeats 1000000 in
set_option maxRecDepth 100000 in
theorem c_X10_readLine (l : Launch) (dC : Nat → ClassId) (dI : Nat → Nat → Nat) (cy : Nat → ClassId) (z : Nat → Nat) (a0 : Nat → Nat) (a1 : Nat → Nat) (gvr_0 : Int32 × Int32) (gr_0 : Int32 × Int32 × Int32 × Int32 × Int32 × Int32 × Int32 × Int32 × Int32) (gtx_0 : (Nat → Int32)) (gv_1 : Int32 × Int32 × (Nat → Int32) × (Nat → Int32) × (Nat → Int32) × (Nat → Int32) × (Nat → Int32)) (gd_1 : Int32 × Int32 × (Nat → Int32) × (Nat → Int32) × (Nat → Int32) × (Nat → Int32)) (sz : Nat) (R0 : Int32 × (Int32 × Int32) × (Int32 × Int32 × Int32 × Int32 × Int32 × Int32 × Int32 × Int32 × Int32) × (Int32 × Int32 × (Nat → Int32) × (Nat → Int32) × (Nat → Int32) × (Nat → Int32) × (Nat → Int32)) × (Int32 × Int32 × (Nat → Int32) × (Nat → Int32) × (Nat → Int32) × (Nat → Int32))) (h : p_X10_readLine gvr_0 gr_0 gtx_0 gv_1 gd_1 = some R0) : Met l yX10_readLine wsX10_readLine rm_X10_readLine (va_Pc [.ref (a0 0), .ref (a1 0)] (prS dC dI cy z (w_X10_readLine cy a0 a1 gvr_0 gr_0 gtx_0 gv_1 gd_1) sz)) (va_Qi (fun (r : Int32) (u : (Int32 × Int32) × (Int32 × Int32 × Int32 × Int32 × Int32 × Int32 × Int32 × Int32 × Int32) × (Int32 × Int32 × (Nat → Int32) × (Nat → Int32) × (Nat → Int32) × (Nat → Int32) × (Nat → Int32)) × (Int32 × Int32 × (Nat → Int32) × (Nat → Int32) × (Nat → Int32) × (Nat → Int32))) => r = R0.1 ∧ u = R0.2) (fun (u : (Int32 × Int32) × (Int32 × Int32 × Int32 × Int32 × Int32 × Int32 × Int32 × Int32 × Int32) × (Int32 × Int32 × (Nat → Int32) × (Nat → Int32) × (Nat → Int32) × (Nat → Int32) × (Nat → Int32)) × (Int32 × Int32 × (Nat → Int32) × (Nat → Int32) × (Nat → Int32) × (Nat → Int32))) t => poC dC dI cy (w_X10_readLine cy a0 a1 u.1 u.2.1 gtx_0 u.2.2.1 u.2.2.2) t) (va_A (w_X10_readLine cy a0 a1 gvr_0 gr_0 gtx_0 gv_1 gd_1) sz)) 0 0 (va_A (w_X10_readLine cy a0 a1 gvr_0 gr_0 gtx_0 gv_1 gd_1) sz) := by
  refine Met.ofW (cc := cX10_readLine) (maxL := 2) (ret := (some .boolean)) (by decide) rfl ?_
  intro p e s m aa below meth c s₁ B hml hv
  obtain ⟨haa, ⟨hsz, hP, hK, hD0⟩, hX⟩ := hv
  have hx := B.exec
  have hb := B.bytes
  have hr := B.returns
  have hts := atoms_spec (ws := wsX10_readLine) B.pre
  have hown : s.vm.findClass RX10 = some m.cls := findClass_of_methodNamed B.named
  have hlocks := B.notSynchronized
  subst hsz
  have hD := hD0.self (sz := s.heap.size)
  obtain ⟨qq, hqq⟩ : ∃ qq, qq = (va_Qi (fun (r : Int32) (u : (Int32 × Int32) × (Int32 × Int32 × Int32 × Int32 × Int32 × Int32 × Int32 × Int32 × Int32) × (Int32 × Int32 × (Nat → Int32) × (Nat → Int32) × (Nat → Int32) × (Nat → Int32) × (Nat → Int32)) × (Int32 × Int32 × (Nat → Int32) × (Nat → Int32) × (Nat → Int32) × (Nat → Int32))) => r = R0.1 ∧ u = R0.2) (fun (u : (Int32 × Int32) × (Int32 × Int32 × Int32 × Int32 × Int32 × Int32 × Int32 × Int32 × Int32) × (Int32 × Int32 × (Nat → Int32) × (Nat → Int32) × (Nat → Int32) × (Nat → Int32) × (Nat → Int32)) × (Int32 × Int32 × (Nat → Int32) × (Nat → Int32) × (Nat → Int32) × (Nat → Int32))) t => poC dC dI cy (w_X10_readLine cy a0 a1 u.1 u.2.1 gtx_0 u.2.2.1 u.2.2.2) t) (va_A (w_X10_readLine cy a0 a1 gvr_0 gr_0 gtx_0 gv_1 gd_1) s.heap.size)) := ⟨_, rfl⟩
  rw [← hqq]
  generalize hAe : va_A (w_X10_readLine cy a0 a1 gvr_0 gr_0 gtx_0 gv_1 gd_1) s.heap.size = A at hD hqq hX ⊢
  have hA : ∀ q : Nat, s.heap.size ≤ q → A q := fun q h => by rw [← hAe]; exact Or.inr h
  have hS : va_S A s.heap s.heap [] := va_S.rf
  have hl := lv_entry ([.ref (a0 0), .ref (a1 0)]) (n := 2) (Nat.le_of_ble_eq_true rfl)
  have hE : entryFrame m aa 2 = F0 m 0 ((lg_sl ([.ref (a0 0), .ref (a1 0)]) ++ List.replicate (2 - (lg_sl ([.ref (a0 0), .ref (a1 0)])).length) Slot.unset).toArray) [] := by rw [haa]; exact lg_entry_eq m _ 2
  refine W.eq hE ?_
  generalize (lg_sl ([.ref (a0 0), .ref (a1 0)]) ++ List.replicate (2 - (lg_sl ([.ref (a0 0), .ref (a1 0)])).length) Slot.unset).toArray = ls at hl ⊢
  have hl : lv_has ls 2 [(0, .ref (a0 0)), (1, .ref (a1 0))] := hl
  change W p l e rm_X10_readLine s m aa below meth c s.heap [] 0 0 (MQ below qq aa s 0 0 A) (F0 m 0 ls [])
  have hS0 := hS
  have lk0 := hts (.fieldLink RX10 9 "GoatDoors$VillageReader" "reader" "LGoatDoors$Reader;") (by decide +kernel)
  have in_X10 : ∀ w ∈ wsX100, w ∈ wsX10_readLine := by decide +kernel
  obtain ⟨H, hH⟩ : ∃ H : Heap, H = s.heap := ⟨_, rfl⟩
  obtain ⟨locs, hlocs⟩ : ∃ locs : List Loc, locs = [] := ⟨_, rfl⟩
  have hS : va_S A s.heap H locs := by rw [hH, hlocs]; exact hS
  rw [← hH] at hP
  suffices hg : W p l e rm_X10_readLine s m aa below meth c H locs 0 0 (MQ below qq aa s 0 0 A) (F0 m 0 ls []) by subst hH; subst hlocs; exact hg
  unfold p_X10_readLine at h
  refine lv_aload_n hx hb dX10_readLine_0 rfl (lv_at hl 0 rfl) ?_
  refine va_get (D := (dC, dI)) (ci := 8) (v := .ref (a0 1)) (C := RX10) (T := TX10) (N := 3) hx hb hts in_X10 hown hK hP 0 rfl rfl 0 (by decide) lk0 (fun _ h9 => h9) rfl dX10_readLine_1 ?_
  refine va_ldcS hx hb hown (hX.2.2.2.1.2.1 (49, "owner", 0) (by decide)) dX10_readLine_4 ?_
  obtain ⟨v1, hv2, h⟩ := ok_bind h
  refine cl_vi (w2 := fun (_ : Unit) => w_X10_readLine cy a0 a1 gvr_0 gr_0 gtx_0 gv_1 gd_1) (As := [.ref (z 0)]) (rest := []) ⟨hx, hb, hml, hown, hts⟩ (c_X7_isWord l dC dI cy z (fun k => a0 (k + 1)) gr_0 gtx_0 0 H.size v1 hv2) (cwV 1 hts gX10_readLine_X7_isWord rfl rfl rfl (by decide +kernel) ⟨Nat.le_of_ble_eq_true rfl, Nat.le_of_ble_eq_true rfl⟩) (va_recv hK hP (ci := 5) (q0 := 1) rfl rfl) cl_blindS (cl_preS hK hP hD hS hA hX [1, 2] (by decide) rfl) hP hD hS hA [1, 2] rfl rfl hl.1 rfl (lv_room (Nat.le_of_ble_eq_true rfl)) dX10_readLine_6 ⟨Nat.le_of_ble_eq_true rfl, Nat.le_of_ble_eq_true rfl⟩ ⟨rfl, rfl⟩ (fun _ => updR [1, 2] rfl) (fun r u H locs hw hP hD hS => ?_)
  have hw := hw.symm
  subst hw
  have hP : va_P (dC, dI) vwCl (w_X10_readLine cy a0 a1 gvr_0 gr_0 gtx_0 gv_1 gd_1) H := hP
  have hD : va_D A (w_X10_readLine cy a0 a1 gvr_0 gr_0 gtx_0 gv_1 gd_1) := hD
  refine lv_if_eq (tgt := 18) hx hb dX10_readLine_9 (by decide) (fun c3 => ?_) (fun c3 => ?_)
  · rw [if_pos c3] at h
    refine lv_aload_n hx hb dX10_readLine_18 rfl (lv_at hl 0 rfl) ?_
    refine va_get (D := (dC, dI)) (ci := 8) (v := .ref (a0 1)) (C := RX10) (T := TX10) (N := 3) hx hb hts in_X10 hown hK hP 0 rfl rfl 0 (by decide) lk0 (fun _ h9 => h9) rfl dX10_readLine_19 ?_
    refine va_ldcS hx hb hown (hX.2.2.2.1.2.1 (58, "door", 1) (by decide)) dX10_readLine_22 ?_
    obtain ⟨v4, hv5, h⟩ := ok_bind h
    refine cl_vi (w2 := fun (_ : Unit) => w_X10_readLine cy a0 a1 gvr_0 gr_0 gtx_0 gv_1 gd_1) (As := [.ref (z 1)]) (rest := []) ⟨hx, hb, hml, hown, hts⟩ (c_X7_isWord l dC dI cy z (fun k => a0 (k + 1)) gr_0 gtx_0 1 H.size v4 hv5) (cwV 1 hts gX10_readLine_X7_isWord rfl rfl rfl (by decide +kernel) ⟨Nat.le_of_ble_eq_true rfl, Nat.le_of_ble_eq_true rfl⟩) (va_recv hK hP (ci := 5) (q0 := 1) rfl rfl) cl_blindS (cl_preS hK hP hD hS hA hX [1, 2] (by decide) rfl) hP hD hS hA [1, 2] rfl rfl hl.1 rfl (lv_room (Nat.le_of_ble_eq_true rfl)) dX10_readLine_24 ⟨Nat.le_of_ble_eq_true rfl, Nat.le_of_ble_eq_true rfl⟩ ⟨rfl, rfl⟩ (fun _ => updR [1, 2] rfl) (fun r u H locs hw hP hD hS => ?_)
    have hw := hw.symm
    subst hw
    have hP : va_P (dC, dI) vwCl (w_X10_readLine cy a0 a1 gvr_0 gr_0 gtx_0 gv_1 gd_1) H := hP
    have hD : va_D A (w_X10_readLine cy a0 a1 gvr_0 gr_0 gtx_0 gv_1 gd_1) := hD
    refine lv_if_eq (tgt := 36) hx hb dX10_readLine_27 (by decide) (fun c6 => ?_) (fun c6 => ?_)
    · rw [if_pos c6] at h
      refine lv_aload_n hx hb dX10_readLine_36 rfl (lv_at hl 0 rfl) ?_
      refine va_get (D := (dC, dI)) (ci := 8) (v := .ref (a0 1)) (C := RX10) (T := TX10) (N := 3) hx hb hts in_X10 hown hK hP 0 rfl rfl 0 (by decide) lk0 (fun _ h9 => h9) rfl dX10_readLine_37 ?_
      refine va_ldcS hx hb hown (hX.2.2.2.1.2.1 (63, "law", 2) (by decide)) dX10_readLine_40 ?_
      obtain ⟨v7, hv8, h⟩ := ok_bind h
      refine cl_vi (w2 := fun (_ : Unit) => w_X10_readLine cy a0 a1 gvr_0 gr_0 gtx_0 gv_1 gd_1) (As := [.ref (z 2)]) (rest := []) ⟨hx, hb, hml, hown, hts⟩ (c_X7_isWord l dC dI cy z (fun k => a0 (k + 1)) gr_0 gtx_0 2 H.size v7 hv8) (cwV 1 hts gX10_readLine_X7_isWord rfl rfl rfl (by decide +kernel) ⟨Nat.le_of_ble_eq_true rfl, Nat.le_of_ble_eq_true rfl⟩) (va_recv hK hP (ci := 5) (q0 := 1) rfl rfl) cl_blindS (cl_preS hK hP hD hS hA hX [1, 2] (by decide) rfl) hP hD hS hA [1, 2] rfl rfl hl.1 rfl (lv_room (Nat.le_of_ble_eq_true rfl)) dX10_readLine_42 ⟨Nat.le_of_ble_eq_true rfl, Nat.le_of_ble_eq_true rfl⟩ ⟨rfl, rfl⟩ (fun _ => updR [1, 2] rfl) (fun r u H locs hw hP hD hS => ?_)
      have hw := hw.symm
      subst hw
      have hP : va_P (dC, dI) vwCl (w_X10_readLine cy a0 a1 gvr_0 gr_0 gtx_0 gv_1 gd_1) H := hP
      have hD : va_D A (w_X10_readLine cy a0 a1 gvr_0 gr_0 gtx_0 gv_1 gd_1) := hD
      refine lv_if_eq (tgt := 54) hx hb dX10_readLine_45 (by decide) (fun c9 => ?_) (fun c9 => ?_)
      · rw [if_pos c9] at h
        refine lv_aload_n hx hb dX10_readLine_54 rfl (lv_at hl 0 rfl) ?_
        refine va_get (D := (dC, dI)) (ci := 8) (v := .ref (a0 1)) (C := RX10) (T := TX10) (N := 3) hx hb hts in_X10 hown hK hP 0 rfl rfl 0 (by decide) lk0 (fun _ h9 => h9) rfl dX10_readLine_55 ?_
        refine lv_iconst (v := (1 : Int32)) hx hb dX10_readLine_58 (by decide) ?_
        obtain ⟨v10, hv11, h⟩ := ok_bind h
        refine cl_vi (w2 := fun (u : (Int32 × Int32 × Int32 × Int32 × Int32 × Int32 × Int32 × Int32 × Int32)) => w_X10_readLine cy a0 a1 gvr_0 u gtx_0 gv_1 gd_1) (As := [.int (1 : Int32)]) (rest := []) ⟨hx, hb, hml, hown, hts⟩ (c_X7_refuse l dC dI cy (fun k => a0 (k + 1)) gr_0 (1 : Int32) H.size v10 hv11) (cwV 1 hts gX10_readLine_X7_refuse rfl rfl rfl (by decide +kernel) ⟨Nat.le_of_ble_eq_true rfl, Nat.le_of_ble_eq_true rfl⟩) (va_recv hK hP (ci := 5) (q0 := 1) rfl rfl) cl_blind (cl_pre hK hP hD [1] (by decide) rfl) hP hD hS hA [1] rfl rfl hl.1 rfl (lv_room (Nat.le_of_ble_eq_true rfl)) dX10_readLine_59 ⟨Nat.le_of_ble_eq_true rfl, Nat.le_of_ble_eq_true rfl⟩ ⟨rfl, rfl⟩ (fun _ => updM [1] [0, 2, 3, 4, 5, 6, 7, 8, 9, 10, 11, 12, 13] [(a0 0, .inr (8, [.ref (a0 1), .int (gvr_0.1), .int (gvr_0.2)])), (a0 2, .inl (cy 0, 600, .inl (gtx_0))), (a1 0, .inr (7, [.int (gv_1.1), .int (gv_1.2.1), .ref (a1 1), .ref (a1 6), .ref (a1 10), .ref (a1 11), .ref (a1 12), .ref (a1 13), .ref (a1 14)])), (a1 1, .inr (2, [.int (gd_1.1), .int (gd_1.2.1), .ref (a1 2), .ref (a1 3), .ref (a1 4), .ref (a1 5)])), (a1 2, .inl (cy 1, 10, .inl (gd_1.2.2.1))), (a1 3, .inl (cy 1, 10, .inl (gd_1.2.2.2.1))), (a1 4, .inl (cy 1, 10, .inl (gd_1.2.2.2.2.1))), (a1 5, .inl (cy 1, 50, .inl (gd_1.2.2.2.2.2))), (a1 10, .inl (cy 1, 5, .inl (gv_1.2.2.1))), (a1 11, .inl (cy 1, 5, .inl (gv_1.2.2.2.1))), (a1 12, .inl (cy 1, 5, .inl (gv_1.2.2.2.2.1))), (a1 13, .inl (cy 1, 5, .inl (gv_1.2.2.2.2.2.1))), (a1 14, .inl (cy 1, 5, .inl (gv_1.2.2.2.2.2.2)))] 14 rfl rfl rfl rfl rfl (by decide +kernel) (by decide +kernel) rfl) (fun r u H locs hw hP hD hS => ?_)
        obtain ⟨rfl, rfl⟩ := hw
        have hP : va_P (dC, dI) vwCl (w_X10_readLine cy a0 a1 gvr_0 v10.2 gtx_0 gv_1 gd_1) H := hP
        have hD : va_D A (w_X10_readLine cy a0 a1 gvr_0 v10.2 gtx_0 gv_1 gd_1) := hD
        obtain ⟨hz12, h⟩ := ok_if h
        exact W.zret (v := v10.1) (ty := .boolean) hx hb hr (isZ_nar hz12) (fun t ht hW => by rw [hqq]; have hh := Option.some.inj h; exact ⟨⟨v10.1, ((gvr_0, v10.2, gv_1, gd_1)), rfl, ⟨fst_of hh, snd_of hh⟩, by rw [ht]; exact hP, va_K.moved hW.alike hK⟩, hS.F ht⟩) hS.2.2 dX10_readLine_62
      · rw [if_neg c9] at h
        refine lv_aload_n hx hb dX10_readLine_48 rfl (lv_at hl 0 rfl) ?_
        refine lv_aload_n hx hb dX10_readLine_49 rfl (lv_at hl 1 rfl) ?_
        obtain ⟨v13, hv14, h⟩ := ok_bind h
        refine cl_vi (w2 := fun (u : (Int32 × Int32) × (Int32 × Int32 × Int32 × Int32 × Int32 × Int32 × Int32 × Int32 × Int32) × (Int32 × Int32 × (Nat → Int32) × (Nat → Int32) × (Nat → Int32) × (Nat → Int32))) => w_X10_readLine cy a0 a1 u.1 u.2.1 gtx_0 gv_1 u.2.2) (As := [.ref (a1 0)]) (rest := []) ⟨hx, hb, hml, hown, hts⟩ (c_X10_readLaw l dC dI cy z a0 a1 gvr_0 gr_0 gtx_0 gv_1 gd_1 H.size v13 hv14) (cwV 1 hts gX10_readLine_X10_readLaw rfl rfl rfl (by decide +kernel) ⟨Nat.le_of_ble_eq_true rfl, Nat.le_of_ble_eq_true rfl⟩) (va_recv hK hP (ci := 8) (q0 := 0) rfl rfl) cl_blindS (cl_preS hK hP hD hS hA hX [0, 1, 2, 3, 4, 5, 6, 7, 8] (by decide) rfl) hP hD hS hA [0, 1, 2, 3, 4, 5, 6, 7, 8] rfl rfl hl.1 rfl (lv_room (Nat.le_of_ble_eq_true rfl)) dX10_readLine_50 ⟨Nat.le_of_ble_eq_true rfl, Nat.le_of_ble_eq_true rfl⟩ ⟨rfl, rfl⟩ (fun _ => updM [0, 1, 2, 3, 4, 5, 6, 7, 8] [9, 10, 11, 12, 13] [(a1 10, .inl (cy 1, 5, .inl (gv_1.2.2.1))), (a1 11, .inl (cy 1, 5, .inl (gv_1.2.2.2.1))), (a1 12, .inl (cy 1, 5, .inl (gv_1.2.2.2.2.1))), (a1 13, .inl (cy 1, 5, .inl (gv_1.2.2.2.2.2.1))), (a1 14, .inl (cy 1, 5, .inl (gv_1.2.2.2.2.2.2)))] 14 rfl rfl rfl rfl rfl (by decide +kernel) (by decide +kernel) rfl) (fun r u H locs hw hP hD hS => ?_)
        obtain ⟨rfl, rfl⟩ := hw
        have hP : va_P (dC, dI) vwCl (w_X10_readLine cy a0 a1 v13.2.1 v13.2.2.1 gtx_0 gv_1 v13.2.2.2) H := hP
        have hD : va_D A (w_X10_readLine cy a0 a1 v13.2.1 v13.2.2.1 gtx_0 gv_1 v13.2.2.2) := hD
        obtain ⟨hz15, h⟩ := ok_if h
        exact W.zret (v := v13.1) (ty := .boolean) hx hb hr (isZ_nar hz15) (fun t ht hW => by rw [hqq]; have hh := Option.some.inj h; exact ⟨⟨v13.1, ((v13.2.1, v13.2.2.1, gv_1, v13.2.2.2)), rfl, ⟨fst_of hh, snd_of hh⟩, by rw [ht]; exact hP, va_K.moved hW.alike hK⟩, hS.F ht⟩) hS.2.2 dX10_readLine_53
    · rw [if_neg c6] at h
      refine lv_aload_n hx hb dX10_readLine_30 rfl (lv_at hl 0 rfl) ?_
      refine lv_aload_n hx hb dX10_readLine_31 rfl (lv_at hl 1 rfl) ?_
      obtain ⟨v16, hv17, h⟩ := ok_bind h
      refine cl_vi (w2 := fun (u : (Int32 × Int32) × (Int32 × Int32 × Int32 × Int32 × Int32 × Int32 × Int32 × Int32 × Int32) × (Int32 × Int32 × (Nat → Int32) × (Nat → Int32) × (Nat → Int32) × (Nat → Int32))) => w_X10_readLine cy a0 a1 u.1 u.2.1 gtx_0 gv_1 u.2.2) (As := [.ref (a1 0)]) (rest := []) ⟨hx, hb, hml, hown, hts⟩ (c_X10_readDoor l dC dI cy a0 a1 gvr_0 gr_0 gtx_0 gv_1 gd_1 H.size v16 hv17) (cwV 1 hts gX10_readLine_X10_readDoor rfl rfl rfl (by decide +kernel) ⟨Nat.le_of_ble_eq_true rfl, Nat.le_of_ble_eq_true rfl⟩) (va_recv hK hP (ci := 8) (q0 := 0) rfl rfl) cl_blind (cl_pre hK hP hD [0, 1, 2, 3, 4, 5, 6, 7, 8, 9, 10, 11, 12, 13] (by decide) rfl) hP hD hS hA [0, 1, 2, 3, 4, 5, 6, 7, 8, 9, 10, 11, 12, 13] rfl rfl hl.1 rfl (lv_room (Nat.le_of_ble_eq_true rfl)) dX10_readLine_32 ⟨Nat.le_of_ble_eq_true rfl, Nat.le_of_ble_eq_true rfl⟩ ⟨rfl, rfl⟩ (fun _ => updM [0, 1, 2, 3, 4, 5, 6, 7, 8, 9, 10, 11, 12, 13] [] [] 14 rfl rfl rfl rfl rfl (by decide +kernel) (by decide +kernel) rfl) (fun r u H locs hw hP hD hS => ?_)
      obtain ⟨rfl, rfl⟩ := hw
      have hP : va_P (dC, dI) vwCl (w_X10_readLine cy a0 a1 v16.2.1 v16.2.2.1 gtx_0 gv_1 v16.2.2.2) H := hP
      have hD : va_D A (w_X10_readLine cy a0 a1 v16.2.1 v16.2.2.1 gtx_0 gv_1 v16.2.2.2) := hD
      obtain ⟨hz18, h⟩ := ok_if h
      exact W.zret (v := v16.1) (ty := .boolean) hx hb hr (isZ_nar hz18) (fun t ht hW => by rw [hqq]; have hh := Option.some.inj h; exact ⟨⟨v16.1, ((v16.2.1, v16.2.2.1, gv_1, v16.2.2.2)), rfl, ⟨fst_of hh, snd_of hh⟩, by rw [ht]; exact hP, va_K.moved hW.alike hK⟩, hS.F ht⟩) hS.2.2 dX10_readLine_35
  · rw [if_neg c3] at h
    refine lv_aload_n hx hb dX10_readLine_12 rfl (lv_at hl 0 rfl) ?_
    refine lv_aload_n hx hb dX10_readLine_13 rfl (lv_at hl 1 rfl) ?_
    obtain ⟨v19, hv20, h⟩ := ok_bind h
    refine cl_vi (w2 := fun (u : (Int32 × Int32 × Int32 × Int32 × Int32 × Int32 × Int32 × Int32 × Int32) × (Int32 × Int32 × (Nat → Int32) × (Nat → Int32) × (Nat → Int32) × (Nat → Int32) × (Nat → Int32))) => w_X10_readLine cy a0 a1 gvr_0 u.1 gtx_0 u.2 gd_1) (As := [.ref (a1 0)]) (rest := []) ⟨hx, hb, hml, hown, hts⟩ (c_X10_readOwner l dC dI cy z a0 a1 gvr_0 gr_0 gtx_0 gv_1 H.size v19 hv20) (cwV 1 hts gX10_readLine_X10_readOwner rfl rfl rfl (by decide +kernel) ⟨Nat.le_of_ble_eq_true rfl, Nat.le_of_ble_eq_true rfl⟩) (va_recv hK hP (ci := 8) (q0 := 0) rfl rfl) cl_blindS (cl_preS hK hP hD hS hA hX [0, 1, 2, 3, 9, 10, 11, 12, 13] (by decide) rfl) hP hD hS hA [0, 1, 2, 3, 9, 10, 11, 12, 13] rfl rfl hl.1 rfl (lv_room (Nat.le_of_ble_eq_true rfl)) dX10_readLine_14 ⟨Nat.le_of_ble_eq_true rfl, Nat.le_of_ble_eq_true rfl⟩ ⟨rfl, rfl⟩ (fun _ => updM [0, 1, 2, 3, 9, 10, 11, 12, 13] [4, 5, 6, 7, 8] [(a1 1, .inr (2, [.int (gd_1.1), .int (gd_1.2.1), .ref (a1 2), .ref (a1 3), .ref (a1 4), .ref (a1 5)])), (a1 2, .inl (cy 1, 10, .inl (gd_1.2.2.1))), (a1 3, .inl (cy 1, 10, .inl (gd_1.2.2.2.1))), (a1 4, .inl (cy 1, 10, .inl (gd_1.2.2.2.2.1))), (a1 5, .inl (cy 1, 50, .inl (gd_1.2.2.2.2.2)))] 14 rfl rfl rfl rfl rfl (by decide +kernel) (by decide +kernel) rfl) (fun r u H locs hw hP hD hS => ?_)
    obtain ⟨rfl, rfl⟩ := hw
    have hP : va_P (dC, dI) vwCl (w_X10_readLine cy a0 a1 gvr_0 v19.2.1 gtx_0 v19.2.2 gd_1) H := hP
    have hD : va_D A (w_X10_readLine cy a0 a1 gvr_0 v19.2.1 gtx_0 v19.2.2 gd_1) := hD
    obtain ⟨hz21, h⟩ := ok_if h
    exact W.zret (v := v19.1) (ty := .boolean) hx hb hr (isZ_nar hz21) (fun t ht hW => by rw [hqq]; have hh := Option.some.inj h; exact ⟨⟨v19.1, ((gvr_0, v19.2.1, v19.2.2, gd_1)), rfl, ⟨fst_of hh, snd_of hh⟩, by rw [ht]; exact hP, va_K.moved hW.alike hK⟩, hS.F ht⟩) hS.2.2 dX10_readLine_17

abbrev w_X10_readAll (cy : Nat → ClassId) (a0 : Nat → Nat) (a1 : Nat → Nat) (gvr_0 : Int32 × Int32) (gr_0 : Int32 × Int32 × Int32 × Int32 × Int32 × Int32 × Int32 × Int32 × Int32) (gtx_0 : (Nat → Int32)) (gv_1 : Int32 × Int32 × (Nat → Int32) × (Nat → Int32) × (Nat → Int32) × (Nat → Int32) × (Nat → Int32)) (gd_1 : Int32 × Int32 × (Nat → Int32) × (Nat → Int32) × (Nat → Int32) × (Nat → Int32)) (gc_1 : Int32 × (Nat → Int32) × (Nat → Int32) × (Nat → Int32)) : va_W := [(a0 0, .inr (8, [.ref (a0 1), .int (gvr_0.1), .int (gvr_0.2)])), (a0 1, .inr (5, [.ref (a0 2), .int (gr_0.1), .int (gr_0.2.1), .int (gr_0.2.2.1), .int (gr_0.2.2.2.1), .int (gr_0.2.2.2.2.1), .int (gr_0.2.2.2.2.2.1), .int (gr_0.2.2.2.2.2.2.1), .int (gr_0.2.2.2.2.2.2.2.1), .int (gr_0.2.2.2.2.2.2.2.2)])), (a0 2, .inl (cy 0, 600, .inl (gtx_0))), (a1 0, .inr (7, [.int (gv_1.1), .int (gv_1.2.1), .ref (a1 1), .ref (a1 6), .ref (a1 10), .ref (a1 11), .ref (a1 12), .ref (a1 13), .ref (a1 14)])), (a1 1, .inr (2, [.int (gd_1.1), .int (gd_1.2.1), .ref (a1 2), .ref (a1 3), .ref (a1 4), .ref (a1 5)])), (a1 2, .inl (cy 1, 10, .inl (gd_1.2.2.1))), (a1 3, .inl (cy 1, 10, .inl (gd_1.2.2.2.1))), (a1 4, .inl (cy 1, 10, .inl (gd_1.2.2.2.2.1))), (a1 5, .inl (cy 1, 50, .inl (gd_1.2.2.2.2.2))), (a1 6, .inr (6, [.int (gc_1.1), .ref (a1 7), .ref (a1 8), .ref (a1 9)])), (a1 7, .inl (cy 1, 12, .inl (gc_1.2.1))), (a1 8, .inl (cy 1, 12, .inl (gc_1.2.2.1))), (a1 9, .inl (cy 1, 12, .inl (gc_1.2.2.2))), (a1 10, .inl (cy 1, 5, .inl (gv_1.2.2.1))), (a1 11, .inl (cy 1, 5, .inl (gv_1.2.2.2.1))), (a1 12, .inl (cy 1, 5, .inl (gv_1.2.2.2.2.1))), (a1 13, .inl (cy 1, 5, .inl (gv_1.2.2.2.2.2.1))), (a1 14, .inl (cy 1, 5, .inl (gv_1.2.2.2.2.2.2)))]
abbrev rm_X10_readAll : Room := { frames := 7, cells := 0, slots := 0, locals := 151 }
set_option maxHeartbeats 1000000 in
set_option maxRecDepth 100000 in
theorem c_X10_readAll (l : Launch) (dC : Nat → ClassId) (dI : Nat → Nat → Nat) (cy : Nat → ClassId) (z : Nat → Nat) (a0 : Nat → Nat) (a1 : Nat → Nat) (gvr_0 : Int32 × Int32) (gr_0 : Int32 × Int32 × Int32 × Int32 × Int32 × Int32 × Int32 × Int32 × Int32) (gtx_0 : (Nat → Int32)) (gv_1 : Int32 × Int32 × (Nat → Int32) × (Nat → Int32) × (Nat → Int32) × (Nat → Int32) × (Nat → Int32)) (gd_1 : Int32 × Int32 × (Nat → Int32) × (Nat → Int32) × (Nat → Int32) × (Nat → Int32)) (gc_1 : Int32 × (Nat → Int32) × (Nat → Int32) × (Nat → Int32)) (x1 : Int32) (sz : Nat) (R0 : Int32 × (Int32 × Int32) × (Int32 × Int32 × Int32 × Int32 × Int32 × Int32 × Int32 × Int32 × Int32) × (Int32 × Int32 × (Nat → Int32) × (Nat → Int32) × (Nat → Int32) × (Nat → Int32) × (Nat → Int32)) × (Int32 × Int32 × (Nat → Int32) × (Nat → Int32) × (Nat → Int32) × (Nat → Int32)) × (Int32 × (Nat → Int32) × (Nat → Int32) × (Nat → Int32))) (h : p_X10_readAll gvr_0 gr_0 gtx_0 gv_1 gd_1 gc_1 x1 = some R0) : Met l yX10_readAll wsX10_readAll rm_X10_readAll (va_Pc [.ref (a0 0), .int x1, .ref (a1 0)] (prS dC dI cy z (w_X10_readAll cy a0 a1 gvr_0 gr_0 gtx_0 gv_1 gd_1 gc_1) sz)) (va_Qi (fun (r : Int32) (u : (Int32 × Int32) × (Int32 × Int32 × Int32 × Int32 × Int32 × Int32 × Int32 × Int32 × Int32) × (Int32 × Int32 × (Nat → Int32) × (Nat → Int32) × (Nat → Int32) × (Nat → Int32) × (Nat → Int32)) × (Int32 × Int32 × (Nat → Int32) × (Nat → Int32) × (Nat → Int32) × (Nat → Int32)) × (Int32 × (Nat → Int32) × (Nat → Int32) × (Nat → Int32))) => r = R0.1 ∧ u = R0.2) (fun (u : (Int32 × Int32) × (Int32 × Int32 × Int32 × Int32 × Int32 × Int32 × Int32 × Int32 × Int32) × (Int32 × Int32 × (Nat → Int32) × (Nat → Int32) × (Nat → Int32) × (Nat → Int32) × (Nat → Int32)) × (Int32 × Int32 × (Nat → Int32) × (Nat → Int32) × (Nat → Int32) × (Nat → Int32)) × (Int32 × (Nat → Int32) × (Nat → Int32) × (Nat → Int32))) t => poC dC dI cy (w_X10_readAll cy a0 a1 u.1 u.2.1 gtx_0 u.2.2.1 u.2.2.2.1 u.2.2.2.2) t) (va_A (w_X10_readAll cy a0 a1 gvr_0 gr_0 gtx_0 gv_1 gd_1 gc_1) sz)) 0 0 (va_A (w_X10_readAll cy a0 a1 gvr_0 gr_0 gtx_0 gv_1 gd_1 gc_1) sz) := by
  refine Met.ofW (cc := cX10_readAll) (maxL := 4) (ret := (some .boolean)) (by decide) rfl ?_
  intro p e s m aa below meth c s₁ B hml hv
  obtain ⟨haa, ⟨hsz, hP, hK, hD0⟩, hX⟩ := hv
  have hx := B.exec
  have hb := B.bytes
  have hr := B.returns
  have hts := atoms_spec (ws := wsX10_readAll) B.pre
  have hown : s.vm.findClass RX10 = some m.cls := findClass_of_methodNamed B.named
  have hlocks := B.notSynchronized
  subst hsz
  have hD := hD0.self (sz := s.heap.size)
  obtain ⟨qq, hqq⟩ : ∃ qq, qq = (va_Qi (fun (r : Int32) (u : (Int32 × Int32) × (Int32 × Int32 × Int32 × Int32 × Int32 × Int32 × Int32 × Int32 × Int32) × (Int32 × Int32 × (Nat → Int32) × (Nat → Int32) × (Nat → Int32) × (Nat → Int32) × (Nat → Int32)) × (Int32 × Int32 × (Nat → Int32) × (Nat → Int32) × (Nat → Int32) × (Nat → Int32)) × (Int32 × (Nat → Int32) × (Nat → Int32) × (Nat → Int32))) => r = R0.1 ∧ u = R0.2) (fun (u : (Int32 × Int32) × (Int32 × Int32 × Int32 × Int32 × Int32 × Int32 × Int32 × Int32 × Int32) × (Int32 × Int32 × (Nat → Int32) × (Nat → Int32) × (Nat → Int32) × (Nat → Int32) × (Nat → Int32)) × (Int32 × Int32 × (Nat → Int32) × (Nat → Int32) × (Nat → Int32) × (Nat → Int32)) × (Int32 × (Nat → Int32) × (Nat → Int32) × (Nat → Int32))) t => poC dC dI cy (w_X10_readAll cy a0 a1 u.1 u.2.1 gtx_0 u.2.2.1 u.2.2.2.1 u.2.2.2.2) t) (va_A (w_X10_readAll cy a0 a1 gvr_0 gr_0 gtx_0 gv_1 gd_1 gc_1) s.heap.size)) := ⟨_, rfl⟩
  rw [← hqq]
  generalize hAe : va_A (w_X10_readAll cy a0 a1 gvr_0 gr_0 gtx_0 gv_1 gd_1 gc_1) s.heap.size = A at hD hqq hX ⊢
  have hA : ∀ q : Nat, s.heap.size ≤ q → A q := fun q h => by rw [← hAe]; exact Or.inr h
  have hS : va_S A s.heap s.heap [] := va_S.rf
  have hl := lv_entry ([.ref (a0 0), .int x1, .ref (a1 0)]) (n := 4) (Nat.le_of_ble_eq_true rfl)
  have hE : entryFrame m aa 4 = F0 m 0 ((lg_sl ([.ref (a0 0), .int x1, .ref (a1 0)]) ++ List.replicate (4 - (lg_sl ([.ref (a0 0), .int x1, .ref (a1 0)])).length) Slot.unset).toArray) [] := by rw [haa]; exact lg_entry_eq m _ 4
  refine W.eq hE ?_
  generalize (lg_sl ([.ref (a0 0), .int x1, .ref (a1 0)]) ++ List.replicate (4 - (lg_sl ([.ref (a0 0), .int x1, .ref (a1 0)])).length) Slot.unset).toArray = ls at hl ⊢
  have hl : lv_has ls 4 [(0, .ref (a0 0)), (1, .int x1), (2, .ref (a1 0))] := hl
  change W p l e rm_X10_readAll s m aa below meth c s.heap [] 0 0 (MQ below qq aa s 0 0 A) (F0 m 0 ls [])
  have hS0 := hS
  have lk0 := hts (.fieldLink RX10 46 "GoatDoors$Village" "base" "I") (by decide +kernel)
  have lk1 := hts (.fieldLink RX10 9 "GoatDoors$VillageReader" "reader" "LGoatDoors$Reader;") (by decide +kernel)
  have lk2 := hts (.fieldLink RX10 20 "GoatDoors$VillageReader" "lawIsTold" "Z") (by decide +kernel)
  have lk3 := hts (.fieldLink RX10 24 "GoatDoors$VillageReader" "doorsTold" "I") (by decide +kernel)
  have in_X9 : ∀ w ∈ wsX90, w ∈ wsX10_readAll := by decide +kernel
  have in_X10 : ∀ w ∈ wsX100, w ∈ wsX10_readAll := by decide +kernel
  have c57 : ∀ (_u : Unit), ∀ (gvr_0 : Int32 × Int32) (gr_0 : Int32 × Int32 × Int32 × Int32 × Int32 × Int32 × Int32 × Int32 × Int32) (gv_1 : Int32 × Int32 × (Nat → Int32) × (Nat → Int32) × (Nat → Int32) × (Nat → Int32) × (Nat → Int32)) (gd_1 : Int32 × Int32 × (Nat → Int32) × (Nat → Int32) × (Nat → Int32) × (Nat → Int32)) (gc_1 : Int32 × (Nat → Int32) × (Nat → Int32) × (Nat → Int32)) (H : Heap) (locs : List Loc) (ls : Array Slot), p_X10_readAll_57 gtx_0 gvr_0 gr_0 gv_1 gd_1 gc_1 = some R0 → va_P (dC, dI) vwCl (w_X10_readAll cy a0 a1 gvr_0 gr_0 gtx_0 gv_1 gd_1 gc_1) H → va_D A (w_X10_readAll cy a0 a1 gvr_0 gr_0 gtx_0 gv_1 gd_1 gc_1) → va_S A s.heap H locs → lv_has ls 4 [(2, .ref (a1 0))] → W p l e rm_X10_readAll s m aa below meth c H locs 0 0 (MQ below qq aa s 0 0 A) (F0 m 57 ls []) := by
    intro _ gvr_0 gr_0 gv_1 gd_1 gc_1 H locs ls h hP hD hS hl
    unfold p_X10_readAll_57 at h
    refine lv_aload_n hx hb dX10_readAll_57 rfl (lv_at hl 0 rfl) ?_
    refine lv_aload_n hx hb dX10_readAll_58 rfl (lv_at hl 0 rfl) ?_
    obtain ⟨v1, hv2, h⟩ := ok_bind h
    refine cl_vi (w2 := fun (_ : Unit) => w_X10_readAll cy a0 a1 gvr_0 gr_0 gtx_0 gv_1 gd_1 gc_1) (As := []) (rest := [.ref (a1 0)]) ⟨hx, hb, hml, hown, hts⟩ (c_X9_allGoats l dC dI cy a1 gv_1 H.size v1 hv2) (cwV 0 hts gX10_readAll_X9_allGoats rfl rfl rfl (by decide +kernel) ⟨Nat.le_of_ble_eq_true rfl, Nat.le_of_ble_eq_true rfl⟩) (va_recv hK hP (ci := 7) (q0 := 3) rfl rfl) cl_blind (cl_pre hK hP hD [3, 13, 14, 15, 16, 17] (by decide) rfl) hP hD hS hA [3, 13, 14, 15, 16, 17] rfl rfl hl.1 rfl (lv_room (Nat.le_of_ble_eq_true rfl)) dX10_readAll_59 ⟨Nat.le_of_ble_eq_true rfl, Nat.le_of_ble_eq_true rfl⟩ ⟨rfl, rfl⟩ (fun _ => updR [3, 13, 14, 15, 16, 17] rfl) (fun r u H locs hw hP hD hS => ?_)
    have hw := hw.symm
    subst hw
    have hP : va_P (dC, dI) vwCl (w_X10_readAll cy a0 a1 gvr_0 gr_0 gtx_0 gv_1 gd_1 gc_1) H := hP
    have hD : va_D A (w_X10_readAll cy a0 a1 gvr_0 gr_0 gtx_0 gv_1 gd_1 gc_1) := hD
    refine va_put (D := (dC, dI)) (ci := 7) (v := .int v1) (ty := .int) (C := RX9) (T := TX9) (N := 9) hx hb hts in_X9 tyX9 tyX9_ok nmX9 hown hK hP hD hS 3 rfl rfl 1 (by decide) lk0 (fun _ h9 => h9) rfl (by decide +kernel) rfl rfl (Nat.le_of_ble_eq_true rfl) dX10_readAll_62 (fun H locs hP hD hS => ?_)
    have hP : va_P (dC, dI) vwCl (w_X10_readAll cy a0 a1 gvr_0 gr_0 gtx_0 ((gv_1.1, v1, gv_1.2.2)) gd_1 gc_1) H := hP
    have hD : va_D A (w_X10_readAll cy a0 a1 gvr_0 gr_0 gtx_0 ((gv_1.1, v1, gv_1.2.2)) gd_1 gc_1) := hD
    refine lv_iconst (v := (1 : Int32)) hx hb dX10_readAll_65 (by decide) ?_
    exact W.zret (v := (1 : Int32)) (ty := .boolean) hx hb hr rfl (fun t ht hW => by rw [hqq]; have hh := Option.some.inj h; exact ⟨⟨(1 : Int32), ((gvr_0, gr_0, (gv_1.1, v1, gv_1.2.2), gd_1, gc_1)), rfl, ⟨fst_of hh, snd_of hh⟩, by rw [ht]; exact hP, va_K.moved hW.alike hK⟩, hS.F ht⟩) hS.2.2 dX10_readAll_66
  have c24 : ∀ (n : Nat), ∀ (gvr_0 : Int32 × Int32) (gr_0 : Int32 × Int32 × Int32 × Int32 × Int32 × Int32 × Int32 × Int32 × Int32) (gv_1 : Int32 × Int32 × (Nat → Int32) × (Nat → Int32) × (Nat → Int32) × (Nat → Int32) × (Nat → Int32)) (gd_1 : Int32 × Int32 × (Nat → Int32) × (Nat → Int32) × (Nat → Int32) × (Nat → Int32)) (gc_1 : Int32 × (Nat → Int32) × (Nat → Int32) × (Nat → Int32)) (x3 : Int32) (H : Heap) (locs : List Loc) (ls : Array Slot), p_X10_readAll_24 gtx_0 n gvr_0 gr_0 gv_1 gd_1 gc_1 x3 = some R0 → va_P (dC, dI) vwCl (w_X10_readAll cy a0 a1 gvr_0 gr_0 gtx_0 gv_1 gd_1 gc_1) H → va_D A (w_X10_readAll cy a0 a1 gvr_0 gr_0 gtx_0 gv_1 gd_1 gc_1) → va_S A s.heap H locs → lv_has ls 4 [(0, .ref (a0 0)), (2, .ref (a1 0)), (3, .int x3)] → W p l e rm_X10_readAll s m aa below meth c H locs 0 0 (MQ below qq aa s 0 0 A) (F0 m 24 ls []) := by
    intro  n
    induction n with
    | zero => intro gvr_0 gr_0 gv_1 gd_1 gc_1 x3 H locs ls h; exact no_some h
    | succ n ih =>
      intro gvr_0 gr_0 gv_1 gd_1 gc_1 x3 H locs ls h hP hD hS hl
      rw [p_X10_readAll_24.eq_2] at h
      refine lv_iload_n hx hb dX10_readAll_24 rfl (lv_at hl 2 rfl) ?_
      refine lv_sipush (v := (600 : Int32)) hx hb dX10_readAll_25 (by decide) ?_
      refine lv_icmp_ge (tgt := 57) hx hb dX10_readAll_28 (by decide) (fun c1 => ?_) (fun c1 => ?_)
      · rw [if_pos c1] at h
        exact c57 () gvr_0 gr_0 gv_1 gd_1 gc_1 H locs ls h hP hD hS (lv_sub hl [1] rfl)
      · rw [if_neg c1] at h
        refine lv_aload_n hx hb dX10_readAll_31 rfl (lv_at hl 0 rfl) ?_
        refine va_get (D := (dC, dI)) (ci := 8) (v := .ref (a0 1)) (C := RX10) (T := TX10) (N := 3) hx hb hts in_X10 hown hK hP 0 rfl rfl 0 (by decide) lk1 (fun _ h9 => h9) rfl dX10_readAll_32 ?_
        obtain ⟨v2, hv3, h⟩ := ok_bind h
        refine cl_vi (w2 := fun (_ : Unit) => w_X10_readAll cy a0 a1 gvr_0 gr_0 gtx_0 gv_1 gd_1 gc_1) (As := []) (rest := []) ⟨hx, hb, hml, hown, hts⟩ (c_X7_hasMore l dC dI cy (fun k => a0 (k + 1)) gr_0 H.size v2 hv3) (cwV 0 hts gX10_readAll_X7_hasMore rfl rfl rfl (by decide +kernel) ⟨Nat.le_of_ble_eq_true rfl, Nat.le_of_ble_eq_true rfl⟩) (va_recv hK hP (ci := 5) (q0 := 1) rfl rfl) cl_blind (cl_pre hK hP hD [1] (by decide) rfl) hP hD hS hA [1] rfl rfl hl.1 rfl (lv_room (Nat.le_of_ble_eq_true rfl)) dX10_readAll_35 ⟨Nat.le_of_ble_eq_true rfl, Nat.le_of_ble_eq_true rfl⟩ ⟨rfl, rfl⟩ (fun _ => updR [1] rfl) (fun r u H locs hw hP hD hS => ?_)
        have hw := hw.symm
        subst hw
        have hP : va_P (dC, dI) vwCl (w_X10_readAll cy a0 a1 gvr_0 gr_0 gtx_0 gv_1 gd_1 gc_1) H := hP
        have hD : va_D A (w_X10_readAll cy a0 a1 gvr_0 gr_0 gtx_0 gv_1 gd_1 gc_1) := hD
        refine lv_if_eq (tgt := 57) hx hb dX10_readAll_38 (by decide) (fun c4 => ?_) (fun c4 => ?_)
        · rw [if_pos c4] at h
          exact c57 () gvr_0 gr_0 gv_1 gd_1 gc_1 H locs ls h hP hD hS (lv_sub hl [1] rfl)
        · rw [if_neg c4] at h
          refine lv_aload_n hx hb dX10_readAll_41 rfl (lv_at hl 0 rfl) ?_
          refine lv_aload_n hx hb dX10_readAll_42 rfl (lv_at hl 1 rfl) ?_
          obtain ⟨v5, hv6, h⟩ := ok_bind h
          refine cl_vi (w2 := fun (u : (Int32 × Int32) × (Int32 × Int32 × Int32 × Int32 × Int32 × Int32 × Int32 × Int32 × Int32) × (Int32 × Int32 × (Nat → Int32) × (Nat → Int32) × (Nat → Int32) × (Nat → Int32) × (Nat → Int32)) × (Int32 × Int32 × (Nat → Int32) × (Nat → Int32) × (Nat → Int32) × (Nat → Int32))) => w_X10_readAll cy a0 a1 u.1 u.2.1 gtx_0 u.2.2.1 u.2.2.2 gc_1) (As := [.ref (a1 0)]) (rest := []) ⟨hx, hb, hml, hown, hts⟩ (c_X10_readLine l dC dI cy z a0 a1 gvr_0 gr_0 gtx_0 gv_1 gd_1 H.size v5 hv6) (cwV 1 hts gX10_readAll_X10_readLine rfl rfl rfl (by decide +kernel) ⟨Nat.le_of_ble_eq_true rfl, Nat.le_of_ble_eq_true rfl⟩) (va_recv hK hP (ci := 8) (q0 := 0) rfl rfl) cl_blindS (cl_preS hK hP hD hS hA hX [0, 1, 2, 3, 4, 5, 6, 7, 8, 13, 14, 15, 16, 17] (by decide) rfl) hP hD hS hA [0, 1, 2, 3, 4, 5, 6, 7, 8, 13, 14, 15, 16, 17] rfl rfl hl.1 rfl (lv_room (Nat.le_of_ble_eq_true rfl)) dX10_readAll_43 ⟨Nat.le_of_ble_eq_true rfl, Nat.le_of_ble_eq_true rfl⟩ ⟨rfl, rfl⟩ (fun _ => updM [0, 1, 2, 3, 4, 5, 6, 7, 8, 13, 14, 15, 16, 17] [9, 10, 11, 12] [(a1 6, .inr (6, [.int (gc_1.1), .ref (a1 7), .ref (a1 8), .ref (a1 9)])), (a1 7, .inl (cy 1, 12, .inl (gc_1.2.1))), (a1 8, .inl (cy 1, 12, .inl (gc_1.2.2.1))), (a1 9, .inl (cy 1, 12, .inl (gc_1.2.2.2)))] 18 rfl rfl rfl rfl rfl (by decide +kernel) (by decide +kernel) rfl) (fun r u H locs hw hP hD hS => ?_)
          obtain ⟨rfl, rfl⟩ := hw
          have hP : va_P (dC, dI) vwCl (w_X10_readAll cy a0 a1 v5.2.1 v5.2.2.1 gtx_0 v5.2.2.2.1 v5.2.2.2.2 gc_1) H := hP
          have hD : va_D A (w_X10_readAll cy a0 a1 v5.2.1 v5.2.2.1 gtx_0 v5.2.2.2.1 v5.2.2.2.2 gc_1) := hD
          refine lv_if_ne (tgt := 51) hx hb dX10_readAll_46 (by decide) (fun c7 => ?_) (fun c7 => ?_)
          · rw [if_neg c7] at h
            refine lv_iinc (v := (x3 + (1 : Int32))) (lv' := [(3, .int (x3 + (1 : Int32))), (0, .ref (a0 0)), (2, .ref (a1 0))]) hx hb dX10_readAll_51 hl (k := 2) rfl rfl (by decide) rfl (fun ls hl => ?_)
            refine lv_goto (tgt := 24) hx hb dX10_readAll_54 (by decide) ?_
            exact ih v5.2.1 v5.2.2.1 v5.2.2.2.1 v5.2.2.2.2 gc_1 (x3 + (1 : Int32)) H locs ls h hP hD hS (lv_sub hl [1, 2, 0] rfl)
          · rw [if_pos c7] at h
            refine lv_iconst (v := (0 : Int32)) hx hb dX10_readAll_49 (by decide) ?_
            exact W.zret (v := (0 : Int32)) (ty := .boolean) hx hb hr rfl (fun t ht hW => by rw [hqq]; have hh := Option.some.inj h; exact ⟨⟨(0 : Int32), ((v5.2.1, v5.2.2.1, v5.2.2.2.1, v5.2.2.2.2, gc_1)), rfl, ⟨fst_of hh, snd_of hh⟩, by rw [ht]; exact hP, va_K.moved hW.alike hK⟩, hS.F ht⟩) hS.2.2 dX10_readAll_50
  obtain ⟨H, hH⟩ : ∃ H : Heap, H = s.heap := ⟨_, rfl⟩
  obtain ⟨locs, hlocs⟩ : ∃ locs : List Loc, locs = [] := ⟨_, rfl⟩
  have hS : va_S A s.heap H locs := by rw [hH, hlocs]; exact hS
  rw [← hH] at hP
  suffices hg : W p l e rm_X10_readAll s m aa below meth c H locs 0 0 (MQ below qq aa s 0 0 A) (F0 m 0 ls []) by subst hH; subst hlocs; exact hg
  unfold p_X10_readAll at h
  refine lv_aload_n hx hb dX10_readAll_0 rfl (lv_at hl 2 rfl) ?_
  obtain ⟨v1, hv2, h⟩ := ok_bind h
  refine cl_vv (w2 := fun (u : (Int32 × Int32 × (Nat → Int32) × (Nat → Int32) × (Nat → Int32) × (Nat → Int32) × (Nat → Int32)) × (Int32 × Int32 × (Nat → Int32) × (Nat → Int32) × (Nat → Int32) × (Nat → Int32)) × (Int32 × (Nat → Int32) × (Nat → Int32) × (Nat → Int32))) => w_X10_readAll cy a0 a1 gvr_0 gr_0 gtx_0 u.1 u.2.1 u.2.2) (As := []) (rest := []) ⟨hx, hb, hml, hown, hts⟩ (c_X9_empty l dC dI cy a1 gv_1 gd_1 gc_1 H.size v1 hv2) (cwV 0 hts gX10_readAll_X9_empty rfl rfl rfl (by decide +kernel) ⟨Nat.le_of_ble_eq_true rfl, Nat.le_of_ble_eq_true rfl⟩) (va_recv hK hP (ci := 7) (q0 := 3) rfl rfl) cl_blind (cl_pre hK hP hD [3, 4, 5, 6, 7, 8, 9, 10, 11, 12, 13, 14, 15, 16, 17] (by decide) rfl) hP hD hS hA [3, 4, 5, 6, 7, 8, 9, 10, 11, 12, 13, 14, 15, 16, 17] rfl rfl hl.1 rfl (lv_room (Nat.le_of_ble_eq_true rfl)) dX10_readAll_1 ⟨Nat.le_of_ble_eq_true rfl, Nat.le_of_ble_eq_true rfl⟩ ⟨rfl, rfl⟩ (fun _ => updM [3, 4, 5, 6, 7, 8, 9, 10, 11, 12, 13, 14, 15, 16, 17] [0, 1, 2] [(a0 0, .inr (8, [.ref (a0 1), .int (gvr_0.1), .int (gvr_0.2)])), (a0 1, .inr (5, [.ref (a0 2), .int (gr_0.1), .int (gr_0.2.1), .int (gr_0.2.2.1), .int (gr_0.2.2.2.1), .int (gr_0.2.2.2.2.1), .int (gr_0.2.2.2.2.2.1), .int (gr_0.2.2.2.2.2.2.1), .int (gr_0.2.2.2.2.2.2.2.1), .int (gr_0.2.2.2.2.2.2.2.2)])), (a0 2, .inl (cy 0, 600, .inl (gtx_0)))] 18 rfl rfl rfl rfl rfl (by decide +kernel) (by decide +kernel) rfl) (fun u H locs hw hP hD hS => ?_)
  have hw := hw.symm
  subst hw
  have hP : va_P (dC, dI) vwCl (w_X10_readAll cy a0 a1 gvr_0 gr_0 gtx_0 v1.1 v1.2.1 v1.2.2) H := hP
  have hD : va_D A (w_X10_readAll cy a0 a1 gvr_0 gr_0 gtx_0 v1.1 v1.2.1 v1.2.2) := hD
  refine lv_aload_n hx hb dX10_readAll_4 rfl (lv_at hl 0 rfl) ?_
  refine lv_iconst (v := (0 : Int32)) hx hb dX10_readAll_5 (by decide) ?_
  refine va_put (D := (dC, dI)) (ci := 8) (v := .int (0 : Int32)) (ty := .boolean) (C := RX10) (T := TX10) (N := 3) hx hb hts in_X10 tyX10 tyX10_ok nmX10 hown hK hP hD hS 0 rfl rfl 1 (by decide) lk2 (fun _ h9 => h9) rfl (by decide +kernel) rfl rfl (Nat.le_of_ble_eq_true rfl) dX10_readAll_6 (fun H locs hP hD hS => ?_)
  have hP : va_P (dC, dI) vwCl (w_X10_readAll cy a0 a1 (((0 : Int32), gvr_0.2)) gr_0 gtx_0 v1.1 v1.2.1 v1.2.2) H := hP
  have hD : va_D A (w_X10_readAll cy a0 a1 (((0 : Int32), gvr_0.2)) gr_0 gtx_0 v1.1 v1.2.1 v1.2.2) := hD
  refine lv_aload_n hx hb dX10_readAll_9 rfl (lv_at hl 0 rfl) ?_
  refine lv_iconst (v := (0 : Int32)) hx hb dX10_readAll_10 (by decide) ?_
  refine va_put (D := (dC, dI)) (ci := 8) (v := .int (0 : Int32)) (ty := .int) (C := RX10) (T := TX10) (N := 3) hx hb hts in_X10 tyX10 tyX10_ok nmX10 hown hK hP hD hS 0 rfl rfl 2 (by decide) lk3 (fun _ h9 => h9) rfl (by decide +kernel) rfl rfl (Nat.le_of_ble_eq_true rfl) dX10_readAll_11 (fun H locs hP hD hS => ?_)
  have hP : va_P (dC, dI) vwCl (w_X10_readAll cy a0 a1 (((0 : Int32), (0 : Int32))) gr_0 gtx_0 v1.1 v1.2.1 v1.2.2) H := hP
  have hD : va_D A (w_X10_readAll cy a0 a1 (((0 : Int32), (0 : Int32))) gr_0 gtx_0 v1.1 v1.2.1 v1.2.2) := hD
  refine lv_aload_n hx hb dX10_readAll_14 rfl (lv_at hl 0 rfl) ?_
  refine va_get (D := (dC, dI)) (ci := 8) (v := .ref (a0 1)) (C := RX10) (T := TX10) (N := 3) hx hb hts in_X10 hown hK hP 0 rfl rfl 0 (by decide) lk1 (fun _ h9 => h9) rfl dX10_readAll_15 ?_
  refine lv_iload_n hx hb dX10_readAll_18 rfl (lv_at hl 1 rfl) ?_
  obtain ⟨v3, hv4, h⟩ := ok_bind h
  refine cl_vv (w2 := fun (u : (Int32 × Int32 × Int32 × Int32 × Int32 × Int32 × Int32 × Int32 × Int32)) => w_X10_readAll cy a0 a1 (((0 : Int32), (0 : Int32))) u gtx_0 v1.1 v1.2.1 v1.2.2) (As := [.int x1]) (rest := []) ⟨hx, hb, hml, hown, hts⟩ (c_X7_open l dC dI cy (fun k => a0 (k + 1)) gr_0 gtx_0 x1 H.size v3 hv4) (cwV 1 hts gX10_readAll_X7_open rfl rfl rfl (by decide +kernel) ⟨Nat.le_of_ble_eq_true rfl, Nat.le_of_ble_eq_true rfl⟩) (va_recv hK hP (ci := 5) (q0 := 1) rfl rfl) cl_blind (cl_pre hK hP hD [1, 2] (by decide) rfl) hP hD hS hA [1, 2] rfl rfl hl.1 rfl (lv_room (Nat.le_of_ble_eq_true rfl)) dX10_readAll_19 ⟨Nat.le_of_ble_eq_true rfl, Nat.le_of_ble_eq_true rfl⟩ ⟨rfl, rfl⟩ (fun _ => updM [1, 2] [0, 3, 4, 5, 6, 7, 8, 9, 10, 11, 12, 13, 14, 15, 16, 17] [(a0 0, .inr (8, [.ref (a0 1), .int ((0 : Int32)), .int ((0 : Int32))])), (a1 0, .inr (7, [.int (v1.1.1), .int (v1.1.2.1), .ref (a1 1), .ref (a1 6), .ref (a1 10), .ref (a1 11), .ref (a1 12), .ref (a1 13), .ref (a1 14)])), (a1 1, .inr (2, [.int (v1.2.1.1), .int (v1.2.1.2.1), .ref (a1 2), .ref (a1 3), .ref (a1 4), .ref (a1 5)])), (a1 2, .inl (cy 1, 10, .inl (v1.2.1.2.2.1))), (a1 3, .inl (cy 1, 10, .inl (v1.2.1.2.2.2.1))), (a1 4, .inl (cy 1, 10, .inl (v1.2.1.2.2.2.2.1))), (a1 5, .inl (cy 1, 50, .inl (v1.2.1.2.2.2.2.2))), (a1 6, .inr (6, [.int (v1.2.2.1), .ref (a1 7), .ref (a1 8), .ref (a1 9)])), (a1 7, .inl (cy 1, 12, .inl (v1.2.2.2.1))), (a1 8, .inl (cy 1, 12, .inl (v1.2.2.2.2.1))), (a1 9, .inl (cy 1, 12, .inl (v1.2.2.2.2.2))), (a1 10, .inl (cy 1, 5, .inl (v1.1.2.2.1))), (a1 11, .inl (cy 1, 5, .inl (v1.1.2.2.2.1))), (a1 12, .inl (cy 1, 5, .inl (v1.1.2.2.2.2.1))), (a1 13, .inl (cy 1, 5, .inl (v1.1.2.2.2.2.2.1))), (a1 14, .inl (cy 1, 5, .inl (v1.1.2.2.2.2.2.2)))] 18 rfl rfl rfl rfl rfl (by decide +kernel) (by decide +kernel) rfl) (fun u H locs hw hP hD hS => ?_)
  have hw := hw.symm
  subst hw
  have hP : va_P (dC, dI) vwCl (w_X10_readAll cy a0 a1 (((0 : Int32), (0 : Int32))) v3 gtx_0 v1.1 v1.2.1 v1.2.2) H := hP
  have hD : va_D A (w_X10_readAll cy a0 a1 (((0 : Int32), (0 : Int32))) v3 gtx_0 v1.1 v1.2.1 v1.2.2) := hD
  refine lv_iconst (v := (0 : Int32)) hx hb dX10_readAll_22 (by decide) ?_
  refine lv_istore_n (lv' := [(3, .int (0 : Int32)), (0, .ref (a0 0)), (1, .int x1), (2, .ref (a1 0))]) hx hb dX10_readAll_23 rfl hl (by decide) rfl (fun ls hl => ?_)
  exact c24 fu ((0 : Int32), (0 : Int32)) v3 v1.1 v1.2.1 v1.2.2 (0 : Int32) H locs ls h hP hD hS (lv_sub hl [1, 3, 0] rfl)
