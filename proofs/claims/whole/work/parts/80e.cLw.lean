abbrev w_L_hedge (cy : Nat → ClassId) (a0 : Nat → Nat) (b0 : Nat) (gg : Int32 × Int32 × Int32 × Int32 × Int32 × Int32) (gvn : Int32 × Int32 × (Nat → Int32) × (Nat → Int32) × (Nat → Int32) × (Nat → Int32) × (Nat → Int32)) (gdn : Int32 × Int32 × (Nat → Int32) × (Nat → Int32) × (Nat → Int32) × (Nat → Int32)) (gne : (Nat → Nat → Int32) × (Nat → Nat → Int64)) (o : Nat → Int64) : va_W := [(a0 0, .inr (10, [.ref (a0 1), .int (gg.1), .int (gg.2.1), .int (gg.2.2.1), .int (gg.2.2.2.1), .int (gg.2.2.2.2.1), .ref (a0 2), .ref (a0 17), .ref (a0 32), .int (gg.2.2.2.2.2), .ref (a0 47), .ref (a0 48), .ref (a0 49), .ref (a0 50), .ref (a0 68), .ref (a0 78), .ref (a0 80)])), (a0 2, .inr (7, [.int (gvn.1), .int (gvn.2.1), .ref (a0 3), .ref (a0 8), .ref (a0 12), .ref (a0 13), .ref (a0 14), .ref (a0 15), .ref (a0 16)])), (a0 3, .inr (2, [.int (gdn.1), .int (gdn.2.1), .ref (a0 4), .ref (a0 5), .ref (a0 6), .ref (a0 7)])), (a0 4, .inl (cy 1, 10, .inl (gdn.2.2.1))), (a0 5, .inl (cy 1, 10, .inl (gdn.2.2.2.1))), (a0 6, .inl (cy 1, 10, .inl (gdn.2.2.2.2.1))), (a0 7, .inl (cy 1, 50, .inl (gdn.2.2.2.2.2))), (a0 12, .inl (cy 1, 5, .inl (gvn.2.2.1))), (a0 13, .inl (cy 1, 5, .inl (gvn.2.2.2.1))), (a0 14, .inl (cy 1, 5, .inl (gvn.2.2.2.2.1))), (a0 15, .inl (cy 1, 5, .inl (gvn.2.2.2.2.2.1))), (a0 16, .inl (cy 1, 5, .inl (gvn.2.2.2.2.2.2))), (a0 50, .inr (4, [.ref (a0 51), .ref (a0 62)])), (a0 51, .inl (cy 3, 10, .inr (.inr (.inr (.inr (fun i => some ([a0 52, a0 53, a0 54, a0 55, a0 56, a0 57, a0 58, a0 59, a0 60, a0 61].getD i 0))))))), (a0 52, .inl (cy 1, 41, .inl (gne.1 0))), (a0 53, .inl (cy 1, 41, .inl (gne.1 1))), (a0 54, .inl (cy 1, 41, .inl (gne.1 2))), (a0 55, .inl (cy 1, 41, .inl (gne.1 3))), (a0 56, .inl (cy 1, 41, .inl (gne.1 4))), (a0 57, .inl (cy 1, 41, .inl (gne.1 5))), (a0 58, .inl (cy 1, 41, .inl (gne.1 6))), (a0 59, .inl (cy 1, 41, .inl (gne.1 7))), (a0 60, .inl (cy 1, 41, .inl (gne.1 8))), (a0 61, .inl (cy 1, 41, .inl (gne.1 9))), (a0 62, .inl (cy 4, 5, .inr (.inr (.inr (.inr (fun i => some ([a0 63, a0 64, a0 65, a0 66, a0 67].getD i 0))))))), (a0 63, .inl (cy 2, 41, .inr (.inl (gne.2 0)))), (a0 64, .inl (cy 2, 41, .inr (.inl (gne.2 1)))), (a0 65, .inl (cy 2, 41, .inr (.inl (gne.2 2)))), (a0 66, .inl (cy 2, 41, .inr (.inl (gne.2 3)))), (a0 67, .inl (cy 2, 41, .inr (.inl (gne.2 4)))), (b0, .inl (cy 2, 1, .inr (.inl (o))))]
abbrev rm_L_hedge : Room := { frames := 8, cells := 2, slots := 12, locals := 144 }
def p_L_hedge (gvn : Int32 × Int32 × (Nat → Int32) × (Nat → Int32) × (Nat → Int32) × (Nat → Int32) × (Nat → Int32)) (gdn : Int32 × Int32 × (Nat → Int32) × (Nat → Int32) × (Nat → Int32) × (Nat → Int32)) (gne : (Nat → Nat → Int32) × (Nat → Nat → Int64)) (x1 : Int32) (x2 : Int32) (x3 : Int32) (x4 : Int32) (o : Nat → Int64) : Option (Int32 × (((Nat → Nat → Int32) × (Nat → Nat → Int64))) × (Nat → Int64)) := ((p_X12_hedge gvn gdn gne x1 x2 x3 x4).bind fun v => xb v.1 (fun r => some ((0 : Int32), v.2, vp_updL o (0 : Int32).toNatClampNeg r.toInt64)) (fun k => if k = 1 then some ((1 : Int32), v.2, o) else if k = 2 then some ((2 : Int32), v.2, o) else none))
set_option maxHeartbeats 1000000 in
set_option maxRecDepth 100000 in
theorem c_L_hedge (l : Launch) (dC : Nat → ClassId) (dI : Nat → Nat → Nat) (cy : Nat → ClassId) (z : Nat → Nat) (hl9 : l.stackTraces = false) (a0 : Nat → Nat) (b0 : Nat) (gg : Int32 × Int32 × Int32 × Int32 × Int32 × Int32) (gvn : Int32 × Int32 × (Nat → Int32) × (Nat → Int32) × (Nat → Int32) × (Nat → Int32) × (Nat → Int32)) (gdn : Int32 × Int32 × (Nat → Int32) × (Nat → Int32) × (Nat → Int32) × (Nat → Int32)) (gne : (Nat → Nat → Int32) × (Nat → Nat → Int64)) (x1 : Int32) (x2 : Int32) (x3 : Int32) (x4 : Int32) (o : Nat → Int64) (sz : Nat) (R0 : Int32 × (((Nat → Nat → Int32) × (Nat → Nat → Int64))) × (Nat → Int64)) (h : p_L_hedge gvn gdn gne x1 x2 x3 x4 o = some R0) : Met l yL_hedge wsL_hedge rm_L_hedge (va_Pc [.ref (a0 0), .int x1, .int x2, .int x3, .int x4, .ref b0] (prL dC dI cy z (w_L_hedge cy a0 b0 gg gvn gdn gne o) sz)) (va_Qi (fun (r : Int32) (u : (((Nat → Nat → Int32) × (Nat → Nat → Int64))) × (Nat → Int64)) => r = R0.1 ∧ u = R0.2) (fun u t => poC dC dI cy (w_L_hedge cy a0 b0 gg gvn gdn u.1 u.2) t) (va_A (w_L_hedge cy a0 b0 gg gvn gdn gne o) sz)) 2 12 (va_A (w_L_hedge cy a0 b0 gg gvn gdn gne o) sz) := by
  refine va_MetW (cc := cL_hedge) (maxL := 7) (ret := (some .int)) (hh := [(0, 14, 17, 21), (0, 14, 21, 13)]) (by decide) rfl ?_
  intro p e s m aa below meth c s₁ B hml hv
  obtain ⟨haa, ⟨⟨hsz, hP, hK, hD0⟩, hX⟩, hN⟩ := hv
  have hx := B.exec
  have hb := B.bytes
  have hr := B.returns
  have hts := atoms_spec (ws := wsL_hedge) B.pre
  have htb : c.exceptionTable.toList = tableOf [(0, 14, 17, 21), (0, 14, 21, 13)] := vx_table (x := yL_hedge) B (hts _ List.mem_cons_self)
  have hown : s.vm.findClass RL = some m.cls := findClass_of_methodNamed B.named
  have hlocks := B.notSynchronized
  subst hsz
  have hD := hD0.self (sz := s.heap.size)
  obtain ⟨qq, hqq⟩ : ∃ qq, qq = (va_Qi (fun (r : Int32) (u : (((Nat → Nat → Int32) × (Nat → Nat → Int64))) × (Nat → Int64)) => r = R0.1 ∧ u = R0.2) (fun u t => poC dC dI cy (w_L_hedge cy a0 b0 gg gvn gdn u.1 u.2) t) (va_A (w_L_hedge cy a0 b0 gg gvn gdn gne o) s.heap.size)) := ⟨_, rfl⟩
  rw [← hqq]
  generalize hAe : va_A (w_L_hedge cy a0 b0 gg gvn gdn gne o) s.heap.size = A at hD hqq hX ⊢
  have hA : ∀ q : Nat, s.heap.size ≤ q → A q := fun q h => by rw [← hAe]; exact Or.inr h
  have hS : va_S A s.heap s.heap [] := va_S.rf
  have hl := lv_entry ([.ref (a0 0), .int x1, .int x2, .int x3, .int x4, .ref b0]) (n := 7) (Nat.le_of_ble_eq_true rfl)
  have hE : entryFrame m aa 7 = F0 m 0 ((lg_sl ([.ref (a0 0), .int x1, .int x2, .int x3, .int x4, .ref b0]) ++ List.replicate (7 - (lg_sl ([.ref (a0 0), .int x1, .int x2, .int x3, .int x4, .ref b0])).length) Slot.unset).toArray) [] := by rw [haa]; exact lg_entry_eq m _ 7
  refine W.eq hE ?_
  generalize (lg_sl ([.ref (a0 0), .int x1, .int x2, .int x3, .int x4, .ref b0]) ++ List.replicate (7 - (lg_sl ([.ref (a0 0), .int x1, .int x2, .int x3, .int x4, .ref b0])).length) Slot.unset).toArray = ls at hl ⊢
  have hl : lv_has ls 7 [(0, .ref (a0 0)), (1, .int x1), (2, .int x2), (3, .int x3), (4, .int x4), (5, .ref b0)] := hl
  change W p l e rm_L_hedge s m aa below meth c s.heap [] 0 0 (MQ below qq aa s 2 12 A) (F0 m 0 ls [])
  have lk21 := hts (.classLink RL 21 "java/util/NoSuchElementException") (by decide +kernel)
  have lk13 := hts (.classLink RL 13 "java/lang/IllegalArgumentException") (by decide +kernel)
  obtain ⟨H, hH⟩ : ∃ H : Heap, H = s.heap := ⟨_, rfl⟩
  obtain ⟨locs, hlocs⟩ : ∃ locs : List Loc, locs = [] := ⟨_, rfl⟩
  have hS : va_S A s.heap H locs := by rw [hH, hlocs]; exact hS
  rw [← hH] at hP
  suffices hg : W p l e rm_L_hedge s m aa below meth c H locs 0 0 (MQ below qq aa s 2 12 A) (F0 m 0 ls []) by subst hH; subst hlocs; exact hg
  unfold p_L_hedge at h
  obtain ⟨v, hv, h⟩ := ok_bind h
  refine lv_aload hx hb dL_hedge_0 (lv_at hl 5 rfl) ?_
  refine lv_iconst (v := (0 : Int32)) hx hb dL_hedge_2 (by decide) ?_
  refine lv_aload_n hx hb dL_hedge_3 rfl (lv_at hl 0 rfl) ?_
  refine lv_iload_n hx hb dL_hedge_4 rfl (lv_at hl 1 rfl) ?_
  refine lv_iload_n hx hb dL_hedge_5 rfl (lv_at hl 2 rfl) ?_
  refine lv_iload_n hx hb dL_hedge_6 rfl (lv_at hl 3 rfl) ?_
  refine lv_iload hx hb dL_hedge_7 (lv_at hl 4 rfl) ?_
  refine cx_vi (w2 := fun (u : ((Nat → Nat → Int32) × (Nat → Nat → Int64))) => w_L_hedge cy a0 b0 gg gvn gdn u o) (w2x := fun (u : ((Nat → Nat → Int32) × (Nat → Nat → Int64))) => w_L_hedge cy a0 b0 gg gvn gdn u o) (As := [.int x1, .int x2, .int x3, .int x4]) (rest := [.int (0 : Int32), .ref b0]) ⟨hx, hb, hml, hown, hts⟩ (c_X12_hedge l dC dI cy z hl9 a0 gg gvn gdn gne x1 x2 x3 x4 H.size v hv) (cwV 4 hts gL_hedge_X12_hedge rfl rfl rfl (by decide +kernel) ⟨Nat.le_of_ble_eq_true rfl, Nat.le_of_ble_eq_true rfl⟩) (va_recv hK hP (ci := 10) (q0 := 0) rfl rfl) cl_blindS (cl_preS hK hP hD hS hA hX [0, 1, 2, 3, 4, 5, 6, 7, 8, 9, 10, 11, 12, 13, 14, 15, 16, 17, 18, 19, 20, 21, 22, 23, 24, 25, 26, 27, 28, 29] (by decide) rfl) hP hD hS hA [0, 1, 2, 3, 4, 5, 6, 7, 8, 9, 10, 11, 12, 13, 14, 15, 16, 17, 18, 19, 20, 21, 22, 23, 24, 25, 26, 27, 28, 29] rfl rfl hl.1 rfl (lv_room (Nat.le_of_ble_eq_true rfl)) dL_hedge_9 ⟨Nat.le_of_ble_eq_true rfl, Nat.le_of_ble_eq_true rfl⟩ (cells' := 2) (slots' := 12) ⟨rfl, rfl⟩ (fun _ => updM [0, 1, 2, 3, 4, 5, 6, 7, 8, 9, 10, 11, 12, 13, 14, 15, 16, 17, 18, 19, 20, 21, 22, 23, 24, 25, 26, 27, 28, 29] [30] [(b0, .inl (cy 2, 1, .inr (.inl (o))))] 31 rfl rfl rfl rfl rfl (by decide +kernel) (by decide +kernel) rfl) (fun _ => updM [0, 1, 2, 3, 4, 5, 6, 7, 8, 9, 10, 11, 12, 13, 14, 15, 16, 17, 18, 19, 20, 21, 22, 23, 24, 25, 26, 27, 28, 29] [30] [(b0, .inl (cy 2, 1, .inr (.inl (o))))] 31 rfl rfl rfl rfl rfl (by decide +kernel) (by decide +kernel) rfl) (fun E ce q9 u H locs hw hE hP hD hS hc1 hc2 hc3 => ?_) (fun r u H locs hw hP hD hS => ?_)
  · subst hw
    have hP : va_P (dC, dI) vwCl (w_L_hedge cy a0 b0 gg gvn gdn v.2 o) H := hP
    have hD : va_D A (w_L_hedge cy a0 b0 gg gvn gdn v.2 o) := hD
    rcases hE with ⟨rfl, hE⟩ | ⟨rfl, hE⟩
    · rw [hE] at h
      dsimp only [xb] at h
      rw [if_pos rfl] at h
      refine vx_catch (name := "java/util/NoSuchElementException") hown [] (⟨0, 14, 17, 21⟩ : ExceptionTableEntry) [(⟨0, 14, 21, 13⟩ : ExceptionTableEntry)] htb (fun z9 hz9 => by cases hz9) rfl (by decide) lk21 (va_Nw.use rfl hX.2.2.2.2.1) hc1 hc2 hc3 ?_
      refine lv_astore (lv' := [(6, .ref q9), (0, .ref (a0 0)), (1, .int x1), (2, .int x2), (3, .int x3), (4, .int x4), (5, .ref b0)]) hx hb dL_hedge_17 hl (by decide) rfl (fun ls hl => ?_)
      refine lv_iconst (v := (1 : Int32)) hx hb dL_hedge_19 (by decide) ?_
      exact W.iret (v := (1 : Int32)) hx hb hr (fun t ht hW => by rw [hqq]; have hh := Option.some.inj h; exact ⟨⟨(1 : Int32), (v.2, o), rfl, ⟨fst_of hh, snd_of hh⟩, by rw [ht]; exact hP, va_K.moved hW.alike hK⟩, hS.F ht⟩) hS.2.2 dL_hedge_20
    · rw [hE] at h
      dsimp only [xb] at h
      rw [if_neg (by decide), if_pos rfl] at h
      refine vx_catch (name := "java/lang/IllegalArgumentException") hown [(⟨0, 14, 17, 21⟩ : ExceptionTableEntry)] (⟨0, 14, 21, 13⟩ : ExceptionTableEntry) [] htb (fun z9 hz9 => by cases List.mem_singleton.mp hz9; exact Or.inr ⟨by decide, "java/util/NoSuchElementException", lk21, hN⟩) rfl (by decide) lk13 (va_Nw.use rfl hX.2.2.2.2.2.1) hc1 hc2 hc3 ?_
      refine lv_astore (lv' := [(6, .ref q9), (0, .ref (a0 0)), (1, .int x1), (2, .int x2), (3, .int x3), (4, .int x4), (5, .ref b0)]) hx hb dL_hedge_21 hl (by decide) rfl (fun ls hl => ?_)
      refine lv_iconst (v := (2 : Int32)) hx hb dL_hedge_23 (by decide) ?_
      exact W.iret (v := (2 : Int32)) hx hb hr (fun t ht hW => by rw [hqq]; have hh := Option.some.inj h; exact ⟨⟨(2 : Int32), (v.2, o), rfl, ⟨fst_of hh, snd_of hh⟩, by rw [ht]; exact hP, va_K.moved hW.alike hK⟩, hS.F ht⟩) hS.2.2 dL_hedge_24
  obtain ⟨hw1, hw2⟩ := hw
  subst hw2
  rw [← hw1] at h
  dsimp only [xb] at h
  have hP : va_P (dC, dI) vwCl (w_L_hedge cy a0 b0 gg gvn gdn v.2 o) H := hP
  have hD : va_D A (w_L_hedge cy a0 b0 gg gvn gdn v.2 o) := hD
  refine lv_i2l hx hb dL_hedge_12 rfl ?_
  refine va_last hx hb hK hP hD hS 30 2 rfl rfl (ix_in (by decide : ix (0 : Int32) 1)) dL_hedge_13 (fun H locs hP hD hS => ?_)
  have hP : va_P (dC, dI) vwCl (w_L_hedge cy a0 b0 gg gvn gdn v.2 (vp_updL o (0 : Int32).toNatClampNeg r.toInt64)) H := hP
  have hD : va_D A (w_L_hedge cy a0 b0 gg gvn gdn v.2 (vp_updL o (0 : Int32).toNatClampNeg r.toInt64)) := hD
  refine lv_goto (tgt := 25) hx hb dL_hedge_14 (by decide) ?_
  refine lv_iconst (v := (0 : Int32)) hx hb dL_hedge_25 (by decide) ?_
  exact W.iret (v := (0 : Int32)) hx hb hr (fun t ht hW => by rw [hqq]; have hh := Option.some.inj h; exact ⟨⟨(0 : Int32), (v.2, vp_updL o (0 : Int32).toNatClampNeg r.toInt64), rfl, ⟨fst_of hh, snd_of hh⟩, by rw [ht]; exact hP, va_K.moved hW.alike hK⟩, hS.F ht⟩) hS.2.2 dL_hedge_26

abbrev w_L_safer (cy : Nat → ClassId) (a0 : Nat → Nat) (b0 : Nat) (gg : Int32 × Int32 × Int32 × Int32 × Int32 × Int32) (gvn : Int32 × Int32 × (Nat → Int32) × (Nat → Int32) × (Nat → Int32) × (Nat → Int32) × (Nat → Int32)) (gdn : Int32 × Int32 × (Nat → Int32) × (Nat → Int32) × (Nat → Int32) × (Nat → Int32)) (gne : (Nat → Nat → Int32) × (Nat → Nat → Int64)) (o : Nat → Int64) : va_W := [(a0 0, .inr (10, [.ref (a0 1), .int (gg.1), .int (gg.2.1), .int (gg.2.2.1), .int (gg.2.2.2.1), .int (gg.2.2.2.2.1), .ref (a0 2), .ref (a0 17), .ref (a0 32), .int (gg.2.2.2.2.2), .ref (a0 47), .ref (a0 48), .ref (a0 49), .ref (a0 50), .ref (a0 68), .ref (a0 78), .ref (a0 80)])), (a0 2, .inr (7, [.int (gvn.1), .int (gvn.2.1), .ref (a0 3), .ref (a0 8), .ref (a0 12), .ref (a0 13), .ref (a0 14), .ref (a0 15), .ref (a0 16)])), (a0 3, .inr (2, [.int (gdn.1), .int (gdn.2.1), .ref (a0 4), .ref (a0 5), .ref (a0 6), .ref (a0 7)])), (a0 4, .inl (cy 1, 10, .inl (gdn.2.2.1))), (a0 5, .inl (cy 1, 10, .inl (gdn.2.2.2.1))), (a0 6, .inl (cy 1, 10, .inl (gdn.2.2.2.2.1))), (a0 7, .inl (cy 1, 50, .inl (gdn.2.2.2.2.2))), (a0 50, .inr (4, [.ref (a0 51), .ref (a0 62)])), (a0 51, .inl (cy 3, 10, .inr (.inr (.inr (.inr (fun i => some ([a0 52, a0 53, a0 54, a0 55, a0 56, a0 57, a0 58, a0 59, a0 60, a0 61].getD i 0))))))), (a0 52, .inl (cy 1, 41, .inl (gne.1 0))), (a0 53, .inl (cy 1, 41, .inl (gne.1 1))), (a0 54, .inl (cy 1, 41, .inl (gne.1 2))), (a0 55, .inl (cy 1, 41, .inl (gne.1 3))), (a0 56, .inl (cy 1, 41, .inl (gne.1 4))), (a0 57, .inl (cy 1, 41, .inl (gne.1 5))), (a0 58, .inl (cy 1, 41, .inl (gne.1 6))), (a0 59, .inl (cy 1, 41, .inl (gne.1 7))), (a0 60, .inl (cy 1, 41, .inl (gne.1 8))), (a0 61, .inl (cy 1, 41, .inl (gne.1 9))), (a0 62, .inl (cy 4, 5, .inr (.inr (.inr (.inr (fun i => some ([a0 63, a0 64, a0 65, a0 66, a0 67].getD i 0))))))), (a0 63, .inl (cy 2, 41, .inr (.inl (gne.2 0)))), (a0 64, .inl (cy 2, 41, .inr (.inl (gne.2 1)))), (a0 65, .inl (cy 2, 41, .inr (.inl (gne.2 2)))), (a0 66, .inl (cy 2, 41, .inr (.inl (gne.2 3)))), (a0 67, .inl (cy 2, 41, .inr (.inl (gne.2 4)))), (b0, .inl (cy 2, 1, .inr (.inl (o))))]
abbrev rm_L_safer : Room := { frames := 8, cells := 2, slots := 12, locals := 201 }
def p_L_safer (gdn : Int32 × Int32 × (Nat → Int32) × (Nat → Int32) × (Nat → Int32) × (Nat → Int32)) (gne : (Nat → Nat → Int32) × (Nat → Nat → Int64)) (x1 : Int32) (x2 : Int32) (x3 : Int32) (o : Nat → Int64) : Option (Int32 × (((Nat → Nat → Int32) × (Nat → Nat → Int64))) × (Nat → Int64)) := ((p_X12_safer gdn gne x1 x2 x3).bind fun v => xb v.1 (fun r => some ((0 : Int32), v.2, vp_updL o (0 : Int32).toNatClampNeg r.toInt64)) (fun k => if k = 1 then some ((1 : Int32), v.2, o) else if k = 2 then some ((2 : Int32), v.2, o) else none))
set_option maxHeartbeats 1000000 in
set_option maxRecDepth 100000 in
theorem c_L_safer (l : Launch) (dC : Nat → ClassId) (dI : Nat → Nat → Nat) (cy : Nat → ClassId) (z : Nat → Nat) (hl9 : l.stackTraces = false) (a0 : Nat → Nat) (b0 : Nat) (gg : Int32 × Int32 × Int32 × Int32 × Int32 × Int32) (gvn : Int32 × Int32 × (Nat → Int32) × (Nat → Int32) × (Nat → Int32) × (Nat → Int32) × (Nat → Int32)) (gdn : Int32 × Int32 × (Nat → Int32) × (Nat → Int32) × (Nat → Int32) × (Nat → Int32)) (gne : (Nat → Nat → Int32) × (Nat → Nat → Int64)) (x1 : Int32) (x2 : Int32) (x3 : Int32) (o : Nat → Int64) (sz : Nat) (R0 : Int32 × (((Nat → Nat → Int32) × (Nat → Nat → Int64))) × (Nat → Int64)) (h : p_L_safer gdn gne x1 x2 x3 o = some R0) : Met l yL_safer wsL_safer rm_L_safer (va_Pc [.ref (a0 0), .int x1, .int x2, .int x3, .ref b0] (prL dC dI cy z (w_L_safer cy a0 b0 gg gvn gdn gne o) sz)) (va_Qi (fun (r : Int32) (u : (((Nat → Nat → Int32) × (Nat → Nat → Int64))) × (Nat → Int64)) => r = R0.1 ∧ u = R0.2) (fun u t => poC dC dI cy (w_L_safer cy a0 b0 gg gvn gdn u.1 u.2) t) (va_A (w_L_safer cy a0 b0 gg gvn gdn gne o) sz)) 2 12 (va_A (w_L_safer cy a0 b0 gg gvn gdn gne o) sz) := by
  refine va_MetW (cc := cL_safer) (maxL := 6) (ret := (some .int)) (hh := [(0, 12, 15, 21), (0, 12, 19, 13)]) (by decide) rfl ?_
  intro p e s m aa below meth c s₁ B hml hv
  obtain ⟨haa, ⟨⟨hsz, hP, hK, hD0⟩, hX⟩, hN⟩ := hv
  have hx := B.exec
  have hb := B.bytes
  have hr := B.returns
  have hts := atoms_spec (ws := wsL_safer) B.pre
  have htb : c.exceptionTable.toList = tableOf [(0, 12, 15, 21), (0, 12, 19, 13)] := vx_table (x := yL_safer) B (hts _ List.mem_cons_self)
  have hown : s.vm.findClass RL = some m.cls := findClass_of_methodNamed B.named
  have hlocks := B.notSynchronized
  subst hsz
  have hD := hD0.self (sz := s.heap.size)
  obtain ⟨qq, hqq⟩ : ∃ qq, qq = (va_Qi (fun (r : Int32) (u : (((Nat → Nat → Int32) × (Nat → Nat → Int64))) × (Nat → Int64)) => r = R0.1 ∧ u = R0.2) (fun u t => poC dC dI cy (w_L_safer cy a0 b0 gg gvn gdn u.1 u.2) t) (va_A (w_L_safer cy a0 b0 gg gvn gdn gne o) s.heap.size)) := ⟨_, rfl⟩
  rw [← hqq]
  generalize hAe : va_A (w_L_safer cy a0 b0 gg gvn gdn gne o) s.heap.size = A at hD hqq hX ⊢
  have hA : ∀ q : Nat, s.heap.size ≤ q → A q := fun q h => by rw [← hAe]; exact Or.inr h
  have hS : va_S A s.heap s.heap [] := va_S.rf
  have hl := lv_entry ([.ref (a0 0), .int x1, .int x2, .int x3, .ref b0]) (n := 6) (Nat.le_of_ble_eq_true rfl)
  have hE : entryFrame m aa 6 = F0 m 0 ((lg_sl ([.ref (a0 0), .int x1, .int x2, .int x3, .ref b0]) ++ List.replicate (6 - (lg_sl ([.ref (a0 0), .int x1, .int x2, .int x3, .ref b0])).length) Slot.unset).toArray) [] := by rw [haa]; exact lg_entry_eq m _ 6
  refine W.eq hE ?_
  generalize (lg_sl ([.ref (a0 0), .int x1, .int x2, .int x3, .ref b0]) ++ List.replicate (6 - (lg_sl ([.ref (a0 0), .int x1, .int x2, .int x3, .ref b0])).length) Slot.unset).toArray = ls at hl ⊢
  have hl : lv_has ls 6 [(0, .ref (a0 0)), (1, .int x1), (2, .int x2), (3, .int x3), (4, .ref b0)] := hl
  change W p l e rm_L_safer s m aa below meth c s.heap [] 0 0 (MQ below qq aa s 2 12 A) (F0 m 0 ls [])
  have lk21 := hts (.classLink RL 21 "java/util/NoSuchElementException") (by decide +kernel)
  have lk13 := hts (.classLink RL 13 "java/lang/IllegalArgumentException") (by decide +kernel)
  obtain ⟨H, hH⟩ : ∃ H : Heap, H = s.heap := ⟨_, rfl⟩
  obtain ⟨locs, hlocs⟩ : ∃ locs : List Loc, locs = [] := ⟨_, rfl⟩
  have hS : va_S A s.heap H locs := by rw [hH, hlocs]; exact hS
  rw [← hH] at hP
  suffices hg : W p l e rm_L_safer s m aa below meth c H locs 0 0 (MQ below qq aa s 2 12 A) (F0 m 0 ls []) by subst hH; subst hlocs; exact hg
  unfold p_L_safer at h
  obtain ⟨v, hv, h⟩ := ok_bind h
  refine lv_aload hx hb dL_safer_0 (lv_at hl 4 rfl) ?_
  refine lv_iconst (v := (0 : Int32)) hx hb dL_safer_2 (by decide) ?_
  refine lv_aload_n hx hb dL_safer_3 rfl (lv_at hl 0 rfl) ?_
  refine lv_iload_n hx hb dL_safer_4 rfl (lv_at hl 1 rfl) ?_
  refine lv_iload_n hx hb dL_safer_5 rfl (lv_at hl 2 rfl) ?_
  refine lv_iload_n hx hb dL_safer_6 rfl (lv_at hl 3 rfl) ?_
  refine cx_vi (w2 := fun (u : ((Nat → Nat → Int32) × (Nat → Nat → Int64))) => w_L_safer cy a0 b0 gg gvn gdn u o) (w2x := fun (u : ((Nat → Nat → Int32) × (Nat → Nat → Int64))) => w_L_safer cy a0 b0 gg gvn gdn u o) (As := [.int x1, .int x2, .int x3]) (rest := [.int (0 : Int32), .ref b0]) ⟨hx, hb, hml, hown, hts⟩ (c_X12_safer l dC dI cy z hl9 a0 gg gvn gdn gne x1 x2 x3 H.size v hv) (cwV 3 hts gL_safer_X12_safer rfl rfl rfl (by decide +kernel) ⟨Nat.le_of_ble_eq_true rfl, Nat.le_of_ble_eq_true rfl⟩) (va_recv hK hP (ci := 10) (q0 := 0) rfl rfl) cl_blindS (cl_preS hK hP hD hS hA hX [0, 1, 2, 3, 4, 5, 6, 7, 8, 9, 10, 11, 12, 13, 14, 15, 16, 17, 18, 19, 20, 21, 22, 23, 24] (by decide) rfl) hP hD hS hA [0, 1, 2, 3, 4, 5, 6, 7, 8, 9, 10, 11, 12, 13, 14, 15, 16, 17, 18, 19, 20, 21, 22, 23, 24] rfl rfl hl.1 rfl (lv_room (Nat.le_of_ble_eq_true rfl)) dL_safer_7 ⟨Nat.le_of_ble_eq_true rfl, Nat.le_of_ble_eq_true rfl⟩ (cells' := 2) (slots' := 12) ⟨rfl, rfl⟩ (fun _ => updM [0, 1, 2, 3, 4, 5, 6, 7, 8, 9, 10, 11, 12, 13, 14, 15, 16, 17, 18, 19, 20, 21, 22, 23, 24] [25] [(b0, .inl (cy 2, 1, .inr (.inl (o))))] 26 rfl rfl rfl rfl rfl (by decide +kernel) (by decide +kernel) rfl) (fun _ => updM [0, 1, 2, 3, 4, 5, 6, 7, 8, 9, 10, 11, 12, 13, 14, 15, 16, 17, 18, 19, 20, 21, 22, 23, 24] [25] [(b0, .inl (cy 2, 1, .inr (.inl (o))))] 26 rfl rfl rfl rfl rfl (by decide +kernel) (by decide +kernel) rfl) (fun E ce q9 u H locs hw hE hP hD hS hc1 hc2 hc3 => ?_) (fun r u H locs hw hP hD hS => ?_)
  · subst hw
    have hP : va_P (dC, dI) vwCl (w_L_safer cy a0 b0 gg gvn gdn v.2 o) H := hP
    have hD : va_D A (w_L_safer cy a0 b0 gg gvn gdn v.2 o) := hD
    rcases hE with ⟨rfl, hE⟩ | ⟨rfl, hE⟩
    · rw [hE] at h
      dsimp only [xb] at h
      rw [if_pos rfl] at h
      refine vx_catch (name := "java/util/NoSuchElementException") hown [] (⟨0, 12, 15, 21⟩ : ExceptionTableEntry) [(⟨0, 12, 19, 13⟩ : ExceptionTableEntry)] htb (fun z9 hz9 => by cases hz9) rfl (by decide) lk21 (va_Nw.use rfl hX.2.2.2.2.1) hc1 hc2 hc3 ?_
      refine lv_astore (lv' := [(5, .ref q9), (0, .ref (a0 0)), (1, .int x1), (2, .int x2), (3, .int x3), (4, .ref b0)]) hx hb dL_safer_15 hl (by decide) rfl (fun ls hl => ?_)
      refine lv_iconst (v := (1 : Int32)) hx hb dL_safer_17 (by decide) ?_
      exact W.iret (v := (1 : Int32)) hx hb hr (fun t ht hW => by rw [hqq]; have hh := Option.some.inj h; exact ⟨⟨(1 : Int32), (v.2, o), rfl, ⟨fst_of hh, snd_of hh⟩, by rw [ht]; exact hP, va_K.moved hW.alike hK⟩, hS.F ht⟩) hS.2.2 dL_safer_18
    · rw [hE] at h
      dsimp only [xb] at h
      rw [if_neg (by decide), if_pos rfl] at h
      refine vx_catch (name := "java/lang/IllegalArgumentException") hown [(⟨0, 12, 15, 21⟩ : ExceptionTableEntry)] (⟨0, 12, 19, 13⟩ : ExceptionTableEntry) [] htb (fun z9 hz9 => by cases List.mem_singleton.mp hz9; exact Or.inr ⟨by decide, "java/util/NoSuchElementException", lk21, hN⟩) rfl (by decide) lk13 (va_Nw.use rfl hX.2.2.2.2.2.1) hc1 hc2 hc3 ?_
      refine lv_astore (lv' := [(5, .ref q9), (0, .ref (a0 0)), (1, .int x1), (2, .int x2), (3, .int x3), (4, .ref b0)]) hx hb dL_safer_19 hl (by decide) rfl (fun ls hl => ?_)
      refine lv_iconst (v := (2 : Int32)) hx hb dL_safer_21 (by decide) ?_
      exact W.iret (v := (2 : Int32)) hx hb hr (fun t ht hW => by rw [hqq]; have hh := Option.some.inj h; exact ⟨⟨(2 : Int32), (v.2, o), rfl, ⟨fst_of hh, snd_of hh⟩, by rw [ht]; exact hP, va_K.moved hW.alike hK⟩, hS.F ht⟩) hS.2.2 dL_safer_22
  obtain ⟨hw1, hw2⟩ := hw
  subst hw2
  rw [← hw1] at h
  dsimp only [xb] at h
  have hP : va_P (dC, dI) vwCl (w_L_safer cy a0 b0 gg gvn gdn v.2 o) H := hP
  have hD : va_D A (w_L_safer cy a0 b0 gg gvn gdn v.2 o) := hD
  refine lv_i2l hx hb dL_safer_10 rfl ?_
  refine va_last hx hb hK hP hD hS 25 2 rfl rfl (ix_in (by decide : ix (0 : Int32) 1)) dL_safer_11 (fun H locs hP hD hS => ?_)
  have hP : va_P (dC, dI) vwCl (w_L_safer cy a0 b0 gg gvn gdn v.2 (vp_updL o (0 : Int32).toNatClampNeg r.toInt64)) H := hP
  have hD : va_D A (w_L_safer cy a0 b0 gg gvn gdn v.2 (vp_updL o (0 : Int32).toNatClampNeg r.toInt64)) := hD
  refine lv_goto (tgt := 23) hx hb dL_safer_12 (by decide) ?_
  refine lv_iconst (v := (0 : Int32)) hx hb dL_safer_23 (by decide) ?_
  exact W.iret (v := (0 : Int32)) hx hb hr (fun t ht hW => by rw [hqq]; have hh := Option.some.inj h; exact ⟨⟨(0 : Int32), (v.2, vp_updL o (0 : Int32).toNatClampNeg r.toInt64), rfl, ⟨fst_of hh, snd_of hh⟩, by rw [ht]; exact hP, va_K.moved hW.alike hK⟩, hS.F ht⟩) hS.2.2 dL_safer_24

abbrev w_L_chalked (cy : Nat → ClassId) (a0 : Nat → Nat) (b0 : Nat) (gg : Int32 × Int32 × Int32 × Int32 × Int32 × Int32) (gvn : Int32 × Int32 × (Nat → Int32) × (Nat → Int32) × (Nat → Int32) × (Nat → Int32) × (Nat → Int32)) (gdn : Int32 × Int32 × (Nat → Int32) × (Nat → Int32) × (Nat → Int32) × (Nat → Int32)) (gcn : Int32 × (Nat → Int32) × (Nat → Int32) × (Nat → Int32)) (o : Nat → Int64) : va_W := [(a0 0, .inr (10, [.ref (a0 1), .int (gg.1), .int (gg.2.1), .int (gg.2.2.1), .int (gg.2.2.2.1), .int (gg.2.2.2.2.1), .ref (a0 2), .ref (a0 17), .ref (a0 32), .int (gg.2.2.2.2.2), .ref (a0 47), .ref (a0 48), .ref (a0 49), .ref (a0 50), .ref (a0 68), .ref (a0 78), .ref (a0 80)])), (a0 2, .inr (7, [.int (gvn.1), .int (gvn.2.1), .ref (a0 3), .ref (a0 8), .ref (a0 12), .ref (a0 13), .ref (a0 14), .ref (a0 15), .ref (a0 16)])), (a0 3, .inr (2, [.int (gdn.1), .int (gdn.2.1), .ref (a0 4), .ref (a0 5), .ref (a0 6), .ref (a0 7)])), (a0 4, .inl (cy 1, 10, .inl (gdn.2.2.1))), (a0 5, .inl (cy 1, 10, .inl (gdn.2.2.2.1))), (a0 6, .inl (cy 1, 10, .inl (gdn.2.2.2.2.1))), (a0 7, .inl (cy 1, 50, .inl (gdn.2.2.2.2.2))), (a0 8, .inr (6, [.int (gcn.1), .ref (a0 9), .ref (a0 10), .ref (a0 11)])), (a0 9, .inl (cy 1, 12, .inl (gcn.2.1))), (a0 10, .inl (cy 1, 12, .inl (gcn.2.2.1))), (a0 11, .inl (cy 1, 12, .inl (gcn.2.2.2))), (b0, .inl (cy 2, 1, .inr (.inl (o))))]
abbrev rm_L_chalked : Room := { frames := 8, cells := 1, slots := 6, locals := 165 }
def p_L_chalked (gdn : Int32 × Int32 × (Nat → Int32) × (Nat → Int32) × (Nat → Int32) × (Nat → Int32)) (gcn : Int32 × (Nat → Int32) × (Nat → Int32) × (Nat → Int32)) (x1 : Int32) (o : Nat → Int64) : Option (Int32 × (Unit) × (Nat → Int64)) := ((p_X12_chalked gdn gcn x1).bind fun v => xb v.1 (fun r => some ((0 : Int32), v.2, vp_updL o (0 : Int32).toNatClampNeg r.toInt64)) (fun k => if k = 1 then some ((1 : Int32), v.2, o) else if k = 2 then none else none))
set_option maxHeartbeats 1000000 in
set_option maxRecDepth 100000 in
theorem c_L_chalked (l : Launch) (dC : Nat → ClassId) (dI : Nat → Nat → Nat) (cy : Nat → ClassId) (z : Nat → Nat) (hl9 : l.stackTraces = false) (a0 : Nat → Nat) (b0 : Nat) (gg : Int32 × Int32 × Int32 × Int32 × Int32 × Int32) (gvn : Int32 × Int32 × (Nat → Int32) × (Nat → Int32) × (Nat → Int32) × (Nat → Int32) × (Nat → Int32)) (gdn : Int32 × Int32 × (Nat → Int32) × (Nat → Int32) × (Nat → Int32) × (Nat → Int32)) (gcn : Int32 × (Nat → Int32) × (Nat → Int32) × (Nat → Int32)) (x1 : Int32) (o : Nat → Int64) (sz : Nat) (R0 : Int32 × (Unit) × (Nat → Int64)) (h : p_L_chalked gdn gcn x1 o = some R0) : Met l yL_chalked wsL_chalked rm_L_chalked (va_Pc [.ref (a0 0), .int x1, .ref b0] (prL dC dI cy z (w_L_chalked cy a0 b0 gg gvn gdn gcn o) sz)) (va_Qi (fun (r : Int32) (u : (Unit) × (Nat → Int64)) => r = R0.1 ∧ u = R0.2) (fun u t => poC dC dI cy (w_L_chalked cy a0 b0 gg gvn gdn gcn u.2) t) (va_A (w_L_chalked cy a0 b0 gg gvn gdn gcn o) sz)) 1 6 (va_A (w_L_chalked cy a0 b0 gg gvn gdn gcn o) sz) := by
  refine va_MetW (cc := cL_chalked) (maxL := 4) (ret := (some .int)) (hh := [(0, 9, 12, 21)]) (by decide) rfl ?_
  intro p e s m aa below meth c s₁ B hml hv
  obtain ⟨haa, ⟨⟨hsz, hP, hK, hD0⟩, hX⟩, hN⟩ := hv
  have hx := B.exec
  have hb := B.bytes
  have hr := B.returns
  have hts := atoms_spec (ws := wsL_chalked) B.pre
  have htb : c.exceptionTable.toList = tableOf [(0, 9, 12, 21)] := vx_table (x := yL_chalked) B (hts _ List.mem_cons_self)
  have hown : s.vm.findClass RL = some m.cls := findClass_of_methodNamed B.named
  have hlocks := B.notSynchronized
  subst hsz
  have hD := hD0.self (sz := s.heap.size)
  obtain ⟨qq, hqq⟩ : ∃ qq, qq = (va_Qi (fun (r : Int32) (u : (Unit) × (Nat → Int64)) => r = R0.1 ∧ u = R0.2) (fun u t => poC dC dI cy (w_L_chalked cy a0 b0 gg gvn gdn gcn u.2) t) (va_A (w_L_chalked cy a0 b0 gg gvn gdn gcn o) s.heap.size)) := ⟨_, rfl⟩
  rw [← hqq]
  generalize hAe : va_A (w_L_chalked cy a0 b0 gg gvn gdn gcn o) s.heap.size = A at hD hqq hX ⊢
  have hA : ∀ q : Nat, s.heap.size ≤ q → A q := fun q h => by rw [← hAe]; exact Or.inr h
  have hS : va_S A s.heap s.heap [] := va_S.rf
  have hl := lv_entry ([.ref (a0 0), .int x1, .ref b0]) (n := 4) (Nat.le_of_ble_eq_true rfl)
  have hE : entryFrame m aa 4 = F0 m 0 ((lg_sl ([.ref (a0 0), .int x1, .ref b0]) ++ List.replicate (4 - (lg_sl ([.ref (a0 0), .int x1, .ref b0])).length) Slot.unset).toArray) [] := by rw [haa]; exact lg_entry_eq m _ 4
  refine W.eq hE ?_
  generalize (lg_sl ([.ref (a0 0), .int x1, .ref b0]) ++ List.replicate (4 - (lg_sl ([.ref (a0 0), .int x1, .ref b0])).length) Slot.unset).toArray = ls at hl ⊢
  have hl : lv_has ls 4 [(0, .ref (a0 0)), (1, .int x1), (2, .ref b0)] := hl
  change W p l e rm_L_chalked s m aa below meth c s.heap [] 0 0 (MQ below qq aa s 1 6 A) (F0 m 0 ls [])
  have lk21 := hts (.classLink RL 21 "java/util/NoSuchElementException") (by decide +kernel)
  obtain ⟨H, hH⟩ : ∃ H : Heap, H = s.heap := ⟨_, rfl⟩
  obtain ⟨locs, hlocs⟩ : ∃ locs : List Loc, locs = [] := ⟨_, rfl⟩
  have hS : va_S A s.heap H locs := by rw [hH, hlocs]; exact hS
  rw [← hH] at hP
  suffices hg : W p l e rm_L_chalked s m aa below meth c H locs 0 0 (MQ below qq aa s 1 6 A) (F0 m 0 ls []) by subst hH; subst hlocs; exact hg
  unfold p_L_chalked at h
  obtain ⟨v, hv, h⟩ := ok_bind h
  refine lv_aload_n hx hb dL_chalked_0 rfl (lv_at hl 2 rfl) ?_
  refine lv_iconst (v := (0 : Int32)) hx hb dL_chalked_1 (by decide) ?_
  refine lv_aload_n hx hb dL_chalked_2 rfl (lv_at hl 0 rfl) ?_
  refine lv_iload_n hx hb dL_chalked_3 rfl (lv_at hl 1 rfl) ?_
  refine cx_vi (w2 := fun (_ : Unit) => w_L_chalked cy a0 b0 gg gvn gdn gcn o) (w2x := fun (_ : Unit) => w_L_chalked cy a0 b0 gg gvn gdn gcn o) (As := [.int x1]) (rest := [.int (0 : Int32), .ref b0]) ⟨hx, hb, hml, hown, hts⟩ (c_X12_chalked l dC dI cy z hl9 a0 gg gvn gdn gcn x1 H.size v hv) (cwV 1 hts gL_chalked_X12_chalked rfl rfl rfl (by decide +kernel) ⟨Nat.le_of_ble_eq_true rfl, Nat.le_of_ble_eq_true rfl⟩) (va_recv hK hP (ci := 10) (q0 := 0) rfl rfl) cl_blindS (cl_preS hK hP hD hS hA hX [0, 1, 2, 3, 4, 5, 6, 7, 8, 9, 10] (by decide) rfl) hP hD hS hA [0, 1, 2, 3, 4, 5, 6, 7, 8, 9, 10] rfl rfl hl.1 rfl (lv_room (Nat.le_of_ble_eq_true rfl)) dL_chalked_4 ⟨Nat.le_of_ble_eq_true rfl, Nat.le_of_ble_eq_true rfl⟩ (cells' := 1) (slots' := 6) ⟨rfl, rfl⟩ (fun _ => updR [0, 1, 2, 3, 4, 5, 6, 7, 8, 9, 10] rfl) (fun _ => updR [0, 1, 2, 3, 4, 5, 6, 7, 8, 9, 10] rfl) (fun E ce q9 u H locs hw hE hP hD hS hc1 hc2 hc3 => ?_) (fun r u H locs hw hP hD hS => ?_)
  · subst hw
    have hP : va_P (dC, dI) vwCl (w_L_chalked cy a0 b0 gg gvn gdn gcn o) H := hP
    have hD : va_D A (w_L_chalked cy a0 b0 gg gvn gdn gcn o) := hD
    rcases hE with ⟨rfl, hE⟩ | ⟨rfl, hE⟩
    · rw [hE] at h
      dsimp only [xb] at h
      rw [if_pos rfl] at h
      refine vx_catch (name := "java/util/NoSuchElementException") hown [] (⟨0, 9, 12, 21⟩ : ExceptionTableEntry) [] htb (fun z9 hz9 => by cases hz9) rfl (by decide) lk21 (va_Nw.use rfl hX.2.2.2.2.1) hc1 hc2 hc3 ?_
      refine lv_astore_n (lv' := [(3, .ref q9), (0, .ref (a0 0)), (1, .int x1), (2, .ref b0)]) hx hb dL_chalked_12 rfl hl (by decide) rfl (fun ls hl => ?_)
      refine lv_iconst (v := (1 : Int32)) hx hb dL_chalked_13 (by decide) ?_
      exact W.iret (v := (1 : Int32)) hx hb hr (fun t ht hW => by rw [hqq]; have hh := Option.some.inj h; exact ⟨⟨(1 : Int32), (v.2, o), rfl, ⟨fst_of hh, snd_of hh⟩, by rw [ht]; exact hP, va_K.moved hW.alike hK⟩, hS.F ht⟩) hS.2.2 dL_chalked_14
    · rw [hE] at h
      dsimp only [xb] at h
      rw [if_neg (by decide), if_pos rfl] at h
      exact no_some h
  obtain ⟨hw1, hw2⟩ := hw
  subst hw2
  rw [← hw1] at h
  dsimp only [xb] at h
  have hP : va_P (dC, dI) vwCl (w_L_chalked cy a0 b0 gg gvn gdn gcn o) H := hP
  have hD : va_D A (w_L_chalked cy a0 b0 gg gvn gdn gcn o) := hD
  refine lv_i2l hx hb dL_chalked_7 rfl ?_
  refine va_last hx hb hK hP hD hS 11 2 rfl rfl (ix_in (by decide : ix (0 : Int32) 1)) dL_chalked_8 (fun H locs hP hD hS => ?_)
  have hP : va_P (dC, dI) vwCl (w_L_chalked cy a0 b0 gg gvn gdn gcn (vp_updL o (0 : Int32).toNatClampNeg r.toInt64)) H := hP
  have hD : va_D A (w_L_chalked cy a0 b0 gg gvn gdn gcn (vp_updL o (0 : Int32).toNatClampNeg r.toInt64)) := hD
  refine lv_goto (tgt := 15) hx hb dL_chalked_9 (by decide) ?_
  refine lv_iconst (v := (0 : Int32)) hx hb dL_chalked_15 (by decide) ?_
  exact W.iret (v := (0 : Int32)) hx hb hr (fun t ht hW => by rw [hqq]; have hh := Option.some.inj h; exact ⟨⟨(0 : Int32), (v.2, vp_updL o (0 : Int32).toNatClampNeg r.toInt64), rfl, ⟨fst_of hh, snd_of hh⟩, by rw [ht]; exact hP, va_K.moved hW.alike hK⟩, hS.F ht⟩) hS.2.2 dL_chalked_16

