abbrev w_L_span (cy : Nat → ClassId) (a0 : Nat → Nat) (b0 : Nat) (gg : Int32 × Int32 × Int32 × Int32 × Int32 × Int32) (gvn : Int32 × Int32 × (Nat → Int32) × (Nat → Int32) × (Nat → Int32) × (Nat → Int32) × (Nat → Int32)) (gdn : Int32 × Int32 × (Nat → Int32) × (Nat → Int32) × (Nat → Int32) × (Nat → Int32)) (gne : (Nat → Nat → Int32) × (Nat → Nat → Int64)) (o : Nat → Int64) : va_W := [(a0 0, .inr (10, [.ref (a0 1), .int (gg.1), .int (gg.2.1), .int (gg.2.2.1), .int (gg.2.2.2.1), .int (gg.2.2.2.2.1), .ref (a0 2), .ref (a0 17), .ref (a0 32), .int (gg.2.2.2.2.2), .ref (a0 47), .ref (a0 48), .ref (a0 49), .ref (a0 50), .ref (a0 68), .ref (a0 78), .ref (a0 80)])), (a0 2, .inr (7, [.int (gvn.1), .int (gvn.2.1), .ref (a0 3), .ref (a0 8), .ref (a0 12), .ref (a0 13), .ref (a0 14), .ref (a0 15), .ref (a0 16)])), (a0 3, .inr (2, [.int (gdn.1), .int (gdn.2.1), .ref (a0 4), .ref (a0 5), .ref (a0 6), .ref (a0 7)])), (a0 4, .inl (cy 1, 10, .inl (gdn.2.2.1))), (a0 5, .inl (cy 1, 10, .inl (gdn.2.2.2.1))), (a0 6, .inl (cy 1, 10, .inl (gdn.2.2.2.2.1))), (a0 7, .inl (cy 1, 50, .inl (gdn.2.2.2.2.2))), (a0 12, .inl (cy 1, 5, .inl (gvn.2.2.1))), (a0 13, .inl (cy 1, 5, .inl (gvn.2.2.2.1))), (a0 14, .inl (cy 1, 5, .inl (gvn.2.2.2.2.1))), (a0 15, .inl (cy 1, 5, .inl (gvn.2.2.2.2.2.1))), (a0 16, .inl (cy 1, 5, .inl (gvn.2.2.2.2.2.2))), (a0 50, .inr (4, [.ref (a0 51), .ref (a0 62)])), (a0 51, .inl (cy 3, 10, .inr (.inr (.inr (.inr (fun i => some ([a0 52, a0 53, a0 54, a0 55, a0 56, a0 57, a0 58, a0 59, a0 60, a0 61].getD i 0))))))), (a0 52, .inl (cy 1, 41, .inl (gne.1 0))), (a0 53, .inl (cy 1, 41, .inl (gne.1 1))), (a0 54, .inl (cy 1, 41, .inl (gne.1 2))), (a0 55, .inl (cy 1, 41, .inl (gne.1 3))), (a0 56, .inl (cy 1, 41, .inl (gne.1 4))), (a0 57, .inl (cy 1, 41, .inl (gne.1 5))), (a0 58, .inl (cy 1, 41, .inl (gne.1 6))), (a0 59, .inl (cy 1, 41, .inl (gne.1 7))), (a0 60, .inl (cy 1, 41, .inl (gne.1 8))), (a0 61, .inl (cy 1, 41, .inl (gne.1 9))), (a0 62, .inl (cy 4, 5, .inr (.inr (.inr (.inr (fun i => some ([a0 63, a0 64, a0 65, a0 66, a0 67].getD i 0))))))), (a0 63, .inl (cy 2, 41, .inr (.inl (gne.2 0)))), (a0 64, .inl (cy 2, 41, .inr (.inl (gne.2 1)))), (a0 65, .inl (cy 2, 41, .inr (.inl (gne.2 2)))), (a0 66, .inl (cy 2, 41, .inr (.inl (gne.2 3)))), (a0 67, .inl (cy 2, 41, .inr (.inl (gne.2 4)))), (b0, .inl (cy 2, 1, .inr (.inl (o))))]
abbrev rm_L_span : Room := { frames := 8, cells := 2, slots := 12, locals := 139 }
def p_L_span (gvn : Int32 × Int32 × (Nat → Int32) × (Nat → Int32) × (Nat → Int32) × (Nat → Int32) × (Nat → Int32)) (gdn : Int32 × Int32 × (Nat → Int32) × (Nat → Int32) × (Nat → Int32) × (Nat → Int32)) (gne : (Nat → Nat → Int32) × (Nat → Nat → Int64)) (x1 : Int32) (x2 : Int32) (x3 : Int32) (o : Nat → Int64) : Option (Int32 × (((Nat → Nat → Int32) × (Nat → Nat → Int64))) × (Nat → Int64)) := ((p_X12_span gvn gdn gne x1 x2 x3).bind fun v => xb v.1 (fun r => some ((0 : Int32), v.2, vp_updL o (0 : Int32).toNatClampNeg r.toInt64)) (fun k => if k = 1 then some ((1 : Int32), v.2, o) else if k = 2 then some ((2 : Int32), v.2, o) else none))
set_option maxHeartbeats 1000000 in
set_option maxRecDepth 100000 in
theorem c_L_span (l : Launch) (dC : Nat → ClassId) (dI : Nat → Nat → Nat) (cy : Nat → ClassId) (z : Nat → Nat) (hl9 : l.stackTraces = false) (a0 : Nat → Nat) (b0 : Nat) (gg : Int32 × Int32 × Int32 × Int32 × Int32 × Int32) (gvn : Int32 × Int32 × (Nat → Int32) × (Nat → Int32) × (Nat → Int32) × (Nat → Int32) × (Nat → Int32)) (gdn : Int32 × Int32 × (Nat → Int32) × (Nat → Int32) × (Nat → Int32) × (Nat → Int32)) (gne : (Nat → Nat → Int32) × (Nat → Nat → Int64)) (x1 : Int32) (x2 : Int32) (x3 : Int32) (o : Nat → Int64) (sz : Nat) (R0 : Int32 × (((Nat → Nat → Int32) × (Nat → Nat → Int64))) × (Nat → Int64)) (h : p_L_span gvn gdn gne x1 x2 x3 o = some R0) : Met l yL_span wsL_span rm_L_span (va_Pc [.ref (a0 0), .int x1, .int x2, .int x3, .ref b0] (prL dC dI cy z (w_L_span cy a0 b0 gg gvn gdn gne o) sz)) (va_Qi (fun (r : Int32) (u : (((Nat → Nat → Int32) × (Nat → Nat → Int64))) × (Nat → Int64)) => r = R0.1 ∧ u = R0.2) (fun u t => poC dC dI cy (w_L_span cy a0 b0 gg gvn gdn u.1 u.2) t) (va_A (w_L_span cy a0 b0 gg gvn gdn gne o) sz)) 2 12 (va_A (w_L_span cy a0 b0 gg gvn gdn gne o) sz) := by
  refine va_MetW (cc := cL_span) (maxL := 6) (ret := (some .int)) (hh := [(0, 12, 15, 21), (0, 12, 19, 13)]) (by decide) rfl ?_
  intro p e s m aa below meth c s₁ B hml hv
  obtain ⟨haa, ⟨⟨hsz, hP, hK, hD0⟩, hX⟩, hN⟩ := hv
  have hx := B.exec
  have hb := B.bytes
  have hr := B.returns
  have hts := atoms_spec (ws := wsL_span) B.pre
  have htb : c.exceptionTable.toList = tableOf [(0, 12, 15, 21), (0, 12, 19, 13)] := vx_table (x := yL_span) B (hts _ List.mem_cons_self)
  have hown : s.vm.findClass RL = some m.cls := findClass_of_methodNamed B.named
  have hlocks := B.notSynchronized
  subst hsz
  have hD := hD0.self (sz := s.heap.size)
  obtain ⟨qq, hqq⟩ : ∃ qq, qq = (va_Qi (fun (r : Int32) (u : (((Nat → Nat → Int32) × (Nat → Nat → Int64))) × (Nat → Int64)) => r = R0.1 ∧ u = R0.2) (fun u t => poC dC dI cy (w_L_span cy a0 b0 gg gvn gdn u.1 u.2) t) (va_A (w_L_span cy a0 b0 gg gvn gdn gne o) s.heap.size)) := ⟨_, rfl⟩
  rw [← hqq]
  generalize hAe : va_A (w_L_span cy a0 b0 gg gvn gdn gne o) s.heap.size = A at hD hqq hX ⊢
  have hA : ∀ q : Nat, s.heap.size ≤ q → A q := fun q h => by rw [← hAe]; exact Or.inr h
  have hS : va_S A s.heap s.heap [] := va_S.rf
  have hl := lv_entry ([.ref (a0 0), .int x1, .int x2, .int x3, .ref b0]) (n := 6) (Nat.le_of_ble_eq_true rfl)
  have hE : entryFrame m aa 6 = F0 m 0 ((lg_sl ([.ref (a0 0), .int x1, .int x2, .int x3, .ref b0]) ++ List.replicate (6 - (lg_sl ([.ref (a0 0), .int x1, .int x2, .int x3, .ref b0])).length) Slot.unset).toArray) [] := by rw [haa]; exact lg_entry_eq m _ 6
  refine W.eq hE ?_
  generalize (lg_sl ([.ref (a0 0), .int x1, .int x2, .int x3, .ref b0]) ++ List.replicate (6 - (lg_sl ([.ref (a0 0), .int x1, .int x2, .int x3, .ref b0])).length) Slot.unset).toArray = ls at hl ⊢
  have hl : lv_has ls 6 [(0, .ref (a0 0)), (1, .int x1), (2, .int x2), (3, .int x3), (4, .ref b0)] := hl
  change W p l e rm_L_span s m aa below meth c s.heap [] 0 0 (MQ below qq aa s 2 12 A) (F0 m 0 ls [])
  have lk21 := hts (.classLink RL 21 "java/util/NoSuchElementException") (by decide +kernel)
  have lk13 := hts (.classLink RL 13 "java/lang/IllegalArgumentException") (by decide +kernel)
  obtain ⟨H, hH⟩ : ∃ H : Heap, H = s.heap := ⟨_, rfl⟩
  obtain ⟨locs, hlocs⟩ : ∃ locs : List Loc, locs = [] := ⟨_, rfl⟩
  have hS : va_S A s.heap H locs := by rw [hH, hlocs]; exact hS
  rw [← hH] at hP
  suffices hg : W p l e rm_L_span s m aa below meth c H locs 0 0 (MQ below qq aa s 2 12 A) (F0 m 0 ls []) by subst hH; subst hlocs; exact hg
  unfold p_L_span at h
  obtain ⟨v, hv, h⟩ := ok_bind h
  refine lv_aload hx hb dL_span_0 (lv_at hl 4 rfl) ?_
  refine lv_iconst (v := (0 : Int32)) hx hb dL_span_2 (by decide) ?_
  refine lv_aload_n hx hb dL_span_3 rfl (lv_at hl 0 rfl) ?_
  refine lv_iload_n hx hb dL_span_4 rfl (lv_at hl 1 rfl) ?_
  refine lv_iload_n hx hb dL_span_5 rfl (lv_at hl 2 rfl) ?_
  refine lv_iload_n hx hb dL_span_6 rfl (lv_at hl 3 rfl) ?_
  refine cx_vi (w2 := fun (u : ((Nat → Nat → Int32) × (Nat → Nat → Int64))) => w_L_span cy a0 b0 gg gvn gdn u o) (w2x := fun (u : ((Nat → Nat → Int32) × (Nat → Nat → Int64))) => w_L_span cy a0 b0 gg gvn gdn u o) (As := [.int x1, .int x2, .int x3]) (rest := [.int (0 : Int32), .ref b0]) ⟨hx, hb, hml, hown, hts⟩ (c_X12_span l dC dI cy z hl9 a0 gg gvn gdn gne x1 x2 x3 H.size v hv) (cwV 3 hts gL_span_X12_span rfl rfl rfl (by decide +kernel) ⟨Nat.le_of_ble_eq_true rfl, Nat.le_of_ble_eq_true rfl⟩) (va_recv hK hP (ci := 10) (q0 := 0) rfl rfl) cl_blindS (cl_preS hK hP hD hS hA hX [0, 1, 2, 3, 4, 5, 6, 7, 8, 9, 10, 11, 12, 13, 14, 15, 16, 17, 18, 19, 20, 21, 22, 23, 24, 25, 26, 27, 28, 29] (by decide) rfl) hP hD hS hA [0, 1, 2, 3, 4, 5, 6, 7, 8, 9, 10, 11, 12, 13, 14, 15, 16, 17, 18, 19, 20, 21, 22, 23, 24, 25, 26, 27, 28, 29] rfl rfl hl.1 rfl (lv_room (Nat.le_of_ble_eq_true rfl)) dL_span_7 ⟨Nat.le_of_ble_eq_true rfl, Nat.le_of_ble_eq_true rfl⟩ (cells' := 2) (slots' := 12) ⟨rfl, rfl⟩ (fun _ => updM [0, 1, 2, 3, 4, 5, 6, 7, 8, 9, 10, 11, 12, 13, 14, 15, 16, 17, 18, 19, 20, 21, 22, 23, 24, 25, 26, 27, 28, 29] [30] [(b0, .inl (cy 2, 1, .inr (.inl (o))))] 31 rfl rfl rfl rfl rfl (by decide +kernel) (by decide +kernel) rfl) (fun _ => updM [0, 1, 2, 3, 4, 5, 6, 7, 8, 9, 10, 11, 12, 13, 14, 15, 16, 17, 18, 19, 20, 21, 22, 23, 24, 25, 26, 27, 28, 29] [30] [(b0, .inl (cy 2, 1, .inr (.inl (o))))] 31 rfl rfl rfl rfl rfl (by decide +kernel) (by decide +kernel) rfl) (fun E ce q9 u H locs hw hE hP hD hS hc1 hc2 hc3 => ?_) (fun r u H locs hw hP hD hS => ?_)
  · subst hw
    have hP : va_P (dC, dI) vwCl (w_L_span cy a0 b0 gg gvn gdn v.2 o) H := hP
    have hD : va_D A (w_L_span cy a0 b0 gg gvn gdn v.2 o) := hD
    rcases hE with ⟨rfl, hE⟩ | ⟨rfl, hE⟩
    · rw [hE] at h
      dsimp only [xb] at h
      rw [if_pos rfl] at h
      refine vx_catch (name := "java/util/NoSuchElementException") hown [] (⟨0, 12, 15, 21⟩ : ExceptionTableEntry) [(⟨0, 12, 19, 13⟩ : ExceptionTableEntry)] htb (fun z9 hz9 => by cases hz9) rfl (by decide) lk21 (va_Nw.use rfl hX.2.2.2.2.1) hc1 hc2 hc3 ?_
      refine lv_astore (lv' := [(5, .ref q9), (0, .ref (a0 0)), (1, .int x1), (2, .int x2), (3, .int x3), (4, .ref b0)]) hx hb dL_span_15 hl (by decide) rfl (fun ls hl => ?_)
      refine lv_iconst (v := (1 : Int32)) hx hb dL_span_17 (by decide) ?_
      exact W.iret (v := (1 : Int32)) hx hb hr (fun t ht hW => by rw [hqq]; have hh := Option.some.inj h; exact ⟨⟨(1 : Int32), (v.2, o), rfl, ⟨fst_of hh, snd_of hh⟩, by rw [ht]; exact hP, va_K.moved hW.alike hK⟩, hS.F ht⟩) hS.2.2 dL_span_18
    · rw [hE] at h
      dsimp only [xb] at h
      rw [if_neg (by decide), if_pos rfl] at h
      refine vx_catch (name := "java/lang/IllegalArgumentException") hown [(⟨0, 12, 15, 21⟩ : ExceptionTableEntry)] (⟨0, 12, 19, 13⟩ : ExceptionTableEntry) [] htb (fun z9 hz9 => by cases List.mem_singleton.mp hz9; exact Or.inr ⟨by decide, "java/util/NoSuchElementException", lk21, hN⟩) rfl (by decide) lk13 (va_Nw.use rfl hX.2.2.2.2.2.1) hc1 hc2 hc3 ?_
      refine lv_astore (lv' := [(5, .ref q9), (0, .ref (a0 0)), (1, .int x1), (2, .int x2), (3, .int x3), (4, .ref b0)]) hx hb dL_span_19 hl (by decide) rfl (fun ls hl => ?_)
      refine lv_iconst (v := (2 : Int32)) hx hb dL_span_21 (by decide) ?_
      exact W.iret (v := (2 : Int32)) hx hb hr (fun t ht hW => by rw [hqq]; have hh := Option.some.inj h; exact ⟨⟨(2 : Int32), (v.2, o), rfl, ⟨fst_of hh, snd_of hh⟩, by rw [ht]; exact hP, va_K.moved hW.alike hK⟩, hS.F ht⟩) hS.2.2 dL_span_22
  obtain ⟨hw1, hw2⟩ := hw
  subst hw2
  rw [← hw1] at h
  dsimp only [xb] at h
  have hP : va_P (dC, dI) vwCl (w_L_span cy a0 b0 gg gvn gdn v.2 o) H := hP
  have hD : va_D A (w_L_span cy a0 b0 gg gvn gdn v.2 o) := hD
  refine lv_i2l hx hb dL_span_10 rfl ?_
  refine va_last hx hb hK hP hD hS 30 2 rfl rfl (ix_in (by decide : ix (0 : Int32) 1)) dL_span_11 (fun H locs hP hD hS => ?_)
  have hP : va_P (dC, dI) vwCl (w_L_span cy a0 b0 gg gvn gdn v.2 (vp_updL o (0 : Int32).toNatClampNeg r.toInt64)) H := hP
  have hD : va_D A (w_L_span cy a0 b0 gg gvn gdn v.2 (vp_updL o (0 : Int32).toNatClampNeg r.toInt64)) := hD
  refine lv_goto (tgt := 23) hx hb dL_span_12 (by decide) ?_
  refine lv_iconst (v := (0 : Int32)) hx hb dL_span_23 (by decide) ?_
  exact W.iret (v := (0 : Int32)) hx hb hr (fun t ht hW => by rw [hqq]; have hh := Option.some.inj h; exact ⟨⟨(0 : Int32), (v.2, vp_updL o (0 : Int32).toNatClampNeg r.toInt64), rfl, ⟨fst_of hh, snd_of hh⟩, by rw [ht]; exact hP, va_K.moved hW.alike hK⟩, hS.F ht⟩) hS.2.2 dL_span_24

abbrev w_L_rests (cy : Nat → ClassId) (a0 : Nat → Nat) (b0 : Nat) (gg : Int32 × Int32 × Int32 × Int32 × Int32 × Int32) (gvn : Int32 × Int32 × (Nat → Int32) × (Nat → Int32) × (Nat → Int32) × (Nat → Int32) × (Nat → Int32)) (gdn : Int32 × Int32 × (Nat → Int32) × (Nat → Int32) × (Nat → Int32) × (Nat → Int32)) (gne : (Nat → Nat → Int32) × (Nat → Nat → Int64)) (ggm : Int32 × Int32 × Int32 × (Nat → Int32) × (Nat → Int32) × (Nat → Int32) × (Nat → Nat → Int64)) (o : Nat → Int64) : va_W := [(a0 0, .inr (10, [.ref (a0 1), .int (gg.1), .int (gg.2.1), .int (gg.2.2.1), .int (gg.2.2.2.1), .int (gg.2.2.2.2.1), .ref (a0 2), .ref (a0 17), .ref (a0 32), .int (gg.2.2.2.2.2), .ref (a0 47), .ref (a0 48), .ref (a0 49), .ref (a0 50), .ref (a0 68), .ref (a0 78), .ref (a0 80)])), (a0 2, .inr (7, [.int (gvn.1), .int (gvn.2.1), .ref (a0 3), .ref (a0 8), .ref (a0 12), .ref (a0 13), .ref (a0 14), .ref (a0 15), .ref (a0 16)])), (a0 3, .inr (2, [.int (gdn.1), .int (gdn.2.1), .ref (a0 4), .ref (a0 5), .ref (a0 6), .ref (a0 7)])), (a0 4, .inl (cy 1, 10, .inl (gdn.2.2.1))), (a0 5, .inl (cy 1, 10, .inl (gdn.2.2.2.1))), (a0 6, .inl (cy 1, 10, .inl (gdn.2.2.2.2.1))), (a0 7, .inl (cy 1, 50, .inl (gdn.2.2.2.2.2))), (a0 12, .inl (cy 1, 5, .inl (gvn.2.2.1))), (a0 13, .inl (cy 1, 5, .inl (gvn.2.2.2.1))), (a0 14, .inl (cy 1, 5, .inl (gvn.2.2.2.2.1))), (a0 15, .inl (cy 1, 5, .inl (gvn.2.2.2.2.2.1))), (a0 16, .inl (cy 1, 5, .inl (gvn.2.2.2.2.2.2))), (a0 50, .inr (4, [.ref (a0 51), .ref (a0 62)])), (a0 51, .inl (cy 3, 10, .inr (.inr (.inr (.inr (fun i => some ([a0 52, a0 53, a0 54, a0 55, a0 56, a0 57, a0 58, a0 59, a0 60, a0 61].getD i 0))))))), (a0 52, .inl (cy 1, 41, .inl (gne.1 0))), (a0 53, .inl (cy 1, 41, .inl (gne.1 1))), (a0 54, .inl (cy 1, 41, .inl (gne.1 2))), (a0 55, .inl (cy 1, 41, .inl (gne.1 3))), (a0 56, .inl (cy 1, 41, .inl (gne.1 4))), (a0 57, .inl (cy 1, 41, .inl (gne.1 5))), (a0 58, .inl (cy 1, 41, .inl (gne.1 6))), (a0 59, .inl (cy 1, 41, .inl (gne.1 7))), (a0 60, .inl (cy 1, 41, .inl (gne.1 8))), (a0 61, .inl (cy 1, 41, .inl (gne.1 9))), (a0 62, .inl (cy 4, 5, .inr (.inr (.inr (.inr (fun i => some ([a0 63, a0 64, a0 65, a0 66, a0 67].getD i 0))))))), (a0 63, .inl (cy 2, 41, .inr (.inl (gne.2 0)))), (a0 64, .inl (cy 2, 41, .inr (.inl (gne.2 1)))), (a0 65, .inl (cy 2, 41, .inr (.inl (gne.2 2)))), (a0 66, .inl (cy 2, 41, .inr (.inl (gne.2 3)))), (a0 67, .inl (cy 2, 41, .inr (.inl (gne.2 4)))), (a0 68, .inr (3, [.int (ggm.1), .int (ggm.2.1), .int (ggm.2.2.1), .ref (a0 69), .ref (a0 70), .ref (a0 71), .ref (a0 72)])), (a0 69, .inl (cy 1, 5, .inl (ggm.2.2.2.1))), (a0 70, .inl (cy 1, 5, .inl (ggm.2.2.2.2.1))), (a0 71, .inl (cy 1, 5, .inl (ggm.2.2.2.2.2.1))), (a0 72, .inl (cy 4, 5, .inr (.inr (.inr (.inr (fun i => some ([a0 73, a0 74, a0 75, a0 76, a0 77].getD i 0))))))), (a0 73, .inl (cy 2, 26, .inr (.inl (ggm.2.2.2.2.2.2 0)))), (a0 74, .inl (cy 2, 26, .inr (.inl (ggm.2.2.2.2.2.2 1)))), (a0 75, .inl (cy 2, 26, .inr (.inl (ggm.2.2.2.2.2.2 2)))), (a0 76, .inl (cy 2, 26, .inr (.inl (ggm.2.2.2.2.2.2 3)))), (a0 77, .inl (cy 2, 26, .inr (.inl (ggm.2.2.2.2.2.2 4)))), (b0, .inl (cy 2, 1, .inr (.inl (o))))]
abbrev rm_L_rests : Room := { frames := 8, cells := 2, slots := 12, locals := 144 }
def p_L_rests (gvn : Int32 × Int32 × (Nat → Int32) × (Nat → Int32) × (Nat → Int32) × (Nat → Int32) × (Nat → Int32)) (gdn : Int32 × Int32 × (Nat → Int32) × (Nat → Int32) × (Nat → Int32) × (Nat → Int32)) (gne : (Nat → Nat → Int32) × (Nat → Nat → Int64)) (ggm : Int32 × Int32 × Int32 × (Nat → Int32) × (Nat → Int32) × (Nat → Int32) × (Nat → Nat → Int64)) (x1 : Int32) (o : Nat → Int64) : Option (Int32 × (((Nat → Nat → Int32) × (Nat → Nat → Int64)) × (Int32 × Int32 × Int32 × (Nat → Int32) × (Nat → Int32) × (Nat → Int32) × (Nat → Nat → Int64))) × (Nat → Int64)) := ((p_X12_rests gvn gdn gne ggm x1).bind fun v => xb v.1 (fun r => some ((0 : Int32), v.2, vp_updL o (0 : Int32).toNatClampNeg r.toInt64)) (fun k => if k = 1 then some ((1 : Int32), v.2, o) else if k = 2 then none else none))
set_option maxHeartbeats 1000000 in
set_option maxRecDepth 100000 in
theorem c_L_rests (l : Launch) (dC : Nat → ClassId) (dI : Nat → Nat → Nat) (cy : Nat → ClassId) (z : Nat → Nat) (hl9 : l.stackTraces = false) (a0 : Nat → Nat) (b0 : Nat) (gg : Int32 × Int32 × Int32 × Int32 × Int32 × Int32) (gvn : Int32 × Int32 × (Nat → Int32) × (Nat → Int32) × (Nat → Int32) × (Nat → Int32) × (Nat → Int32)) (gdn : Int32 × Int32 × (Nat → Int32) × (Nat → Int32) × (Nat → Int32) × (Nat → Int32)) (gne : (Nat → Nat → Int32) × (Nat → Nat → Int64)) (ggm : Int32 × Int32 × Int32 × (Nat → Int32) × (Nat → Int32) × (Nat → Int32) × (Nat → Nat → Int64)) (x1 : Int32) (o : Nat → Int64) (sz : Nat) (R0 : Int32 × (((Nat → Nat → Int32) × (Nat → Nat → Int64)) × (Int32 × Int32 × Int32 × (Nat → Int32) × (Nat → Int32) × (Nat → Int32) × (Nat → Nat → Int64))) × (Nat → Int64)) (h : p_L_rests gvn gdn gne ggm x1 o = some R0) : Met l yL_rests wsL_rests rm_L_rests (va_Pc [.ref (a0 0), .int x1, .ref b0] (prL dC dI cy z (w_L_rests cy a0 b0 gg gvn gdn gne ggm o) sz)) (va_Qi (fun (r : Int32) (u : (((Nat → Nat → Int32) × (Nat → Nat → Int64)) × (Int32 × Int32 × Int32 × (Nat → Int32) × (Nat → Int32) × (Nat → Int32) × (Nat → Nat → Int64))) × (Nat → Int64)) => r = R0.1 ∧ u = R0.2) (fun u t => poC dC dI cy (w_L_rests cy a0 b0 gg gvn gdn u.1.1 u.1.2 u.2) t) (va_A (w_L_rests cy a0 b0 gg gvn gdn gne ggm o) sz)) 2 12 (va_A (w_L_rests cy a0 b0 gg gvn gdn gne ggm o) sz) := by
  refine va_MetW (cc := cL_rests) (maxL := 4) (ret := (some .int)) (hh := [(0, 9, 12, 21)]) (by decide) rfl ?_
  intro p e s m aa below meth c s₁ B hml hv
  obtain ⟨haa, ⟨⟨hsz, hP, hK, hD0⟩, hX⟩, hN⟩ := hv
  have hx := B.exec
  have hb := B.bytes
  have hr := B.returns
  have hts := atoms_spec (ws := wsL_rests) B.pre
  have htb : c.exceptionTable.toList = tableOf [(0, 9, 12, 21)] := vx_table (x := yL_rests) B (hts _ List.mem_cons_self)
  have hown : s.vm.findClass RL = some m.cls := findClass_of_methodNamed B.named
  have hlocks := B.notSynchronized
  subst hsz
  have hD := hD0.self (sz := s.heap.size)
  obtain ⟨qq, hqq⟩ : ∃ qq, qq = (va_Qi (fun (r : Int32) (u : (((Nat → Nat → Int32) × (Nat → Nat → Int64)) × (Int32 × Int32 × Int32 × (Nat → Int32) × (Nat → Int32) × (Nat → Int32) × (Nat → Nat → Int64))) × (Nat → Int64)) => r = R0.1 ∧ u = R0.2) (fun u t => poC dC dI cy (w_L_rests cy a0 b0 gg gvn gdn u.1.1 u.1.2 u.2) t) (va_A (w_L_rests cy a0 b0 gg gvn gdn gne ggm o) s.heap.size)) := ⟨_, rfl⟩
  rw [← hqq]
  generalize hAe : va_A (w_L_rests cy a0 b0 gg gvn gdn gne ggm o) s.heap.size = A at hD hqq hX ⊢
  have hA : ∀ q : Nat, s.heap.size ≤ q → A q := fun q h => by rw [← hAe]; exact Or.inr h
  have hS : va_S A s.heap s.heap [] := va_S.rf
  have hl := lv_entry ([.ref (a0 0), .int x1, .ref b0]) (n := 4) (Nat.le_of_ble_eq_true rfl)
  have hE : entryFrame m aa 4 = F0 m 0 ((lg_sl ([.ref (a0 0), .int x1, .ref b0]) ++ List.replicate (4 - (lg_sl ([.ref (a0 0), .int x1, .ref b0])).length) Slot.unset).toArray) [] := by rw [haa]; exact lg_entry_eq m _ 4
  refine W.eq hE ?_
  generalize (lg_sl ([.ref (a0 0), .int x1, .ref b0]) ++ List.replicate (4 - (lg_sl ([.ref (a0 0), .int x1, .ref b0])).length) Slot.unset).toArray = ls at hl ⊢
  have hl : lv_has ls 4 [(0, .ref (a0 0)), (1, .int x1), (2, .ref b0)] := hl
  change W p l e rm_L_rests s m aa below meth c s.heap [] 0 0 (MQ below qq aa s 2 12 A) (F0 m 0 ls [])
  have lk21 := hts (.classLink RL 21 "java/util/NoSuchElementException") (by decide +kernel)
  obtain ⟨H, hH⟩ : ∃ H : Heap, H = s.heap := ⟨_, rfl⟩
  obtain ⟨locs, hlocs⟩ : ∃ locs : List Loc, locs = [] := ⟨_, rfl⟩
  have hS : va_S A s.heap H locs := by rw [hH, hlocs]; exact hS
  rw [← hH] at hP
  suffices hg : W p l e rm_L_rests s m aa below meth c H locs 0 0 (MQ below qq aa s 2 12 A) (F0 m 0 ls []) by subst hH; subst hlocs; exact hg
  unfold p_L_rests at h
  obtain ⟨v, hv, h⟩ := ok_bind h
  refine lv_aload_n hx hb dL_rests_0 rfl (lv_at hl 2 rfl) ?_
  refine lv_iconst (v := (0 : Int32)) hx hb dL_rests_1 (by decide) ?_
  refine lv_aload_n hx hb dL_rests_2 rfl (lv_at hl 0 rfl) ?_
  refine lv_iload_n hx hb dL_rests_3 rfl (lv_at hl 1 rfl) ?_
  refine cx_vi (w2 := fun (u : ((Nat → Nat → Int32) × (Nat → Nat → Int64)) × (Int32 × Int32 × Int32 × (Nat → Int32) × (Nat → Int32) × (Nat → Int32) × (Nat → Nat → Int64))) => w_L_rests cy a0 b0 gg gvn gdn u.1 u.2 o) (w2x := fun (u : ((Nat → Nat → Int32) × (Nat → Nat → Int64)) × (Int32 × Int32 × Int32 × (Nat → Int32) × (Nat → Int32) × (Nat → Int32) × (Nat → Nat → Int64))) => w_L_rests cy a0 b0 gg gvn gdn u.1 u.2 o) (As := [.int x1]) (rest := [.int (0 : Int32), .ref b0]) ⟨hx, hb, hml, hown, hts⟩ (c_X12_rests l dC dI cy z hl9 a0 gg gvn gdn gne ggm x1 H.size v hv) (cwV 1 hts gL_rests_X12_rests rfl rfl rfl (by decide +kernel) ⟨Nat.le_of_ble_eq_true rfl, Nat.le_of_ble_eq_true rfl⟩) (va_recv hK hP (ci := 10) (q0 := 0) rfl rfl) cl_blindS (cl_preS hK hP hD hS hA hX [0, 1, 2, 3, 4, 5, 6, 7, 8, 9, 10, 11, 12, 13, 14, 15, 16, 17, 18, 19, 20, 21, 22, 23, 24, 25, 26, 27, 28, 29, 30, 31, 32, 33, 34, 35, 36, 37, 38, 39] (by decide) rfl) hP hD hS hA [0, 1, 2, 3, 4, 5, 6, 7, 8, 9, 10, 11, 12, 13, 14, 15, 16, 17, 18, 19, 20, 21, 22, 23, 24, 25, 26, 27, 28, 29, 30, 31, 32, 33, 34, 35, 36, 37, 38, 39] rfl rfl hl.1 rfl (lv_room (Nat.le_of_ble_eq_true rfl)) dL_rests_4 ⟨Nat.le_of_ble_eq_true rfl, Nat.le_of_ble_eq_true rfl⟩ (cells' := 2) (slots' := 12) ⟨rfl, rfl⟩ (fun _ => updM [0, 1, 2, 3, 4, 5, 6, 7, 8, 9, 10, 11, 12, 13, 14, 15, 16, 17, 18, 19, 20, 21, 22, 23, 24, 25, 26, 27, 28, 29, 30, 31, 32, 33, 34, 35, 36, 37, 38, 39] [40] [(b0, .inl (cy 2, 1, .inr (.inl (o))))] 41 rfl rfl rfl rfl rfl (by decide +kernel) (by decide +kernel) rfl) (fun _ => updM [0, 1, 2, 3, 4, 5, 6, 7, 8, 9, 10, 11, 12, 13, 14, 15, 16, 17, 18, 19, 20, 21, 22, 23, 24, 25, 26, 27, 28, 29, 30, 31, 32, 33, 34, 35, 36, 37, 38, 39] [40] [(b0, .inl (cy 2, 1, .inr (.inl (o))))] 41 rfl rfl rfl rfl rfl (by decide +kernel) (by decide +kernel) rfl) (fun E ce q9 u H locs hw hE hP hD hS hc1 hc2 hc3 => ?_) (fun r u H locs hw hP hD hS => ?_)
  · subst hw
    have hP : va_P (dC, dI) vwCl (w_L_rests cy a0 b0 gg gvn gdn v.2.1 v.2.2 o) H := hP
    have hD : va_D A (w_L_rests cy a0 b0 gg gvn gdn v.2.1 v.2.2 o) := hD
    rcases hE with ⟨rfl, hE⟩ | ⟨rfl, hE⟩
    · rw [hE] at h
      dsimp only [xb] at h
      rw [if_pos rfl] at h
      refine vx_catch (name := "java/util/NoSuchElementException") hown [] (⟨0, 9, 12, 21⟩ : ExceptionTableEntry) [] htb (fun z9 hz9 => by cases hz9) rfl (by decide) lk21 (va_Nw.use rfl hX.2.2.2.2.1) hc1 hc2 hc3 ?_
      refine lv_astore_n (lv' := [(3, .ref q9), (0, .ref (a0 0)), (1, .int x1), (2, .ref b0)]) hx hb dL_rests_12 rfl hl (by decide) rfl (fun ls hl => ?_)
      refine lv_iconst (v := (1 : Int32)) hx hb dL_rests_13 (by decide) ?_
      exact W.iret (v := (1 : Int32)) hx hb hr (fun t ht hW => by rw [hqq]; have hh := Option.some.inj h; exact ⟨⟨(1 : Int32), (v.2, o), rfl, ⟨fst_of hh, snd_of hh⟩, by rw [ht]; exact hP, va_K.moved hW.alike hK⟩, hS.F ht⟩) hS.2.2 dL_rests_14
    · rw [hE] at h
      dsimp only [xb] at h
      rw [if_neg (by decide), if_pos rfl] at h
      exact no_some h
  obtain ⟨hw1, hw2⟩ := hw
  subst hw2
  rw [← hw1] at h
  dsimp only [xb] at h
  have hP : va_P (dC, dI) vwCl (w_L_rests cy a0 b0 gg gvn gdn v.2.1 v.2.2 o) H := hP
  have hD : va_D A (w_L_rests cy a0 b0 gg gvn gdn v.2.1 v.2.2 o) := hD
  refine lv_i2l hx hb dL_rests_7 rfl ?_
  refine va_last hx hb hK hP hD hS 40 2 rfl rfl (ix_in (by decide : ix (0 : Int32) 1)) dL_rests_8 (fun H locs hP hD hS => ?_)
  have hP : va_P (dC, dI) vwCl (w_L_rests cy a0 b0 gg gvn gdn v.2.1 v.2.2 (vp_updL o (0 : Int32).toNatClampNeg r.toInt64)) H := hP
  have hD : va_D A (w_L_rests cy a0 b0 gg gvn gdn v.2.1 v.2.2 (vp_updL o (0 : Int32).toNatClampNeg r.toInt64)) := hD
  refine lv_goto (tgt := 15) hx hb dL_rests_9 (by decide) ?_
  refine lv_iconst (v := (0 : Int32)) hx hb dL_rests_15 (by decide) ?_
  exact W.iret (v := (0 : Int32)) hx hb hr (fun t ht hW => by rw [hqq]; have hh := Option.some.inj h; exact ⟨⟨(0 : Int32), (v.2, vp_updL o (0 : Int32).toNatClampNeg r.toInt64), rfl, ⟨fst_of hh, snd_of hh⟩, by rw [ht]; exact hP, va_K.moved hW.alike hK⟩, hS.F ht⟩) hS.2.2 dL_rests_16

abbrev w_L_alike (cy : Nat → ClassId) (a0 : Nat → Nat) (b0 : Nat) (gg : Int32 × Int32 × Int32 × Int32 × Int32 × Int32) (o : Nat → Int64) : va_W := [(a0 0, .inr (10, [.ref (a0 1), .int (gg.1), .int (gg.2.1), .int (gg.2.2.1), .int (gg.2.2.2.1), .int (gg.2.2.2.2.1), .ref (a0 2), .ref (a0 17), .ref (a0 32), .int (gg.2.2.2.2.2), .ref (a0 47), .ref (a0 48), .ref (a0 49), .ref (a0 50), .ref (a0 68), .ref (a0 78), .ref (a0 80)])), (b0, .inl (cy 2, 1, .inr (.inl (o))))]
abbrev rm_L_alike : Room := { frames := 7, cells := 1, slots := 6, locals := 114 }
def p_L_alike  (x1 : Int32) (x2 : Int32) (o : Nat → Int64) : Option (Int32 × (Unit) × (Nat → Int64)) := ((p_X12_alike  x1 x2).bind fun v => xb v.1 (fun r => some ((0 : Int32), v.2, vp_updL o (0 : Int32).toNatClampNeg r.toInt64)) (fun k => if k = 1 then none else if k = 2 then some ((1 : Int32), v.2, o) else none))
set_option maxHeartbeats 1000000 in
set_option maxRecDepth 100000 in
theorem c_L_alike (l : Launch) (dC : Nat → ClassId) (dI : Nat → Nat → Nat) (cy : Nat → ClassId) (z : Nat → Nat) (hl9 : l.stackTraces = false) (a0 : Nat → Nat) (b0 : Nat) (gg : Int32 × Int32 × Int32 × Int32 × Int32 × Int32) (x1 : Int32) (x2 : Int32) (o : Nat → Int64) (sz : Nat) (R0 : Int32 × (Unit) × (Nat → Int64)) (h : p_L_alike  x1 x2 o = some R0) : Met l yL_alike wsL_alike rm_L_alike (va_Pc [.ref (a0 0), .int x1, .int x2, .ref b0] (prL dC dI cy z (w_L_alike cy a0 b0 gg o) sz)) (va_Qi (fun (r : Int32) (u : (Unit) × (Nat → Int64)) => r = R0.1 ∧ u = R0.2) (fun u t => poC dC dI cy (w_L_alike cy a0 b0 gg u.2) t) (va_A (w_L_alike cy a0 b0 gg o) sz)) 1 6 (va_A (w_L_alike cy a0 b0 gg o) sz) := by
  refine va_MetW (cc := cL_alike) (maxL := 5) (ret := (some .int)) (hh := [(0, 10, 13, 13)]) (by decide) rfl ?_
  intro p e s m aa below meth c s₁ B hml hv
  obtain ⟨haa, ⟨⟨hsz, hP, hK, hD0⟩, hX⟩, hN⟩ := hv
  have hx := B.exec
  have hb := B.bytes
  have hr := B.returns
  have hts := atoms_spec (ws := wsL_alike) B.pre
  have htb : c.exceptionTable.toList = tableOf [(0, 10, 13, 13)] := vx_table (x := yL_alike) B (hts _ List.mem_cons_self)
  have hown : s.vm.findClass RL = some m.cls := findClass_of_methodNamed B.named
  have hlocks := B.notSynchronized
  subst hsz
  have hD := hD0.self (sz := s.heap.size)
  obtain ⟨qq, hqq⟩ : ∃ qq, qq = (va_Qi (fun (r : Int32) (u : (Unit) × (Nat → Int64)) => r = R0.1 ∧ u = R0.2) (fun u t => poC dC dI cy (w_L_alike cy a0 b0 gg u.2) t) (va_A (w_L_alike cy a0 b0 gg o) s.heap.size)) := ⟨_, rfl⟩
  rw [← hqq]
  generalize hAe : va_A (w_L_alike cy a0 b0 gg o) s.heap.size = A at hD hqq hX ⊢
  have hA : ∀ q : Nat, s.heap.size ≤ q → A q := fun q h => by rw [← hAe]; exact Or.inr h
  have hS : va_S A s.heap s.heap [] := va_S.rf
  have hl := lv_entry ([.ref (a0 0), .int x1, .int x2, .ref b0]) (n := 5) (Nat.le_of_ble_eq_true rfl)
  have hE : entryFrame m aa 5 = F0 m 0 ((lg_sl ([.ref (a0 0), .int x1, .int x2, .ref b0]) ++ List.replicate (5 - (lg_sl ([.ref (a0 0), .int x1, .int x2, .ref b0])).length) Slot.unset).toArray) [] := by rw [haa]; exact lg_entry_eq m _ 5
  refine W.eq hE ?_
  generalize (lg_sl ([.ref (a0 0), .int x1, .int x2, .ref b0]) ++ List.replicate (5 - (lg_sl ([.ref (a0 0), .int x1, .int x2, .ref b0])).length) Slot.unset).toArray = ls at hl ⊢
  have hl : lv_has ls 5 [(0, .ref (a0 0)), (1, .int x1), (2, .int x2), (3, .ref b0)] := hl
  change W p l e rm_L_alike s m aa below meth c s.heap [] 0 0 (MQ below qq aa s 1 6 A) (F0 m 0 ls [])
  have lk13 := hts (.classLink RL 13 "java/lang/IllegalArgumentException") (by decide +kernel)
  obtain ⟨H, hH⟩ : ∃ H : Heap, H = s.heap := ⟨_, rfl⟩
  obtain ⟨locs, hlocs⟩ : ∃ locs : List Loc, locs = [] := ⟨_, rfl⟩
  have hS : va_S A s.heap H locs := by rw [hH, hlocs]; exact hS
  rw [← hH] at hP
  suffices hg : W p l e rm_L_alike s m aa below meth c H locs 0 0 (MQ below qq aa s 1 6 A) (F0 m 0 ls []) by subst hH; subst hlocs; exact hg
  unfold p_L_alike at h
  obtain ⟨v, hv, h⟩ := ok_bind h
  refine lv_aload_n hx hb dL_alike_0 rfl (lv_at hl 3 rfl) ?_
  refine lv_iconst (v := (0 : Int32)) hx hb dL_alike_1 (by decide) ?_
  refine lv_aload_n hx hb dL_alike_2 rfl (lv_at hl 0 rfl) ?_
  refine lv_iload_n hx hb dL_alike_3 rfl (lv_at hl 1 rfl) ?_
  refine lv_iload_n hx hb dL_alike_4 rfl (lv_at hl 2 rfl) ?_
  refine cx_vi (w2 := fun (_ : Unit) => w_L_alike cy a0 b0 gg o) (w2x := fun (_ : Unit) => w_L_alike cy a0 b0 gg o) (As := [.int x1, .int x2]) (rest := [.int (0 : Int32), .ref b0]) ⟨hx, hb, hml, hown, hts⟩ (c_X12_alike l dC dI cy z hl9 a0  x1 x2 H.size v hv) (cwV 2 hts gL_alike_X12_alike rfl rfl rfl (by decide +kernel) ⟨Nat.le_of_ble_eq_true rfl, Nat.le_of_ble_eq_true rfl⟩) (va_recv hK hP (ci := 10) (q0 := 0) rfl rfl) cl_blindS (cl_preS hK hP hD hS hA hX [] (by decide) rfl) hP hD hS hA [] rfl rfl hl.1 rfl (lv_room (Nat.le_of_ble_eq_true rfl)) dL_alike_5 ⟨Nat.le_of_ble_eq_true rfl, Nat.le_of_ble_eq_true rfl⟩ (cells' := 1) (slots' := 6) ⟨rfl, rfl⟩ (fun _ => updR [] rfl) (fun _ => updR [] rfl) (fun E ce q9 u H locs hw hE hP hD hS hc1 hc2 hc3 => ?_) (fun r u H locs hw hP hD hS => ?_)
  · subst hw
    have hP : va_P (dC, dI) vwCl (w_L_alike cy a0 b0 gg o) H := hP
    have hD : va_D A (w_L_alike cy a0 b0 gg o) := hD
    rcases hE with ⟨rfl, hE⟩ | ⟨rfl, hE⟩
    · rw [hE] at h
      dsimp only [xb] at h
      rw [if_pos rfl] at h
      exact no_some h
    · rw [hE] at h
      dsimp only [xb] at h
      rw [if_neg (by decide), if_pos rfl] at h
      refine vx_catch (name := "java/lang/IllegalArgumentException") hown [] (⟨0, 10, 13, 13⟩ : ExceptionTableEntry) [] htb (fun z9 hz9 => by cases hz9) rfl (by decide) lk13 (va_Nw.use rfl hX.2.2.2.2.2.1) hc1 hc2 hc3 ?_
      refine lv_astore (lv' := [(4, .ref q9), (0, .ref (a0 0)), (1, .int x1), (2, .int x2), (3, .ref b0)]) hx hb dL_alike_13 hl (by decide) rfl (fun ls hl => ?_)
      refine lv_iconst (v := (1 : Int32)) hx hb dL_alike_15 (by decide) ?_
      exact W.iret (v := (1 : Int32)) hx hb hr (fun t ht hW => by rw [hqq]; have hh := Option.some.inj h; exact ⟨⟨(1 : Int32), (v.2, o), rfl, ⟨fst_of hh, snd_of hh⟩, by rw [ht]; exact hP, va_K.moved hW.alike hK⟩, hS.F ht⟩) hS.2.2 dL_alike_16
  obtain ⟨hw1, hw2⟩ := hw
  subst hw2
  rw [← hw1] at h
  dsimp only [xb] at h
  have hP : va_P (dC, dI) vwCl (w_L_alike cy a0 b0 gg o) H := hP
  have hD : va_D A (w_L_alike cy a0 b0 gg o) := hD
  refine lv_i2l hx hb dL_alike_8 rfl ?_
  refine va_last hx hb hK hP hD hS 1 2 rfl rfl (ix_in (by decide : ix (0 : Int32) 1)) dL_alike_9 (fun H locs hP hD hS => ?_)
  have hP : va_P (dC, dI) vwCl (w_L_alike cy a0 b0 gg (vp_updL o (0 : Int32).toNatClampNeg r.toInt64)) H := hP
  have hD : va_D A (w_L_alike cy a0 b0 gg (vp_updL o (0 : Int32).toNatClampNeg r.toInt64)) := hD
  refine lv_goto (tgt := 17) hx hb dL_alike_10 (by decide) ?_
  refine lv_iconst (v := (0 : Int32)) hx hb dL_alike_17 (by decide) ?_
  exact W.iret (v := (0 : Int32)) hx hb hr (fun t ht hW => by rw [hqq]; have hh := Option.some.inj h; exact ⟨⟨(0 : Int32), (v.2, vp_updL o (0 : Int32).toNatClampNeg r.toInt64), rfl, ⟨fst_of hh, snd_of hh⟩, by rw [ht]; exact hP, va_K.moved hW.alike hK⟩, hS.F ht⟩) hS.2.2 dL_alike_18

