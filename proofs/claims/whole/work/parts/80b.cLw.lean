abbrev w_L_days (cy : Nat → ClassId) (z : Nat → Nat) (a0 : Nat → Nat) (b0 : Nat) (gg : Int32 × Int32 × Int32 × Int32 × Int32 × Int32) (gvn : Int32 × Int32 × (Nat → Int32) × (Nat → Int32) × (Nat → Int32) × (Nat → Int32) × (Nat → Int32)) (gdn : Int32 × Int32 × (Nat → Int32) × (Nat → Int32) × (Nat → Int32) × (Nat → Int32)) (gr : Int32 × Int32 × Int32 × Int32 × Int32 × Int32 × Int32 × Int32 × Int32) (gdr : Nat × Int32 × Int32 × Int32 × Int32) (gtx : (Nat → Int32)) (o : Nat → Int64) : va_W := [(a0 0, .inr (10, [.ref (a0 1), .int (gg.1), .int (gg.2.1), .int (gg.2.2.1), .int (gg.2.2.2.1), .int (gg.2.2.2.2.1), .ref (a0 2), .ref (a0 17), .ref (a0 32), .int (gg.2.2.2.2.2), .ref (a0 47), .ref (a0 48), .ref (a0 49), .ref (a0 50), .ref (a0 68), .ref (a0 78), .ref (a0 80)])), (a0 1, .inl (cy 0, 600, .inl (gtx))), (a0 2, .inr (7, [.int (gvn.1), .int (gvn.2.1), .ref (a0 3), .ref (a0 8), .ref (a0 12), .ref (a0 13), .ref (a0 14), .ref (a0 15), .ref (a0 16)])), (a0 3, .inr (2, [.int (gdn.1), .int (gdn.2.1), .ref (a0 4), .ref (a0 5), .ref (a0 6), .ref (a0 7)])), (a0 4, .inl (cy 1, 10, .inl (gdn.2.2.1))), (a0 5, .inl (cy 1, 10, .inl (gdn.2.2.2.1))), (a0 6, .inl (cy 1, 10, .inl (gdn.2.2.2.2.1))), (a0 7, .inl (cy 1, 50, .inl (gdn.2.2.2.2.2))), (a0 12, .inl (cy 1, 5, .inl (gvn.2.2.1))), (a0 13, .inl (cy 1, 5, .inl (gvn.2.2.2.1))), (a0 14, .inl (cy 1, 5, .inl (gvn.2.2.2.2.1))), (a0 15, .inl (cy 1, 5, .inl (gvn.2.2.2.2.2.1))), (a0 16, .inl (cy 1, 5, .inl (gvn.2.2.2.2.2.2))), (a0 47, .inr (5, [.ref (a0 1), .int (gr.1), .int (gr.2.1), .int (gr.2.2.1), .int (gr.2.2.2.1), .int (gr.2.2.2.2.1), .int (gr.2.2.2.2.2.1), .int (gr.2.2.2.2.2.2.1), .int (gr.2.2.2.2.2.2.2.1), .int (gr.2.2.2.2.2.2.2.2)])), (a0 49, .inr (1, [.ref (a0 47), .ref (z (200 + gdr.1)), .int (gdr.2.1), .int (gdr.2.2.1), .int (gdr.2.2.2.1), .int (gdr.2.2.2.2)])), (b0, .inl (cy 2, 1, .inr (.inl (o))))]
abbrev rm_L_days : Room := { frames := 9, cells := 1, slots := 6, locals := 195 }
def p_L_days (gg : Int32 × Int32 × Int32 × Int32 × Int32 × Int32) (gvn : Int32 × Int32 × (Nat → Int32) × (Nat → Int32) × (Nat → Int32) × (Nat → Int32) × (Nat → Int32)) (gdn : Int32 × Int32 × (Nat → Int32) × (Nat → Int32) × (Nat → Int32) × (Nat → Int32)) (gr : Int32 × Int32 × Int32 × Int32 × Int32 × Int32 × Int32 × Int32 × Int32) (gdr : Nat × Int32 × Int32 × Int32 × Int32) (gtx : (Nat → Int32)) (x1 : Int32) (o : Nat → Int64) : Option (Int32 × ((Int32 × Int32 × Int32 × Int32 × Int32 × Int32) × (Int32 × Int32 × (Nat → Int32) × (Nat → Int32) × (Nat → Int32) × (Nat → Int32) × (Nat → Int32)) × (Int32 × Int32 × (Nat → Int32) × (Nat → Int32) × (Nat → Int32) × (Nat → Int32)) × (Int32 × Int32 × Int32 × Int32 × Int32 × Int32 × Int32 × Int32 × Int32) × (Nat × Int32 × Int32 × Int32 × Int32)) × (Nat → Int64)) := ((p_X12_days gg gvn gdn gr gdr gtx x1).bind fun v => xb v.1 (fun r => some ((0 : Int32), v.2, vp_updL o (0 : Int32).toNatClampNeg r.toInt64)) (fun k => if k = 1 then none else if k = 2 then some ((1 : Int32), v.2, o) else none))
set_option maxHeartbeats 1000000 in
set_option maxRecDepth 100000 in
theorem c_L_days (l : Launch) (dC : Nat → ClassId) (dI : Nat → Nat → Nat) (cy : Nat → ClassId) (z : Nat → Nat) (hl9 : l.stackTraces = false) (a0 : Nat → Nat) (b0 : Nat) (gg : Int32 × Int32 × Int32 × Int32 × Int32 × Int32) (gvn : Int32 × Int32 × (Nat → Int32) × (Nat → Int32) × (Nat → Int32) × (Nat → Int32) × (Nat → Int32)) (gdn : Int32 × Int32 × (Nat → Int32) × (Nat → Int32) × (Nat → Int32) × (Nat → Int32)) (gr : Int32 × Int32 × Int32 × Int32 × Int32 × Int32 × Int32 × Int32 × Int32) (gdr : Nat × Int32 × Int32 × Int32 × Int32) (gtx : (Nat → Int32)) (x1 : Int32) (o : Nat → Int64) (sz : Nat) (R0 : Int32 × ((Int32 × Int32 × Int32 × Int32 × Int32 × Int32) × (Int32 × Int32 × (Nat → Int32) × (Nat → Int32) × (Nat → Int32) × (Nat → Int32) × (Nat → Int32)) × (Int32 × Int32 × (Nat → Int32) × (Nat → Int32) × (Nat → Int32) × (Nat → Int32)) × (Int32 × Int32 × Int32 × Int32 × Int32 × Int32 × Int32 × Int32 × Int32) × (Nat × Int32 × Int32 × Int32 × Int32)) × (Nat → Int64)) (h : p_L_days gg gvn gdn gr gdr gtx x1 o = some R0) : Met l yL_days wsL_days rm_L_days (va_Pc [.ref (a0 0), .int x1, .ref b0] (prL dC dI cy z (w_L_days cy z a0 b0 gg gvn gdn gr gdr gtx o) sz)) (va_Qi (fun (r : Int32) (u : ((Int32 × Int32 × Int32 × Int32 × Int32 × Int32) × (Int32 × Int32 × (Nat → Int32) × (Nat → Int32) × (Nat → Int32) × (Nat → Int32) × (Nat → Int32)) × (Int32 × Int32 × (Nat → Int32) × (Nat → Int32) × (Nat → Int32) × (Nat → Int32)) × (Int32 × Int32 × Int32 × Int32 × Int32 × Int32 × Int32 × Int32 × Int32) × (Nat × Int32 × Int32 × Int32 × Int32)) × (Nat → Int64)) => r = R0.1 ∧ u = R0.2) (fun u t => poC dC dI cy (w_L_days cy z a0 b0 u.1.1 u.1.2.1 u.1.2.2.1 u.1.2.2.2.1 u.1.2.2.2.2 gtx u.2) t) (va_A (w_L_days cy z a0 b0 gg gvn gdn gr gdr gtx o) sz)) 1 6 (va_A (w_L_days cy z a0 b0 gg gvn gdn gr gdr gtx o) sz) := by
  refine va_MetW (cc := cL_days) (maxL := 4) (ret := (some .int)) (hh := [(0, 9, 12, 13)]) (by decide) rfl ?_
  intro p e s m aa below meth c s₁ B hml hv
  obtain ⟨haa, ⟨⟨hsz, hP, hK, hD0⟩, hX⟩, hN⟩ := hv
  have hx := B.exec
  have hb := B.bytes
  have hr := B.returns
  have hts := atoms_spec (ws := wsL_days) B.pre
  have htb : c.exceptionTable.toList = tableOf [(0, 9, 12, 13)] := vx_table (x := yL_days) B (hts _ List.mem_cons_self)
  have hown : s.vm.findClass RL = some m.cls := findClass_of_methodNamed B.named
  have hlocks := B.notSynchronized
  subst hsz
  have hD := hD0.self (sz := s.heap.size)
  obtain ⟨qq, hqq⟩ : ∃ qq, qq = (va_Qi (fun (r : Int32) (u : ((Int32 × Int32 × Int32 × Int32 × Int32 × Int32) × (Int32 × Int32 × (Nat → Int32) × (Nat → Int32) × (Nat → Int32) × (Nat → Int32) × (Nat → Int32)) × (Int32 × Int32 × (Nat → Int32) × (Nat → Int32) × (Nat → Int32) × (Nat → Int32)) × (Int32 × Int32 × Int32 × Int32 × Int32 × Int32 × Int32 × Int32 × Int32) × (Nat × Int32 × Int32 × Int32 × Int32)) × (Nat → Int64)) => r = R0.1 ∧ u = R0.2) (fun u t => poC dC dI cy (w_L_days cy z a0 b0 u.1.1 u.1.2.1 u.1.2.2.1 u.1.2.2.2.1 u.1.2.2.2.2 gtx u.2) t) (va_A (w_L_days cy z a0 b0 gg gvn gdn gr gdr gtx o) s.heap.size)) := ⟨_, rfl⟩
  rw [← hqq]
  generalize hAe : va_A (w_L_days cy z a0 b0 gg gvn gdn gr gdr gtx o) s.heap.size = A at hD hqq hX ⊢
  have hA : ∀ q : Nat, s.heap.size ≤ q → A q := fun q h => by rw [← hAe]; exact Or.inr h
  have hS : va_S A s.heap s.heap [] := va_S.rf
  have hl := lv_entry ([.ref (a0 0), .int x1, .ref b0]) (n := 4) (Nat.le_of_ble_eq_true rfl)
  have hE : entryFrame m aa 4 = F0 m 0 ((lg_sl ([.ref (a0 0), .int x1, .ref b0]) ++ List.replicate (4 - (lg_sl ([.ref (a0 0), .int x1, .ref b0])).length) Slot.unset).toArray) [] := by rw [haa]; exact lg_entry_eq m _ 4
  refine W.eq hE ?_
  generalize (lg_sl ([.ref (a0 0), .int x1, .ref b0]) ++ List.replicate (4 - (lg_sl ([.ref (a0 0), .int x1, .ref b0])).length) Slot.unset).toArray = ls at hl ⊢
  have hl : lv_has ls 4 [(0, .ref (a0 0)), (1, .int x1), (2, .ref b0)] := hl
  change W p l e rm_L_days s m aa below meth c s.heap [] 0 0 (MQ below qq aa s 1 6 A) (F0 m 0 ls [])
  have lk13 := hts (.classLink RL 13 "java/lang/IllegalArgumentException") (by decide +kernel)
  obtain ⟨H, hH⟩ : ∃ H : Heap, H = s.heap := ⟨_, rfl⟩
  obtain ⟨locs, hlocs⟩ : ∃ locs : List Loc, locs = [] := ⟨_, rfl⟩
  have hS : va_S A s.heap H locs := by rw [hH, hlocs]; exact hS
  rw [← hH] at hP
  suffices hg : W p l e rm_L_days s m aa below meth c H locs 0 0 (MQ below qq aa s 1 6 A) (F0 m 0 ls []) by subst hH; subst hlocs; exact hg
  unfold p_L_days at h
  obtain ⟨v, hv, h⟩ := ok_bind h
  refine lv_aload_n hx hb dL_days_0 rfl (lv_at hl 2 rfl) ?_
  refine lv_iconst (v := (0 : Int32)) hx hb dL_days_1 (by decide) ?_
  refine lv_aload_n hx hb dL_days_2 rfl (lv_at hl 0 rfl) ?_
  refine lv_iload_n hx hb dL_days_3 rfl (lv_at hl 1 rfl) ?_
  refine cx_vi (w2 := fun (u : (Int32 × Int32 × Int32 × Int32 × Int32 × Int32) × (Int32 × Int32 × (Nat → Int32) × (Nat → Int32) × (Nat → Int32) × (Nat → Int32) × (Nat → Int32)) × (Int32 × Int32 × (Nat → Int32) × (Nat → Int32) × (Nat → Int32) × (Nat → Int32)) × (Int32 × Int32 × Int32 × Int32 × Int32 × Int32 × Int32 × Int32 × Int32) × (Nat × Int32 × Int32 × Int32 × Int32)) => w_L_days cy z a0 b0 u.1 u.2.1 u.2.2.1 u.2.2.2.1 u.2.2.2.2 gtx o) (w2x := fun (u : (Int32 × Int32 × Int32 × Int32 × Int32 × Int32) × (Int32 × Int32 × (Nat → Int32) × (Nat → Int32) × (Nat → Int32) × (Nat → Int32) × (Nat → Int32)) × (Int32 × Int32 × (Nat → Int32) × (Nat → Int32) × (Nat → Int32) × (Nat → Int32)) × (Int32 × Int32 × Int32 × Int32 × Int32 × Int32 × Int32 × Int32 × Int32) × (Nat × Int32 × Int32 × Int32 × Int32)) => w_L_days cy z a0 b0 u.1 u.2.1 u.2.2.1 u.2.2.2.1 u.2.2.2.2 gtx o) (As := [.int x1]) (rest := [.int (0 : Int32), .ref b0]) ⟨hx, hb, hml, hown, hts⟩ (c_X12_days l dC dI cy z hl9 a0 gg gvn gdn gr gdr gtx x1 H.size v hv) (cwV 1 hts gL_days_X12_days rfl rfl rfl (by decide +kernel) ⟨Nat.le_of_ble_eq_true rfl, Nat.le_of_ble_eq_true rfl⟩) (va_recv hK hP (ci := 10) (q0 := 0) rfl rfl) cl_blindS (cl_preS hK hP hD hS hA hX [0, 1, 2, 3, 4, 5, 6, 7, 8, 9, 10, 11, 12, 13, 14] (by decide) rfl) hP hD hS hA [0, 1, 2, 3, 4, 5, 6, 7, 8, 9, 10, 11, 12, 13, 14] rfl rfl hl.1 rfl (lv_room (Nat.le_of_ble_eq_true rfl)) dL_days_4 ⟨Nat.le_of_ble_eq_true rfl, Nat.le_of_ble_eq_true rfl⟩ (cells' := 1) (slots' := 6) ⟨rfl, rfl⟩ (fun _ => updM [0, 1, 2, 3, 4, 5, 6, 7, 8, 9, 10, 11, 12, 13, 14] [15] [(b0, .inl (cy 2, 1, .inr (.inl (o))))] 16 rfl rfl rfl rfl rfl (by decide +kernel) (by decide +kernel) rfl) (fun _ => updM [0, 1, 2, 3, 4, 5, 6, 7, 8, 9, 10, 11, 12, 13, 14] [15] [(b0, .inl (cy 2, 1, .inr (.inl (o))))] 16 rfl rfl rfl rfl rfl (by decide +kernel) (by decide +kernel) rfl) (fun E ce q9 u H locs hw hE hP hD hS hc1 hc2 hc3 => ?_) (fun r u H locs hw hP hD hS => ?_)
  · subst hw
    have hP : va_P (dC, dI) vwCl (w_L_days cy z a0 b0 v.2.1 v.2.2.1 v.2.2.2.1 v.2.2.2.2.1 v.2.2.2.2.2 gtx o) H := hP
    have hD : va_D A (w_L_days cy z a0 b0 v.2.1 v.2.2.1 v.2.2.2.1 v.2.2.2.2.1 v.2.2.2.2.2 gtx o) := hD
    rcases hE with ⟨rfl, hE⟩ | ⟨rfl, hE⟩
    · rw [hE] at h
      dsimp only [xb] at h
      rw [if_pos rfl] at h
      exact no_some h
    · rw [hE] at h
      dsimp only [xb] at h
      rw [if_neg (by decide), if_pos rfl] at h
      refine vx_catch (name := "java/lang/IllegalArgumentException") hown [] (⟨0, 9, 12, 13⟩ : ExceptionTableEntry) [] htb (fun z9 hz9 => by cases hz9) rfl (by decide) lk13 (va_Nw.use rfl hX.2.2.2.2.2.1) hc1 hc2 hc3 ?_
      refine lv_astore_n (lv' := [(3, .ref q9), (0, .ref (a0 0)), (1, .int x1), (2, .ref b0)]) hx hb dL_days_12 rfl hl (by decide) rfl (fun ls hl => ?_)
      refine lv_iconst (v := (1 : Int32)) hx hb dL_days_13 (by decide) ?_
      exact W.iret (v := (1 : Int32)) hx hb hr (fun t ht hW => by rw [hqq]; have hh := Option.some.inj h; exact ⟨⟨(1 : Int32), (v.2, o), rfl, ⟨fst_of hh, snd_of hh⟩, by rw [ht]; exact hP, va_K.moved hW.alike hK⟩, hS.F ht⟩) hS.2.2 dL_days_14
  obtain ⟨hw1, hw2⟩ := hw
  subst hw2
  rw [← hw1] at h
  dsimp only [xb] at h
  have hP : va_P (dC, dI) vwCl (w_L_days cy z a0 b0 v.2.1 v.2.2.1 v.2.2.2.1 v.2.2.2.2.1 v.2.2.2.2.2 gtx o) H := hP
  have hD : va_D A (w_L_days cy z a0 b0 v.2.1 v.2.2.1 v.2.2.2.1 v.2.2.2.2.1 v.2.2.2.2.2 gtx o) := hD
  refine lv_i2l hx hb dL_days_7 rfl ?_
  refine va_last hx hb hK hP hD hS 15 2 rfl rfl (ix_in (by decide : ix (0 : Int32) 1)) dL_days_8 (fun H locs hP hD hS => ?_)
  have hP : va_P (dC, dI) vwCl (w_L_days cy z a0 b0 v.2.1 v.2.2.1 v.2.2.2.1 v.2.2.2.2.1 v.2.2.2.2.2 gtx (vp_updL o (0 : Int32).toNatClampNeg r.toInt64)) H := hP
  have hD : va_D A (w_L_days cy z a0 b0 v.2.1 v.2.2.1 v.2.2.2.1 v.2.2.2.2.1 v.2.2.2.2.2 gtx (vp_updL o (0 : Int32).toNatClampNeg r.toInt64)) := hD
  refine lv_goto (tgt := 15) hx hb dL_days_9 (by decide) ?_
  refine lv_iconst (v := (0 : Int32)) hx hb dL_days_15 (by decide) ?_
  exact W.iret (v := (0 : Int32)) hx hb hr (fun t ht hW => by rw [hqq]; have hh := Option.some.inj h; exact ⟨⟨(0 : Int32), (v.2, vp_updL o (0 : Int32).toNatClampNeg r.toInt64), rfl, ⟨fst_of hh, snd_of hh⟩, by rw [ht]; exact hP, va_K.moved hW.alike hK⟩, hS.F ht⟩) hS.2.2 dL_days_16

abbrev w_L_count (cy : Nat → ClassId) (a0 : Nat → Nat) (b0 : Nat) (gg : Int32 × Int32 × Int32 × Int32 × Int32 × Int32) (gvn : Int32 × Int32 × (Nat → Int32) × (Nat → Int32) × (Nat → Int32) × (Nat → Int32) × (Nat → Int32)) (gdn : Int32 × Int32 × (Nat → Int32) × (Nat → Int32) × (Nat → Int32) × (Nat → Int32)) (gcn : Int32 × (Nat → Int32) × (Nat → Int32) × (Nat → Int32)) (o : Nat → Int64) : va_W := [(a0 0, .inr (10, [.ref (a0 1), .int (gg.1), .int (gg.2.1), .int (gg.2.2.1), .int (gg.2.2.2.1), .int (gg.2.2.2.2.1), .ref (a0 2), .ref (a0 17), .ref (a0 32), .int (gg.2.2.2.2.2), .ref (a0 47), .ref (a0 48), .ref (a0 49), .ref (a0 50), .ref (a0 68), .ref (a0 78), .ref (a0 80)])), (a0 2, .inr (7, [.int (gvn.1), .int (gvn.2.1), .ref (a0 3), .ref (a0 8), .ref (a0 12), .ref (a0 13), .ref (a0 14), .ref (a0 15), .ref (a0 16)])), (a0 3, .inr (2, [.int (gdn.1), .int (gdn.2.1), .ref (a0 4), .ref (a0 5), .ref (a0 6), .ref (a0 7)])), (a0 4, .inl (cy 1, 10, .inl (gdn.2.2.1))), (a0 5, .inl (cy 1, 10, .inl (gdn.2.2.2.1))), (a0 6, .inl (cy 1, 10, .inl (gdn.2.2.2.2.1))), (a0 7, .inl (cy 1, 50, .inl (gdn.2.2.2.2.2))), (a0 8, .inr (6, [.int (gcn.1), .ref (a0 9), .ref (a0 10), .ref (a0 11)])), (a0 9, .inl (cy 1, 12, .inl (gcn.2.1))), (a0 10, .inl (cy 1, 12, .inl (gcn.2.2.1))), (a0 11, .inl (cy 1, 12, .inl (gcn.2.2.2))), (a0 12, .inl (cy 1, 5, .inl (gvn.2.2.1))), (a0 13, .inl (cy 1, 5, .inl (gvn.2.2.2.1))), (a0 14, .inl (cy 1, 5, .inl (gvn.2.2.2.2.1))), (a0 15, .inl (cy 1, 5, .inl (gvn.2.2.2.2.2.1))), (a0 16, .inl (cy 1, 5, .inl (gvn.2.2.2.2.2.2))), (b0, .inl (cy 2, 1, .inr (.inl (o))))]
abbrev rm_L_count : Room := { frames := 7, cells := 1, slots := 6, locals := 111 }
def p_L_count (gg : Int32 × Int32 × Int32 × Int32 × Int32 × Int32) (gvn : Int32 × Int32 × (Nat → Int32) × (Nat → Int32) × (Nat → Int32) × (Nat → Int32) × (Nat → Int32)) (gdn : Int32 × Int32 × (Nat → Int32) × (Nat → Int32) × (Nat → Int32) × (Nat → Int32)) (gcn : Int32 × (Nat → Int32) × (Nat → Int32) × (Nat → Int32)) (x1 : Int32) (o : Nat → Int64) : Option (Int32 × (Unit) × (Nat → Int64)) := ((p_X12_count gg gvn gdn gcn x1).bind fun v => xb v.1 (fun r => some ((0 : Int32), v.2, vp_updL o (0 : Int32).toNatClampNeg r.toInt64)) (fun k => if k = 1 then some ((1 : Int32), v.2, o) else if k = 2 then none else none))
set_option maxHeartbeats 1000000 in
set_option maxRecDepth 100000 in
theorem c_L_count (l : Launch) (dC : Nat → ClassId) (dI : Nat → Nat → Nat) (cy : Nat → ClassId) (z : Nat → Nat) (hl9 : l.stackTraces = false) (a0 : Nat → Nat) (b0 : Nat) (gg : Int32 × Int32 × Int32 × Int32 × Int32 × Int32) (gvn : Int32 × Int32 × (Nat → Int32) × (Nat → Int32) × (Nat → Int32) × (Nat → Int32) × (Nat → Int32)) (gdn : Int32 × Int32 × (Nat → Int32) × (Nat → Int32) × (Nat → Int32) × (Nat → Int32)) (gcn : Int32 × (Nat → Int32) × (Nat → Int32) × (Nat → Int32)) (x1 : Int32) (o : Nat → Int64) (sz : Nat) (R0 : Int32 × (Unit) × (Nat → Int64)) (h : p_L_count gg gvn gdn gcn x1 o = some R0) : Met l yL_count wsL_count rm_L_count (va_Pc [.ref (a0 0), .int x1, .ref b0] (prL dC dI cy z (w_L_count cy a0 b0 gg gvn gdn gcn o) sz)) (va_Qi (fun (r : Int32) (u : (Unit) × (Nat → Int64)) => r = R0.1 ∧ u = R0.2) (fun u t => poC dC dI cy (w_L_count cy a0 b0 gg gvn gdn gcn u.2) t) (va_A (w_L_count cy a0 b0 gg gvn gdn gcn o) sz)) 1 6 (va_A (w_L_count cy a0 b0 gg gvn gdn gcn o) sz) := by
  refine va_MetW (cc := cL_count) (maxL := 4) (ret := (some .int)) (hh := [(0, 9, 12, 21)]) (by decide) rfl ?_
  intro p e s m aa below meth c s₁ B hml hv
  obtain ⟨haa, ⟨⟨hsz, hP, hK, hD0⟩, hX⟩, hN⟩ := hv
  have hx := B.exec
  have hb := B.bytes
  have hr := B.returns
  have hts := atoms_spec (ws := wsL_count) B.pre
  have htb : c.exceptionTable.toList = tableOf [(0, 9, 12, 21)] := vx_table (x := yL_count) B (hts _ List.mem_cons_self)
  have hown : s.vm.findClass RL = some m.cls := findClass_of_methodNamed B.named
  have hlocks := B.notSynchronized
  subst hsz
  have hD := hD0.self (sz := s.heap.size)
  obtain ⟨qq, hqq⟩ : ∃ qq, qq = (va_Qi (fun (r : Int32) (u : (Unit) × (Nat → Int64)) => r = R0.1 ∧ u = R0.2) (fun u t => poC dC dI cy (w_L_count cy a0 b0 gg gvn gdn gcn u.2) t) (va_A (w_L_count cy a0 b0 gg gvn gdn gcn o) s.heap.size)) := ⟨_, rfl⟩
  rw [← hqq]
  generalize hAe : va_A (w_L_count cy a0 b0 gg gvn gdn gcn o) s.heap.size = A at hD hqq hX ⊢
  have hA : ∀ q : Nat, s.heap.size ≤ q → A q := fun q h => by rw [← hAe]; exact Or.inr h
  have hS : va_S A s.heap s.heap [] := va_S.rf
  have hl := lv_entry ([.ref (a0 0), .int x1, .ref b0]) (n := 4) (Nat.le_of_ble_eq_true rfl)
  have hE : entryFrame m aa 4 = F0 m 0 ((lg_sl ([.ref (a0 0), .int x1, .ref b0]) ++ List.replicate (4 - (lg_sl ([.ref (a0 0), .int x1, .ref b0])).length) Slot.unset).toArray) [] := by rw [haa]; exact lg_entry_eq m _ 4
  refine W.eq hE ?_
  generalize (lg_sl ([.ref (a0 0), .int x1, .ref b0]) ++ List.replicate (4 - (lg_sl ([.ref (a0 0), .int x1, .ref b0])).length) Slot.unset).toArray = ls at hl ⊢
  have hl : lv_has ls 4 [(0, .ref (a0 0)), (1, .int x1), (2, .ref b0)] := hl
  change W p l e rm_L_count s m aa below meth c s.heap [] 0 0 (MQ below qq aa s 1 6 A) (F0 m 0 ls [])
  have lk21 := hts (.classLink RL 21 "java/util/NoSuchElementException") (by decide +kernel)
  obtain ⟨H, hH⟩ : ∃ H : Heap, H = s.heap := ⟨_, rfl⟩
  obtain ⟨locs, hlocs⟩ : ∃ locs : List Loc, locs = [] := ⟨_, rfl⟩
  have hS : va_S A s.heap H locs := by rw [hH, hlocs]; exact hS
  rw [← hH] at hP
  suffices hg : W p l e rm_L_count s m aa below meth c H locs 0 0 (MQ below qq aa s 1 6 A) (F0 m 0 ls []) by subst hH; subst hlocs; exact hg
  unfold p_L_count at h
  obtain ⟨v, hv, h⟩ := ok_bind h
  refine lv_aload_n hx hb dL_count_0 rfl (lv_at hl 2 rfl) ?_
  refine lv_iconst (v := (0 : Int32)) hx hb dL_count_1 (by decide) ?_
  refine lv_aload_n hx hb dL_count_2 rfl (lv_at hl 0 rfl) ?_
  refine lv_iload_n hx hb dL_count_3 rfl (lv_at hl 1 rfl) ?_
  refine cx_vi (w2 := fun (_ : Unit) => w_L_count cy a0 b0 gg gvn gdn gcn o) (w2x := fun (_ : Unit) => w_L_count cy a0 b0 gg gvn gdn gcn o) (As := [.int x1]) (rest := [.int (0 : Int32), .ref b0]) ⟨hx, hb, hml, hown, hts⟩ (c_X12_count l dC dI cy z hl9 a0 gg gvn gdn gcn x1 H.size v hv) (cwV 1 hts gL_count_X12_count rfl rfl rfl (by decide +kernel) ⟨Nat.le_of_ble_eq_true rfl, Nat.le_of_ble_eq_true rfl⟩) (va_recv hK hP (ci := 10) (q0 := 0) rfl rfl) cl_blindS (cl_preS hK hP hD hS hA hX [0, 1, 2, 3, 4, 5, 6, 7, 8, 9, 10, 11, 12, 13, 14, 15] (by decide) rfl) hP hD hS hA [0, 1, 2, 3, 4, 5, 6, 7, 8, 9, 10, 11, 12, 13, 14, 15] rfl rfl hl.1 rfl (lv_room (Nat.le_of_ble_eq_true rfl)) dL_count_4 ⟨Nat.le_of_ble_eq_true rfl, Nat.le_of_ble_eq_true rfl⟩ (cells' := 1) (slots' := 6) ⟨rfl, rfl⟩ (fun _ => updR [0, 1, 2, 3, 4, 5, 6, 7, 8, 9, 10, 11, 12, 13, 14, 15] rfl) (fun _ => updR [0, 1, 2, 3, 4, 5, 6, 7, 8, 9, 10, 11, 12, 13, 14, 15] rfl) (fun E ce q9 u H locs hw hE hP hD hS hc1 hc2 hc3 => ?_) (fun r u H locs hw hP hD hS => ?_)
  · subst hw
    have hP : va_P (dC, dI) vwCl (w_L_count cy a0 b0 gg gvn gdn gcn o) H := hP
    have hD : va_D A (w_L_count cy a0 b0 gg gvn gdn gcn o) := hD
    rcases hE with ⟨rfl, hE⟩ | ⟨rfl, hE⟩
    · rw [hE] at h
      dsimp only [xb] at h
      rw [if_pos rfl] at h
      refine vx_catch (name := "java/util/NoSuchElementException") hown [] (⟨0, 9, 12, 21⟩ : ExceptionTableEntry) [] htb (fun z9 hz9 => by cases hz9) rfl (by decide) lk21 (va_Nw.use rfl hX.2.2.2.2.1) hc1 hc2 hc3 ?_
      refine lv_astore_n (lv' := [(3, .ref q9), (0, .ref (a0 0)), (1, .int x1), (2, .ref b0)]) hx hb dL_count_12 rfl hl (by decide) rfl (fun ls hl => ?_)
      refine lv_iconst (v := (1 : Int32)) hx hb dL_count_13 (by decide) ?_
      exact W.iret (v := (1 : Int32)) hx hb hr (fun t ht hW => by rw [hqq]; have hh := Option.some.inj h; exact ⟨⟨(1 : Int32), (v.2, o), rfl, ⟨fst_of hh, snd_of hh⟩, by rw [ht]; exact hP, va_K.moved hW.alike hK⟩, hS.F ht⟩) hS.2.2 dL_count_14
    · rw [hE] at h
      dsimp only [xb] at h
      rw [if_neg (by decide), if_pos rfl] at h
      exact no_some h
  obtain ⟨hw1, hw2⟩ := hw
  subst hw2
  rw [← hw1] at h
  dsimp only [xb] at h
  have hP : va_P (dC, dI) vwCl (w_L_count cy a0 b0 gg gvn gdn gcn o) H := hP
  have hD : va_D A (w_L_count cy a0 b0 gg gvn gdn gcn o) := hD
  refine lv_i2l hx hb dL_count_7 rfl ?_
  refine va_last hx hb hK hP hD hS 16 2 rfl rfl (ix_in (by decide : ix (0 : Int32) 1)) dL_count_8 (fun H locs hP hD hS => ?_)
  have hP : va_P (dC, dI) vwCl (w_L_count cy a0 b0 gg gvn gdn gcn (vp_updL o (0 : Int32).toNatClampNeg r.toInt64)) H := hP
  have hD : va_D A (w_L_count cy a0 b0 gg gvn gdn gcn (vp_updL o (0 : Int32).toNatClampNeg r.toInt64)) := hD
  refine lv_goto (tgt := 15) hx hb dL_count_9 (by decide) ?_
  refine lv_iconst (v := (0 : Int32)) hx hb dL_count_15 (by decide) ?_
  exact W.iret (v := (0 : Int32)) hx hb hr (fun t ht hW => by rw [hqq]; have hh := Option.some.inj h; exact ⟨⟨(0 : Int32), (v.2, vp_updL o (0 : Int32).toNatClampNeg r.toInt64), rfl, ⟨fst_of hh, snd_of hh⟩, by rw [ht]; exact hP, va_K.moved hW.alike hK⟩, hS.F ht⟩) hS.2.2 dL_count_16

abbrev w_L_owner (cy : Nat → ClassId) (a0 : Nat → Nat) (b0 : Nat) (gg : Int32 × Int32 × Int32 × Int32 × Int32 × Int32) (gvn : Int32 × Int32 × (Nat → Int32) × (Nat → Int32) × (Nat → Int32) × (Nat → Int32) × (Nat → Int32)) (gdn : Int32 × Int32 × (Nat → Int32) × (Nat → Int32) × (Nat → Int32) × (Nat → Int32)) (o : Nat → Int64) : va_W := [(a0 0, .inr (10, [.ref (a0 1), .int (gg.1), .int (gg.2.1), .int (gg.2.2.1), .int (gg.2.2.2.1), .int (gg.2.2.2.2.1), .ref (a0 2), .ref (a0 17), .ref (a0 32), .int (gg.2.2.2.2.2), .ref (a0 47), .ref (a0 48), .ref (a0 49), .ref (a0 50), .ref (a0 68), .ref (a0 78), .ref (a0 80)])), (a0 2, .inr (7, [.int (gvn.1), .int (gvn.2.1), .ref (a0 3), .ref (a0 8), .ref (a0 12), .ref (a0 13), .ref (a0 14), .ref (a0 15), .ref (a0 16)])), (a0 3, .inr (2, [.int (gdn.1), .int (gdn.2.1), .ref (a0 4), .ref (a0 5), .ref (a0 6), .ref (a0 7)])), (a0 4, .inl (cy 1, 10, .inl (gdn.2.2.1))), (a0 5, .inl (cy 1, 10, .inl (gdn.2.2.2.1))), (a0 6, .inl (cy 1, 10, .inl (gdn.2.2.2.2.1))), (a0 7, .inl (cy 1, 50, .inl (gdn.2.2.2.2.2))), (a0 12, .inl (cy 1, 5, .inl (gvn.2.2.1))), (a0 13, .inl (cy 1, 5, .inl (gvn.2.2.2.1))), (a0 14, .inl (cy 1, 5, .inl (gvn.2.2.2.2.1))), (a0 15, .inl (cy 1, 5, .inl (gvn.2.2.2.2.2.1))), (a0 16, .inl (cy 1, 5, .inl (gvn.2.2.2.2.2.2))), (b0, .inl (cy 2, 1, .inr (.inl (o))))]
abbrev rm_L_owner : Room := { frames := 8, cells := 2, slots := 12, locals := 162 }
def p_L_owner (gvn : Int32 × Int32 × (Nat → Int32) × (Nat → Int32) × (Nat → Int32) × (Nat → Int32) × (Nat → Int32)) (gdn : Int32 × Int32 × (Nat → Int32) × (Nat → Int32) × (Nat → Int32) × (Nat → Int32)) (x1 : Int32) (x2 : Int32) (o : Nat → Int64) : Option (Int32 × (Unit) × (Nat → Int64)) := ((p_X12_owner gvn gdn x1 x2).bind fun v => xb v.1 (fun r => some ((0 : Int32), v.2, vp_updL o (0 : Int32).toNatClampNeg r.toInt64)) (fun k => if k = 1 then some ((1 : Int32), v.2, o) else if k = 2 then none else none))
set_option maxHeartbeats 1000000 in
set_option maxRecDepth 100000 in
theorem c_L_owner (l : Launch) (dC : Nat → ClassId) (dI : Nat → Nat → Nat) (cy : Nat → ClassId) (z : Nat → Nat) (hl9 : l.stackTraces = false) (a0 : Nat → Nat) (b0 : Nat) (gg : Int32 × Int32 × Int32 × Int32 × Int32 × Int32) (gvn : Int32 × Int32 × (Nat → Int32) × (Nat → Int32) × (Nat → Int32) × (Nat → Int32) × (Nat → Int32)) (gdn : Int32 × Int32 × (Nat → Int32) × (Nat → Int32) × (Nat → Int32) × (Nat → Int32)) (x1 : Int32) (x2 : Int32) (o : Nat → Int64) (sz : Nat) (R0 : Int32 × (Unit) × (Nat → Int64)) (h : p_L_owner gvn gdn x1 x2 o = some R0) : Met l yL_owner wsL_owner rm_L_owner (va_Pc [.ref (a0 0), .int x1, .int x2, .ref b0] (prL dC dI cy z (w_L_owner cy a0 b0 gg gvn gdn o) sz)) (va_Qi (fun (r : Int32) (u : (Unit) × (Nat → Int64)) => r = R0.1 ∧ u = R0.2) (fun u t => poC dC dI cy (w_L_owner cy a0 b0 gg gvn gdn u.2) t) (va_A (w_L_owner cy a0 b0 gg gvn gdn o) sz)) 2 12 (va_A (w_L_owner cy a0 b0 gg gvn gdn o) sz) := by
  refine va_MetW (cc := cL_owner) (maxL := 5) (ret := (some .int)) (hh := [(0, 10, 13, 21)]) (by decide) rfl ?_
  intro p e s m aa below meth c s₁ B hml hv
  obtain ⟨haa, ⟨⟨hsz, hP, hK, hD0⟩, hX⟩, hN⟩ := hv
  have hx := B.exec
  have hb := B.bytes
  have hr := B.returns
  have hts := atoms_spec (ws := wsL_owner) B.pre
  have htb : c.exceptionTable.toList = tableOf [(0, 10, 13, 21)] := vx_table (x := yL_owner) B (hts _ List.mem_cons_self)
  have hown : s.vm.findClass RL = some m.cls := findClass_of_methodNamed B.named
  have hlocks := B.notSynchronized
  subst hsz
  have hD := hD0.self (sz := s.heap.size)
  obtain ⟨qq, hqq⟩ : ∃ qq, qq = (va_Qi (fun (r : Int32) (u : (Unit) × (Nat → Int64)) => r = R0.1 ∧ u = R0.2) (fun u t => poC dC dI cy (w_L_owner cy a0 b0 gg gvn gdn u.2) t) (va_A (w_L_owner cy a0 b0 gg gvn gdn o) s.heap.size)) := ⟨_, rfl⟩
  rw [← hqq]
  generalize hAe : va_A (w_L_owner cy a0 b0 gg gvn gdn o) s.heap.size = A at hD hqq hX ⊢
  have hA : ∀ q : Nat, s.heap.size ≤ q → A q := fun q h => by rw [← hAe]; exact Or.inr h
  have hS : va_S A s.heap s.heap [] := va_S.rf
  have hl := lv_entry ([.ref (a0 0), .int x1, .int x2, .ref b0]) (n := 5) (Nat.le_of_ble_eq_true rfl)
  have hE : entryFrame m aa 5 = F0 m 0 ((lg_sl ([.ref (a0 0), .int x1, .int x2, .ref b0]) ++ List.replicate (5 - (lg_sl ([.ref (a0 0), .int x1, .int x2, .ref b0])).length) Slot.unset).toArray) [] := by rw [haa]; exact lg_entry_eq m _ 5
  refine W.eq hE ?_
  generalize (lg_sl ([.ref (a0 0), .int x1, .int x2, .ref b0]) ++ List.replicate (5 - (lg_sl ([.ref (a0 0), .int x1, .int x2, .ref b0])).length) Slot.unset).toArray = ls at hl ⊢
  have hl : lv_has ls 5 [(0, .ref (a0 0)), (1, .int x1), (2, .int x2), (3, .ref b0)] := hl
  change W p l e rm_L_owner s m aa below meth c s.heap [] 0 0 (MQ below qq aa s 2 12 A) (F0 m 0 ls [])
  have lk21 := hts (.classLink RL 21 "java/util/NoSuchElementException") (by decide +kernel)
  obtain ⟨H, hH⟩ : ∃ H : Heap, H = s.heap := ⟨_, rfl⟩
  obtain ⟨locs, hlocs⟩ : ∃ locs : List Loc, locs = [] := ⟨_, rfl⟩
  have hS : va_S A s.heap H locs := by rw [hH, hlocs]; exact hS
  rw [← hH] at hP
  suffices hg : W p l e rm_L_owner s m aa below meth c H locs 0 0 (MQ below qq aa s 2 12 A) (F0 m 0 ls []) by subst hH; subst hlocs; exact hg
  unfold p_L_owner at h
  obtain ⟨v, hv, h⟩ := ok_bind h
  refine lv_aload_n hx hb dL_owner_0 rfl (lv_at hl 3 rfl) ?_
  refine lv_iconst (v := (0 : Int32)) hx hb dL_owner_1 (by decide) ?_
  refine lv_aload_n hx hb dL_owner_2 rfl (lv_at hl 0 rfl) ?_
  refine lv_iload_n hx hb dL_owner_3 rfl (lv_at hl 1 rfl) ?_
  refine lv_iload_n hx hb dL_owner_4 rfl (lv_at hl 2 rfl) ?_
  refine cx_vi (w2 := fun (_ : Unit) => w_L_owner cy a0 b0 gg gvn gdn o) (w2x := fun (_ : Unit) => w_L_owner cy a0 b0 gg gvn gdn o) (As := [.int x1, .int x2]) (rest := [.int (0 : Int32), .ref b0]) ⟨hx, hb, hml, hown, hts⟩ (c_X12_owner l dC dI cy z hl9 a0 gg gvn gdn x1 x2 H.size v hv) (cwV 2 hts gL_owner_X12_owner rfl rfl rfl (by decide +kernel) ⟨Nat.le_of_ble_eq_true rfl, Nat.le_of_ble_eq_true rfl⟩) (va_recv hK hP (ci := 10) (q0 := 0) rfl rfl) cl_blindS (cl_preS hK hP hD hS hA hX [0, 1, 2, 3, 4, 5, 6, 7, 8, 9, 10, 11] (by decide) rfl) hP hD hS hA [0, 1, 2, 3, 4, 5, 6, 7, 8, 9, 10, 11] rfl rfl hl.1 rfl (lv_room (Nat.le_of_ble_eq_true rfl)) dL_owner_5 ⟨Nat.le_of_ble_eq_true rfl, Nat.le_of_ble_eq_true rfl⟩ (cells' := 2) (slots' := 12) ⟨rfl, rfl⟩ (fun _ => updR [0, 1, 2, 3, 4, 5, 6, 7, 8, 9, 10, 11] rfl) (fun _ => updR [0, 1, 2, 3, 4, 5, 6, 7, 8, 9, 10, 11] rfl) (fun E ce q9 u H locs hw hE hP hD hS hc1 hc2 hc3 => ?_) (fun r u H locs hw hP hD hS => ?_)
  · subst hw
    have hP : va_P (dC, dI) vwCl (w_L_owner cy a0 b0 gg gvn gdn o) H := hP
    have hD : va_D A (w_L_owner cy a0 b0 gg gvn gdn o) := hD
    rcases hE with ⟨rfl, hE⟩ | ⟨rfl, hE⟩
    · rw [hE] at h
      dsimp only [xb] at h
      rw [if_pos rfl] at h
      refine vx_catch (name := "java/util/NoSuchElementException") hown [] (⟨0, 10, 13, 21⟩ : ExceptionTableEntry) [] htb (fun z9 hz9 => by cases hz9) rfl (by decide) lk21 (va_Nw.use rfl hX.2.2.2.2.1) hc1 hc2 hc3 ?_
      refine lv_astore (lv' := [(4, .ref q9), (0, .ref (a0 0)), (1, .int x1), (2, .int x2), (3, .ref b0)]) hx hb dL_owner_13 hl (by decide) rfl (fun ls hl => ?_)
      refine lv_iconst (v := (1 : Int32)) hx hb dL_owner_15 (by decide) ?_
      exact W.iret (v := (1 : Int32)) hx hb hr (fun t ht hW => by rw [hqq]; have hh := Option.some.inj h; exact ⟨⟨(1 : Int32), (v.2, o), rfl, ⟨fst_of hh, snd_of hh⟩, by rw [ht]; exact hP, va_K.moved hW.alike hK⟩, hS.F ht⟩) hS.2.2 dL_owner_16
    · rw [hE] at h
      dsimp only [xb] at h
      rw [if_neg (by decide), if_pos rfl] at h
      exact no_some h
  obtain ⟨hw1, hw2⟩ := hw
  subst hw2
  rw [← hw1] at h
  dsimp only [xb] at h
  have hP : va_P (dC, dI) vwCl (w_L_owner cy a0 b0 gg gvn gdn o) H := hP
  have hD : va_D A (w_L_owner cy a0 b0 gg gvn gdn o) := hD
  refine lv_i2l hx hb dL_owner_8 rfl ?_
  refine va_last hx hb hK hP hD hS 12 2 rfl rfl (ix_in (by decide : ix (0 : Int32) 1)) dL_owner_9 (fun H locs hP hD hS => ?_)
  have hP : va_P (dC, dI) vwCl (w_L_owner cy a0 b0 gg gvn gdn (vp_updL o (0 : Int32).toNatClampNeg r.toInt64)) H := hP
  have hD : va_D A (w_L_owner cy a0 b0 gg gvn gdn (vp_updL o (0 : Int32).toNatClampNeg r.toInt64)) := hD
  refine lv_goto (tgt := 17) hx hb dL_owner_10 (by decide) ?_
  refine lv_iconst (v := (0 : Int32)) hx hb dL_owner_17 (by decide) ?_
  exact W.iret (v := (0 : Int32)) hx hb hr (fun t ht hW => by rw [hqq]; have hh := Option.some.inj h; exact ⟨⟨(0 : Int32), (v.2, vp_updL o (0 : Int32).toNatClampNeg r.toInt64), rfl, ⟨fst_of hh, snd_of hh⟩, by rw [ht]; exact hP, va_K.moved hW.alike hK⟩, hS.F ht⟩) hS.2.2 dL_owner_18

