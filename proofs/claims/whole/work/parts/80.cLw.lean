/-! the law's own methods: each calls the class, and tells what it threw -/
def prL (dC : Nat → ClassId) (dI : Nat → Nat → Nat) (cy : Nat → ClassId) (z : Nat → Nat) (ws : va_W) (sz : Nat) (U : State) : Prop := prS dC dI cy z ws sz U ∧ va_Nc "java/lang/IllegalArgumentException" "java/util/NoSuchElementException" U
theorem cl_blindL {dC : Nat → ClassId} {dI : Nat → Nat → Nat} {cy : Nat → ClassId} {z : Nat → Nat} {wc : va_W} {sz : Nat} {av : List Value} : FrameBlind (va_Pc av (prL dC dI cy z wc sz)) := fun a U g mk q => ⟨(cl_blindS a U g mk ⟨q.1, q.2.1⟩).1, (cl_blindS a U g mk ⟨q.1, q.2.1⟩).2, q.2.2⟩
theorem cl_preL {dC : Nat → ClassId} {dI : Nat → Nat → Nat} {cy : Nat → ClassId} {z : Nat → Nat} {s : State} {H : Heap} {locs : List Loc} {A : Nat → Prop} {ws wc : va_W} {av : List Value} (hK : va_K (dC, dI) vwCl (tyA cy) s) (hP : va_P (dC, dI) vwCl ws H) (hD : va_D A ws) (hS : va_S A s.heap H locs) (hA : ∀ q, s.heap.size ≤ q → A q) (hX : Sx z A s) (hN : va_Nc "java/lang/IllegalArgumentException" "java/util/NoSuchElementException" s) (is : List Nat) (hnd : va_nd is = true) (hC : is.map (fun i => ws[i]?) = wc.map some) : ∀ U : State, U.heap = H → s.WarmedH U.vm → va_Pc av (prL dC dI cy z wc H.size) av.toArray U := fun U hU hW =>
  ⟨rfl, (cl_preS (av := av) hK hP hD hS hA hX is hnd hC U hU hW).2, hN.moved hW.alike⟩

abbrev w_L_village (cy : Nat → ClassId) (a0 : Nat → Nat) (b0 : Nat) (gg : Int32 × Int32 × Int32 × Int32 × Int32 × Int32) (gvn : Int32 × Int32 × (Nat → Int32) × (Nat → Int32) × (Nat → Int32) × (Nat → Int32) × (Nat → Int32)) (gdn : Int32 × Int32 × (Nat → Int32) × (Nat → Int32) × (Nat → Int32) × (Nat → Int32)) (gcn : Int32 × (Nat → Int32) × (Nat → Int32) × (Nat → Int32)) (gvd : Int32 × Int32 × (Nat → Int32) × (Nat → Int32) × (Nat → Int32) × (Nat → Int32) × (Nat → Int32)) (gdd : Int32 × Int32 × (Nat → Int32) × (Nat → Int32) × (Nat → Int32) × (Nat → Int32)) (gcd : Int32 × (Nat → Int32) × (Nat → Int32) × (Nat → Int32)) (gr : Int32 × Int32 × Int32 × Int32 × Int32 × Int32 × Int32 × Int32 × Int32) (gvr : Int32 × Int32) (gtx : (Nat → Int32)) (o : Nat → Int64) : va_W := [(a0 0, .inr (10, [.ref (a0 1), .int (gg.1), .int (gg.2.1), .int (gg.2.2.1), .int (gg.2.2.2.1), .int (gg.2.2.2.2.1), .ref (a0 2), .ref (a0 17), .ref (a0 32), .int (gg.2.2.2.2.2), .ref (a0 47), .ref (a0 48), .ref (a0 49), .ref (a0 50), .ref (a0 68), .ref (a0 78), .ref (a0 80)])), (a0 1, .inl (cy 0, 600, .inl (gtx))), (a0 2, .inr (7, [.int (gvn.1), .int (gvn.2.1), .ref (a0 3), .ref (a0 8), .ref (a0 12), .ref (a0 13), .ref (a0 14), .ref (a0 15), .ref (a0 16)])), (a0 3, .inr (2, [.int (gdn.1), .int (gdn.2.1), .ref (a0 4), .ref (a0 5), .ref (a0 6), .ref (a0 7)])), (a0 4, .inl (cy 1, 10, .inl (gdn.2.2.1))), (a0 5, .inl (cy 1, 10, .inl (gdn.2.2.2.1))), (a0 6, .inl (cy 1, 10, .inl (gdn.2.2.2.2.1))), (a0 7, .inl (cy 1, 50, .inl (gdn.2.2.2.2.2))), (a0 8, .inr (6, [.int (gcn.1), .ref (a0 9), .ref (a0 10), .ref (a0 11)])), (a0 9, .inl (cy 1, 12, .inl (gcn.2.1))), (a0 10, .inl (cy 1, 12, .inl (gcn.2.2.1))), (a0 11, .inl (cy 1, 12, .inl (gcn.2.2.2))), (a0 12, .inl (cy 1, 5, .inl (gvn.2.2.1))), (a0 13, .inl (cy 1, 5, .inl (gvn.2.2.2.1))), (a0 14, .inl (cy 1, 5, .inl (gvn.2.2.2.2.1))), (a0 15, .inl (cy 1, 5, .inl (gvn.2.2.2.2.2.1))), (a0 16, .inl (cy 1, 5, .inl (gvn.2.2.2.2.2.2))), (a0 17, .inr (7, [.int (gvd.1), .int (gvd.2.1), .ref (a0 18), .ref (a0 23), .ref (a0 27), .ref (a0 28), .ref (a0 29), .ref (a0 30), .ref (a0 31)])), (a0 18, .inr (2, [.int (gdd.1), .int (gdd.2.1), .ref (a0 19), .ref (a0 20), .ref (a0 21), .ref (a0 22)])), (a0 19, .inl (cy 1, 10, .inl (gdd.2.2.1))), (a0 20, .inl (cy 1, 10, .inl (gdd.2.2.2.1))), (a0 21, .inl (cy 1, 10, .inl (gdd.2.2.2.2.1))), (a0 22, .inl (cy 1, 50, .inl (gdd.2.2.2.2.2))), (a0 23, .inr (6, [.int (gcd.1), .ref (a0 24), .ref (a0 25), .ref (a0 26)])), (a0 24, .inl (cy 1, 12, .inl (gcd.2.1))), (a0 25, .inl (cy 1, 12, .inl (gcd.2.2.1))), (a0 26, .inl (cy 1, 12, .inl (gcd.2.2.2))), (a0 27, .inl (cy 1, 5, .inl (gvd.2.2.1))), (a0 28, .inl (cy 1, 5, .inl (gvd.2.2.2.1))), (a0 29, .inl (cy 1, 5, .inl (gvd.2.2.2.2.1))), (a0 30, .inl (cy 1, 5, .inl (gvd.2.2.2.2.2.1))), (a0 31, .inl (cy 1, 5, .inl (gvd.2.2.2.2.2.2))), (a0 47, .inr (5, [.ref (a0 1), .int (gr.1), .int (gr.2.1), .int (gr.2.2.1), .int (gr.2.2.2.1), .int (gr.2.2.2.2.1), .int (gr.2.2.2.2.2.1), .int (gr.2.2.2.2.2.2.1), .int (gr.2.2.2.2.2.2.2.1), .int (gr.2.2.2.2.2.2.2.2)])), (a0 48, .inr (8, [.ref (a0 47), .int (gvr.1), .int (gvr.2)])), (b0, .inl (cy 2, 1, .inr (.inl (o))))]
abbrev rm_L_village : Room := { frames := 9, cells := 1, slots := 6, locals := 196 }
def p_L_village (gg : Int32 × Int32 × Int32 × Int32 × Int32 × Int32) (gvn : Int32 × Int32 × (Nat → Int32) × (Nat → Int32) × (Nat → Int32) × (Nat → Int32) × (Nat → Int32)) (gdn : Int32 × Int32 × (Nat → Int32) × (Nat → Int32) × (Nat → Int32) × (Nat → Int32)) (gcn : Int32 × (Nat → Int32) × (Nat → Int32) × (Nat → Int32)) (gvd : Int32 × Int32 × (Nat → Int32) × (Nat → Int32) × (Nat → Int32) × (Nat → Int32) × (Nat → Int32)) (gdd : Int32 × Int32 × (Nat → Int32) × (Nat → Int32) × (Nat → Int32) × (Nat → Int32)) (gcd : Int32 × (Nat → Int32) × (Nat → Int32) × (Nat → Int32)) (gr : Int32 × Int32 × Int32 × Int32 × Int32 × Int32 × Int32 × Int32 × Int32) (gvr : Int32 × Int32) (gtx : (Nat → Int32)) (x1 : Int32) (o : Nat → Int64) : Option (Int32 × ((Int32 × Int32 × Int32 × Int32 × Int32 × Int32) × (Int32 × Int32 × (Nat → Int32) × (Nat → Int32) × (Nat → Int32) × (Nat → Int32) × (Nat → Int32)) × (Int32 × Int32 × (Nat → Int32) × (Nat → Int32) × (Nat → Int32) × (Nat → Int32)) × (Int32 × (Nat → Int32) × (Nat → Int32) × (Nat → Int32)) × (Int32 × Int32 × (Nat → Int32) × (Nat → Int32) × (Nat → Int32) × (Nat → Int32) × (Nat → Int32)) × (Int32 × Int32 × (Nat → Int32) × (Nat → Int32) × (Nat → Int32) × (Nat → Int32)) × (Int32 × (Nat → Int32) × (Nat → Int32) × (Nat → Int32)) × (Int32 × Int32 × Int32 × Int32 × Int32 × Int32 × Int32 × Int32 × Int32) × (Int32 × Int32)) × (Nat → Int64)) := ((p_X12_village gg gvn gdn gcn gvd gdd gcd gr gvr gtx x1).bind fun v => xb v.1 (fun r => some ((0 : Int32), v.2, vp_updL o (0 : Int32).toNatClampNeg r.toInt64)) (fun k => if k = 1 then none else if k = 2 then some ((1 : Int32), v.2, o) else none))
set_option maxHeartbeats 1000000 in
set_option maxRecDepth 100000 in
theorem c_L_village (l : Launch) (dC : Nat → ClassId) (dI : Nat → Nat → Nat) (cy : Nat → ClassId) (z : Nat → Nat) (hl9 : l.stackTraces = false) (a0 : Nat → Nat) (b0 : Nat) (gg : Int32 × Int32 × Int32 × Int32 × Int32 × Int32) (gvn : Int32 × Int32 × (Nat → Int32) × (Nat → Int32) × (Nat → Int32) × (Nat → Int32) × (Nat → Int32)) (gdn : Int32 × Int32 × (Nat → Int32) × (Nat → Int32) × (Nat → Int32) × (Nat → Int32)) (gcn : Int32 × (Nat → Int32) × (Nat → Int32) × (Nat → Int32)) (gvd : Int32 × Int32 × (Nat → Int32) × (Nat → Int32) × (Nat → Int32) × (Nat → Int32) × (Nat → Int32)) (gdd : Int32 × Int32 × (Nat → Int32) × (Nat → Int32) × (Nat → Int32) × (Nat → Int32)) (gcd : Int32 × (Nat → Int32) × (Nat → Int32) × (Nat → Int32)) (gr : Int32 × Int32 × Int32 × Int32 × Int32 × Int32 × Int32 × Int32 × Int32) (gvr : Int32 × Int32) (gtx : (Nat → Int32)) (x1 : Int32) (o : Nat → Int64) (sz : Nat) (R0 : Int32 × ((Int32 × Int32 × Int32 × Int32 × Int32 × Int32) × (Int32 × Int32 × (Nat → Int32) × (Nat → Int32) × (Nat → Int32) × (Nat → Int32) × (Nat → Int32)) × (Int32 × Int32 × (Nat → Int32) × (Nat → Int32) × (Nat → Int32) × (Nat → Int32)) × (Int32 × (Nat → Int32) × (Nat → Int32) × (Nat → Int32)) × (Int32 × Int32 × (Nat → Int32) × (Nat → Int32) × (Nat → Int32) × (Nat → Int32) × (Nat → Int32)) × (Int32 × Int32 × (Nat → Int32) × (Nat → Int32) × (Nat → Int32) × (Nat → Int32)) × (Int32 × (Nat → Int32) × (Nat → Int32) × (Nat → Int32)) × (Int32 × Int32 × Int32 × Int32 × Int32 × Int32 × Int32 × Int32 × Int32) × (Int32 × Int32)) × (Nat → Int64)) (h : p_L_village gg gvn gdn gcn gvd gdd gcd gr gvr gtx x1 o = some R0) : Met l yL_village wsL_village rm_L_village (va_Pc [.ref (a0 0), .int x1, .ref b0] (prL dC dI cy z (w_L_village cy a0 b0 gg gvn gdn gcn gvd gdd gcd gr gvr gtx o) sz)) (va_Qi (fun (r : Int32) (u : ((Int32 × Int32 × Int32 × Int32 × Int32 × Int32) × (Int32 × Int32 × (Nat → Int32) × (Nat → Int32) × (Nat → Int32) × (Nat → Int32) × (Nat → Int32)) × (Int32 × Int32 × (Nat → Int32) × (Nat → Int32) × (Nat → Int32) × (Nat → Int32)) × (Int32 × (Nat → Int32) × (Nat → Int32) × (Nat → Int32)) × (Int32 × Int32 × (Nat → Int32) × (Nat → Int32) × (Nat → Int32) × (Nat → Int32) × (Nat → Int32)) × (Int32 × Int32 × (Nat → Int32) × (Nat → Int32) × (Nat → Int32) × (Nat → Int32)) × (Int32 × (Nat → Int32) × (Nat → Int32) × (Nat → Int32)) × (Int32 × Int32 × Int32 × Int32 × Int32 × Int32 × Int32 × Int32 × Int32) × (Int32 × Int32)) × (Nat → Int64)) => r = R0.1 ∧ u = R0.2) (fun u t => poC dC dI cy (w_L_village cy a0 b0 u.1.1 u.1.2.1 u.1.2.2.1 u.1.2.2.2.1 u.1.2.2.2.2.1 u.1.2.2.2.2.2.1 u.1.2.2.2.2.2.2.1 u.1.2.2.2.2.2.2.2.1 u.1.2.2.2.2.2.2.2.2 gtx u.2) t) (va_A (w_L_village cy a0 b0 gg gvn gdn gcn gvd gdd gcd gr gvr gtx o) sz)) 1 6 (va_A (w_L_village cy a0 b0 gg gvn gdn gcn gvd gdd gcd gr gvr gtx o) sz) := by
  refine va_MetW (cc := cL_village) (maxL := 4) (ret := (some .int)) (hh := [(0, 9, 12, 13)]) (by decide) rfl ?_
  intro p e s m aa below meth c s₁ B hml hv
  obtain ⟨haa, ⟨⟨hsz, hP, hK, hD0⟩, hX⟩, hN⟩ := hv
  have hx := B.exec
  have hb := B.bytes
  have hr := B.returns
  have hts := atoms_spec (ws := wsL_village) B.pre
  have htb : c.exceptionTable.toList = tableOf [(0, 9, 12, 13)] := vx_table B (hts _ List.mem_cons_self)
  have hown : s.vm.findClass RL = some m.cls := findClass_of_methodNamed B.named
  have hlocks := B.notSynchronized
  subst hsz
  have hD := hD0.self (sz := s.heap.size)
  obtain ⟨qq, hqq⟩ : ∃ qq, qq = (va_Qi (fun (r : Int32) (u : ((Int32 × Int32 × Int32 × Int32 × Int32 × Int32) × (Int32 × Int32 × (Nat → Int32) × (Nat → Int32) × (Nat → Int32) × (Nat → Int32) × (Nat → Int32)) × (Int32 × Int32 × (Nat → Int32) × (Nat → Int32) × (Nat → Int32) × (Nat → Int32)) × (Int32 × (Nat → Int32) × (Nat → Int32) × (Nat → Int32)) × (Int32 × Int32 × (Nat → Int32) × (Nat → Int32) × (Nat → Int32) × (Nat → Int32) × (Nat → Int32)) × (Int32 × Int32 × (Nat → Int32) × (Nat → Int32) × (Nat → Int32) × (Nat → Int32)) × (Int32 × (Nat → Int32) × (Nat → Int32) × (Nat → Int32)) × (Int32 × Int32 × Int32 × Int32 × Int32 × Int32 × Int32 × Int32 × Int32) × (Int32 × Int32)) × (Nat → Int64)) => r = R0.1 ∧ u = R0.2) (fun u t => poC dC dI cy (w_L_village cy a0 b0 u.1.1 u.1.2.1 u.1.2.2.1 u.1.2.2.2.1 u.1.2.2.2.2.1 u.1.2.2.2.2.2.1 u.1.2.2.2.2.2.2.1 u.1.2.2.2.2.2.2.2.1 u.1.2.2.2.2.2.2.2.2 gtx u.2) t) (va_A (w_L_village cy a0 b0 gg gvn gdn gcn gvd gdd gcd gr gvr gtx o) s.heap.size)) := ⟨_, rfl⟩
  rw [← hqq]
  generalize hAe : va_A (w_L_village cy a0 b0 gg gvn gdn gcn gvd gdd gcd gr gvr gtx o) s.heap.size = A at hD hqq hX ⊢
  have hA : ∀ q : Nat, s.heap.size ≤ q → A q := fun q h => by rw [← hAe]; exact Or.inr h
  have hS : va_S A s.heap s.heap [] := va_S.rf
  have hl := lv_entry ([.ref (a0 0), .int x1, .ref b0]) (n := 4) (Nat.le_of_ble_eq_true rfl)
  have hE : entryFrame m aa 4 = F0 m 0 ((lg_sl ([.ref (a0 0), .int x1, .ref b0]) ++ List.replicate (4 - (lg_sl ([.ref (a0 0), .int x1, .ref b0])).length) Slot.unset).toArray) [] := by rw [haa]; exact lg_entry_eq m _ 4
  refine W.eq hE ?_
  generalize (lg_sl ([.ref (a0 0), .int x1, .ref b0]) ++ List.replicate (4 - (lg_sl ([.ref (a0 0), .int x1, .ref b0])).length) Slot.unset).toArray = ls at hl ⊢
  have hl : lv_has ls 4 [(0, .ref (a0 0)), (1, .int x1), (2, .ref b0)] := hl
  change W p l e rm_L_village s m aa below meth c s.heap [] 0 0 (MQ below qq aa s 1 6 A) (F0 m 0 ls [])
  have lk13 := hts (.classLink RL 13 "java/lang/IllegalArgumentException") (by decide +kernel)
  obtain ⟨H, hH⟩ : ∃ H : Heap, H = s.heap := ⟨_, rfl⟩
  obtain ⟨locs, hlocs⟩ : ∃ locs : List Loc, locs = [] := ⟨_, rfl⟩
  have hS : va_S A s.heap H locs := by rw [hH, hlocs]; exact hS
  rw [← hH] at hP
  suffices hg : W p l e rm_L_village s m aa below meth c H locs 0 0 (MQ below qq aa s 1 6 A) (F0 m 0 ls []) by subst hH; subst hlocs; exact hg
  unfold p_L_village at h
  obtain ⟨v, hv, h⟩ := ok_bind h
  refine lv_aload_n hx hb dL_village_0 rfl (lv_at hl 2 rfl) ?_
  refine lv_iconst (v := (0 : Int32)) hx hb dL_village_1 (by decide) ?_
  refine lv_aload_n hx hb dL_village_2 rfl (lv_at hl 0 rfl) ?_
  refine lv_iload_n hx hb dL_village_3 rfl (lv_at hl 1 rfl) ?_
  refine cx_vi (w2 := fun (u : (Int32 × Int32 × Int32 × Int32 × Int32 × Int32) × (Int32 × Int32 × (Nat → Int32) × (Nat → Int32) × (Nat → Int32) × (Nat → Int32) × (Nat → Int32)) × (Int32 × Int32 × (Nat → Int32) × (Nat → Int32) × (Nat → Int32) × (Nat → Int32)) × (Int32 × (Nat → Int32) × (Nat → Int32) × (Nat → Int32)) × (Int32 × Int32 × (Nat → Int32) × (Nat → Int32) × (Nat → Int32) × (Nat → Int32) × (Nat → Int32)) × (Int32 × Int32 × (Nat → Int32) × (Nat → Int32) × (Nat → Int32) × (Nat → Int32)) × (Int32 × (Nat → Int32) × (Nat → Int32) × (Nat → Int32)) × (Int32 × Int32 × Int32 × Int32 × Int32 × Int32 × Int32 × Int32 × Int32) × (Int32 × Int32)) => w_L_village cy a0 b0 u.1 u.2.1 u.2.2.1 u.2.2.2.1 u.2.2.2.2.1 u.2.2.2.2.2.1 u.2.2.2.2.2.2.1 u.2.2.2.2.2.2.2.1 u.2.2.2.2.2.2.2.2 gtx o) (w2x := fun (u : (Int32 × Int32 × Int32 × Int32 × Int32 × Int32) × (Int32 × Int32 × (Nat → Int32) × (Nat → Int32) × (Nat → Int32) × (Nat → Int32) × (Nat → Int32)) × (Int32 × Int32 × (Nat → Int32) × (Nat → Int32) × (Nat → Int32) × (Nat → Int32)) × (Int32 × (Nat → Int32) × (Nat → Int32) × (Nat → Int32)) × (Int32 × Int32 × (Nat → Int32) × (Nat → Int32) × (Nat → Int32) × (Nat → Int32) × (Nat → Int32)) × (Int32 × Int32 × (Nat → Int32) × (Nat → Int32) × (Nat → Int32) × (Nat → Int32)) × (Int32 × (Nat → Int32) × (Nat → Int32) × (Nat → Int32)) × (Int32 × Int32 × Int32 × Int32 × Int32 × Int32 × Int32 × Int32 × Int32) × (Int32 × Int32)) => w_L_village cy a0 b0 u.1 u.2.1 u.2.2.1 u.2.2.2.1 u.2.2.2.2.1 u.2.2.2.2.2.1 u.2.2.2.2.2.2.1 u.2.2.2.2.2.2.2.1 u.2.2.2.2.2.2.2.2 gtx o) (As := [.int x1]) (rest := [.int (0 : Int32), .ref b0]) ⟨hx, hb, hml, hown, hts⟩ (c_X12_village l dC dI cy z hl9 a0 gg gvn gdn gcn gvd gdd gcd gr gvr gtx x1 H.size v hv) (cwV 1 hts gL_village_X12_village rfl rfl rfl (by decide +kernel) ⟨Nat.le_of_ble_eq_true rfl, Nat.le_of_ble_eq_true rfl⟩) (va_recv hK hP (ci := 10) (q0 := 0) rfl rfl) cl_blindS (cl_preS hK hP hD hS hA hX [0, 1, 2, 3, 4, 5, 6, 7, 8, 9, 10, 11, 12, 13, 14, 15, 16, 17, 18, 19, 20, 21, 22, 23, 24, 25, 26, 27, 28, 29, 30, 31, 32, 33] (by decide) rfl) hP hD hS hA [0, 1, 2, 3, 4, 5, 6, 7, 8, 9, 10, 11, 12, 13, 14, 15, 16, 17, 18, 19, 20, 21, 22, 23, 24, 25, 26, 27, 28, 29, 30, 31, 32, 33] rfl rfl hl.1 rfl (lv_room (Nat.le_of_ble_eq_true rfl)) dL_village_4 ⟨Nat.le_of_ble_eq_true rfl, Nat.le_of_ble_eq_true rfl⟩ (cells' := 1) (slots' := 6) ⟨rfl, rfl⟩ (fun _ => updM [0, 1, 2, 3, 4, 5, 6, 7, 8, 9, 10, 11, 12, 13, 14, 15, 16, 17, 18, 19, 20, 21, 22, 23, 24, 25, 26, 27, 28, 29, 30, 31, 32, 33] [34] [(b0, .inl (cy 2, 1, .inr (.inl (o))))] 35 rfl rfl rfl rfl rfl (by decide +kernel) (by decide +kernel) rfl) (fun _ => updM [0, 1, 2, 3, 4, 5, 6, 7, 8, 9, 10, 11, 12, 13, 14, 15, 16, 17, 18, 19, 20, 21, 22, 23, 24, 25, 26, 27, 28, 29, 30, 31, 32, 33] [34] [(b0, .inl (cy 2, 1, .inr (.inl (o))))] 35 rfl rfl rfl rfl rfl (by decide +kernel) (by decide +kernel) rfl) (fun E ce q9 u H locs hw hE hP hD hS hc1 hc2 hc3 => ?_) (fun r u H locs hw hP hD hS => ?_)
  · subst hw
    have hP : va_P (dC, dI) vwCl (w_L_village cy a0 b0 v.2.1 v.2.2.1 v.2.2.2.1 v.2.2.2.2.1 v.2.2.2.2.2.1 v.2.2.2.2.2.2.1 v.2.2.2.2.2.2.2.1 v.2.2.2.2.2.2.2.2.1 v.2.2.2.2.2.2.2.2.2 gtx o) H := hP
    have hD : va_D A (w_L_village cy a0 b0 v.2.1 v.2.2.1 v.2.2.2.1 v.2.2.2.2.1 v.2.2.2.2.2.1 v.2.2.2.2.2.2.1 v.2.2.2.2.2.2.2.1 v.2.2.2.2.2.2.2.2.1 v.2.2.2.2.2.2.2.2.2 gtx o) := hD
    rcases hE with ⟨rfl, hE⟩ | ⟨rfl, hE⟩
    · rw [hE] at h
      dsimp only [xb] at h
      rw [if_pos rfl] at h
      exact no_some h
    · rw [hE] at h
      dsimp only [xb] at h
      rw [if_neg (by decide), if_pos rfl] at h
      refine vx_catch (name := "java/lang/IllegalArgumentException") hown [] (⟨0, 9, 12, 13⟩ : ExceptionTableEntry) [] htb (fun z9 hz9 => by cases hz9) rfl (by decide) lk13 (va_Nw.use rfl hX.2.2.2.2.2.1) hc1 hc2 hc3 ?_
      refine lv_astore_n (lv' := [(3, .ref q9), (0, .ref (a0 0)), (1, .int x1), (2, .ref b0)]) hx hb dL_village_12 rfl hl (by decide) rfl (fun ls hl => ?_)
      refine lv_iconst (v := (1 : Int32)) hx hb dL_village_13 (by decide) ?_
      exact W.iret (v := (1 : Int32)) hx hb hr (fun t ht hW => by rw [hqq]; have hh := Option.some.inj h; exact ⟨⟨(1 : Int32), (v.2, o), rfl, ⟨fst_of hh, snd_of hh⟩, by rw [ht]; exact hP, va_K.moved hW.alike hK⟩, hS.F ht⟩) hS.2.2 dL_village_14
  obtain ⟨hw1, hw2⟩ := hw
  subst hw2
  rw [← hw1] at h
  dsimp only [xb] at h
  have hP : va_P (dC, dI) vwCl (w_L_village cy a0 b0 v.2.1 v.2.2.1 v.2.2.2.1 v.2.2.2.2.1 v.2.2.2.2.2.1 v.2.2.2.2.2.2.1 v.2.2.2.2.2.2.2.1 v.2.2.2.2.2.2.2.2.1 v.2.2.2.2.2.2.2.2.2 gtx o) H := hP
  have hD : va_D A (w_L_village cy a0 b0 v.2.1 v.2.2.1 v.2.2.2.1 v.2.2.2.2.1 v.2.2.2.2.2.1 v.2.2.2.2.2.2.1 v.2.2.2.2.2.2.2.1 v.2.2.2.2.2.2.2.2.1 v.2.2.2.2.2.2.2.2.2 gtx o) := hD
  refine lv_i2l hx hb dL_village_7 rfl ?_
  refine va_last hx hb hK hP hD hS 34 2 rfl rfl (ix_in (by decide : ix (0 : Int32) 1)) dL_village_8 (fun H locs hP hD hS => ?_)
  have hP : va_P (dC, dI) vwCl (w_L_village cy a0 b0 v.2.1 v.2.2.1 v.2.2.2.1 v.2.2.2.2.1 v.2.2.2.2.2.1 v.2.2.2.2.2.2.1 v.2.2.2.2.2.2.2.1 v.2.2.2.2.2.2.2.2.1 v.2.2.2.2.2.2.2.2.2 gtx (vp_updL o (0 : Int32).toNatClampNeg r.toInt64)) H := hP
  have hD : va_D A (w_L_village cy a0 b0 v.2.1 v.2.2.1 v.2.2.2.1 v.2.2.2.2.1 v.2.2.2.2.2.1 v.2.2.2.2.2.2.1 v.2.2.2.2.2.2.2.1 v.2.2.2.2.2.2.2.2.1 v.2.2.2.2.2.2.2.2.2 gtx (vp_updL o (0 : Int32).toNatClampNeg r.toInt64)) := hD
  refine lv_goto (tgt := 15) hx hb dL_village_9 (by decide) ?_
  refine lv_iconst (v := (0 : Int32)) hx hb dL_village_15 (by decide) ?_
  exact W.iret (v := (0 : Int32)) hx hb hr (fun t ht hW => by rw [hqq]; have hh := Option.some.inj h; exact ⟨⟨(0 : Int32), (v.2, vp_updL o (0 : Int32).toNatClampNeg r.toInt64), rfl, ⟨fst_of hh, snd_of hh⟩, by rw [ht]; exact hP, va_K.moved hW.alike hK⟩, hS.F ht⟩) hS.2.2 dL_village_16

abbrev w_L_days (cy : Nat → ClassId) (z : Nat → Nat) (a0 : Nat → Nat) (b0 : Nat) (gg : Int32 × Int32 × Int32 × Int32 × Int32 × Int32) (gvn : Int32 × Int32 × (Nat → Int32) × (Nat → Int32) × (Nat → Int32) × (Nat → Int32) × (Nat → Int32)) (gdn : Int32 × Int32 × (Nat → Int32) × (Nat → Int32) × (Nat → Int32) × (Nat → Int32)) (gr : Int32 × Int32 × Int32 × Int32 × Int32 × Int32 × Int32 × Int32 × Int32) (gdr : Nat × Int32 × Int32 × Int32 × Int32) (gtx : (Nat → Int32)) (o : Nat → Int64) : va_W := [(a0 0, .inr (10, [.ref (a0 1), .int (gg.1), .int (gg.2.1), .int (gg.2.2.1), .int (gg.2.2.2.1), .int (gg.2.2.2.2.1), .ref (a0 2), .ref (a0 17), .ref (a0 32), .int (gg.2.2.2.2.2), .ref (a0 47), .ref (a0 48), .ref (a0 49), .ref (a0 50), .ref (a0 68), .ref (a0 78), .ref (a0 80)])), (a0 1, .inl (cy 0, 600, .inl (gtx))), (a0 2, .inr (7, [.int (gvn.1), .int (gvn.2.1), .ref (a0 3), .ref (a0 8), .ref (a0 12), .ref (a0 13), .ref (a0 14), .ref (a0 15), .ref (a0 16)])), (a0 3, .inr (2, [.int (gdn.1), .int (gdn.2.1), .ref (a0 4), .ref (a0 5), .ref (a0 6), .ref (a0 7)])), (a0 4, .inl (cy 1, 10, .inl (gdn.2.2.1))), (a0 5, .inl (cy 1, 10, .inl (gdn.2.2.2.1))), (a0 6, .inl (cy 1, 10, .inl (gdn.2.2.2.2.1))), (a0 7, .inl (cy 1, 50, .inl (gdn.2.2.2.2.2))), (a0 12, .inl (cy 1, 5, .inl (gvn.2.2.1))), (a0 13, .inl (cy 1, 5, .inl (gvn.2.2.2.1))), (a0 14, .inl (cy 1, 5, .inl (gvn.2.2.2.2.1))), (a0 15, .inl (cy 1, 5, .inl (gvn.2.2.2.2.2.1))), (a0 16, .inl (cy 1, 5, .inl (gvn.2.2.2.2.2.2))), (a0 47, .inr (5, [.ref (a0 1), .int (gr.1), .int (gr.2.1), .int (gr.2.2.1), .int (gr.2.2.2.1), .int (gr.2.2.2.2.1), .int (gr.2.2.2.2.2.1), .int (gr.2.2.2.2.2.2.1), .int (gr.2.2.2.2.2.2.2.1), .int (gr.2.2.2.2.2.2.2.2)])), (a0 49, .inr (1, [.ref (a0 47), .ref (z (200 + gdr.1)), .int (gdr.2.1), .int (gdr.2.2.1), .int (gdr.2.2.2.1), .int (gdr.2.2.2.2)])), (b0, .inl (cy 2, 1, .inr (.inl (o))))]
abbrev rm_L_days : Room := { frames := 9, cells := 1, slots := 6, locals := 195 }
def p_L_days (gg : Int32 × Int32 × Int32 × Int32 × Int32 × Int32) (gvn : Int32 × Int32 × (Nat → Int32) × (Nat → Int32) × (Nat → Int32) × (Nat → Int32) × (Nat → Int32)) (gdn : Int32 × Int32 × (Nat → Int32) × (Nat → Int32) × (Nat → Int32) × (Nat → Int32)) (gr : Int32 × Int32 × Int32 × Int32 × Int32 × Int32 × Int32 × Int32 × Int32) (gdr : Nat × Int32 × Int32 × Int32 × Int32) (gtx : (Nat → Int32)) (x1 : Int32) (o : Nat → Int64) : Option (Int32 × ((Int32 × Int32 × Int32 × Int32 × Int32 × Int32) × (Int32 × Int32 × (Nat → Int32) × (Nat → Int32) × (Nat → Int32) × (Nat → Int32) × (Nat → Int32)) × (Int32 × Int32 × (Nat → Int32) × (Nat → Int32) × (Nat → Int32) × (Nat → Int32)) × (Int32 × Int32 × Int32 × Int32 × Int32 × Int32 × Int32 × Int32 × Int32) × (Nat × Int32 × Int32 × Int32 × Int32)) × (Nat → Int64)) := ((p_X12_days gg gvn gdn gr gdr gtx x1).bind fun v => xb v.1 (fun r => some ((0 : Int32), v.2, vp_updL o (0 : Int32).toNatClampNeg r.toInt64)) (fun k => if k = 1 then none else if k = 2 then some ((1 : Int32), v.2, o) else none))
set_option maxHeartbeats 1000000 in
set_option maxRecDepth 100000 in
theorem c_L_days (l : Launch) (dC : Nat → ClassId) (dI : Nat → Nat → Nat) (cy : Nat → ClassId) (z : Nat → Nat) (hl9 : l.stackTraces = false) (a0 : Nat → Nat) (b0 : Nat) (gg : Int32 × Int32 × Int32 × Int32 × Int32 × Int32) (gvn : Int32 × Int32 × (Nat → Int32) × (Nat → Int32) × (Nat → Int32) × (Nat → Int32) × (Nat → Int32)) (gdn : Int32 × Int32 × (Nat → Int32) × (Nat → Int32) × (Nat → Int32) × (Nat → Int32)) (gr : Int32 × Int32 × Int32 × Int32 × Int32 × Int32 × Int32 × Int32 × Int32) (gdr : Nat × Int32 × Int32 × Int32 × Int32) (gtx : (Nat → Int32)) (x1 : Int32) (o : Nat → Int64) (sz : Nat) (R0 : Int32 × ((Int32 × Int32 × Int32 × Int32 × Int32 × Int32) × (Int32 × Int32 × (Nat → Int32) × (Nat → Int32) × (Nat → Int32) × (Nat → Int32) × (Nat → Int32)) × (Int32 × Int32 × (Nat → Int32) × (Nat → Int32) × (Nat → Int32) × (Nat → Int32)) × (Int32 × Int32 × Int32 × Int32 × Int32 × Int32 × Int32 × Int32 × Int32) × (Nat × Int32 × Int32 × Int32 × Int32)) × (Nat → Int64)) (h : p_L_days gg gvn gdn gr gdr gtx x1 o = some R0) : Met l yL_days wsL_days rm_L_days (va_Pc [.ref (a0 0), .int x1, .ref b0] (prL dC dI cy z (w_L_days cy z a0 b0 gg gvn gdn gr gdr gtx o) sz)) (va_Qi (fun (r : Int32) (u : ((Int32 × Int32 × Int32 × Int32 × Int32 × Int32) × (Int32 × Int32 × (Nat → Int32) × (Nat → Int32) × (Nat → Int32) × (Nat → Int32) × (Nat → Int32)) × (Int32 × Int32 × (Nat → Int32) × (Nat → Int32) × (Nat → Int32) × (Nat → Int32)) × (Int32 × Int32 × Int32 × Int32 × Int32 × Int32 × Int32 × Int32 × Int32) × (Nat × Int32 × Int32 × Int32 × Int32)) × (Nat → Int64)) => r = R0.1 ∧ u = R0.2) (fun u t => poC dC dI cy (w_L_days cy z a0 b0 u.1.1 u.1.2.1 u.1.2.2.1 u.1.2.2.2.1 u.1.2.2.2.2 gtx u.2) t) (va_A (w_L_days cy z a0 b0 gg gvn gdn gr gdr gtx o) sz)) 1 6 (va_A (w_L_days cy z a0 b0 gg gvn gdn gr gdr gtx o) sz) := by
  refine va_MetW (cc := cL_days) (maxL := 4) (ret := (some .int)) (hh := [(0, 9, 12, 13)]) (by decide) rfl ?_
  intro p e s m aa below meth c s₁ B hml hv
  obtain ⟨haa, ⟨⟨hsz, hP, hK, hD0⟩, hX⟩, hN⟩ := hv
  have hx := B.exec
  have hb := B.bytes
  have hr := B.returns
  have hts := atoms_spec (ws := wsL_days) B.pre
  have htb : c.exceptionTable.toList = tableOf [(0, 9, 12, 13)] := vx_table B (hts _ List.mem_cons_self)
  have hown : s.vm.findClass RL = some m.cls := findClass_of_methodNamed B.named
  have hlocks := B.notSynchronized
  subst hsz
  have hD := hD0.self (sz := s.heap.size)
  obtain ⟨qq, hqq⟩ : ∃ qq, qq = (va_Qi (fun (r : Int32) (u : ((Int32 × Int32 × Int32 × Int32 × Int32 × Int32) × (Int32 × Int32 × (Nat → Int32) × (Nat → Int32) × (Nat → Int32) × (Nat → Int32) × (Nat → Int32)) × (Int32 × Int32 × (Nat → Int32) × (Nat → Int32) × (Nat → Int32) × (Nat → Int32)) × (Int32 × Int32 × Int32 × Int32 × Int32 × Int32 × Int32 × Int32 × Int32) × (Nat × Int32 × Int32 × Int32 × Int32)) × (Nat → Int64)) => r = R0.1 ∧ u = R0.2) (fun u t => poC dC dI cy (w_L_days cy z a0 b0 u.1.1 u.1.2.1 u.1.2.2.1 u.1.2.2.2.1 u.1.2.2.2.2 gtx u.2) t) (va_A (w_L_days cy z a0 b0 gg gvn gdn gr gdr gtx o) s.heap.size)) := ⟨_, rfl⟩
  rw [← hqq]
  generalize hAe : va_A (w_L_days cy z a0 b0 gg gvn gdn gr gdr gtx o) s.heap.size = A at hD hqq hX ⊢
  have hA : ∀ q : Nat, s.heap.size ≤ q → A q := fun q h => by rw [← hAe]; exact Or.inr h
  have hS : va_S A s.heap s.heap [] := va_S.rf
  have hl := lv_entry ([.ref (a0 0), .int x1, .ref b0]) (n := 4) (Nat.le_of_ble_eq_true rfl)
  have hE : entryFrame m aa 4 = F0 m 0 ((lg_sl ([.ref (a0 0), .int x1, .ref b0]) ++ List.replicate (4 - (lg_sl ([.ref (a0 0), .int x1, .ref b0])).length) Slot.unset).toArray) [] := by rw [haa]; exact lg_entry_eq m _ 4
  refine W.eq hE ?_
  generalize (lg_sl ([.ref (a0 0), .int x1, .ref b0]) ++ List.replicate (4 - (lg_sl ([.ref (a0 0), .int x1, .ref b0])).length) Slot.unset).toArray = ls at hl ⊢
  have hl : lv_has ls 4 [(0, .ref (a0 0)), (1, .int x1), (2, .ref b0)] := hl
  change W p l e rm_L_days s m aa below meth c s.heap [] 0 0 (MQ below qq aa s 1 6 A) (F0 m 0 ls [])
  have lk13 := hts (.classLink RL 13 "java/lang/IllegalArgumentException") (by decide +kernel)
  obtain ⟨H, hH⟩ : ∃ H : Heap, H = s.heap := ⟨_, rfl⟩
  obtain ⟨locs, hlocs⟩ : ∃ locs : List Loc, locs = [] := ⟨_, rfl⟩
  have hS : va_S A s.heap H locs := by rw [hH, hlocs]; exact hS
  rw [← hH] at hP
  suffices hg : W p l e rm_L_days s m aa below meth c H locs 0 0 (MQ below qq aa s 1 6 A) (F0 m 0 ls []) by subst hH; subst hlocs; exact hg
  unfold p_L_days at h
  obtain ⟨v, hv, h⟩ := ok_bind h
  refine lv_aload_n hx hb dL_days_0 rfl (lv_at hl 2 rfl) ?_
  refine lv_iconst (v := (0 : Int32)) hx hb dL_days_1 (by decide) ?_
  refine lv_aload_n hx hb dL_days_2 rfl (lv_at hl 0 rfl) ?_
  refine lv_iload_n hx hb dL_days_3 rfl (lv_at hl 1 rfl) ?_
  refine cx_vi (w2 := fun (u : (Int32 × Int32 × Int32 × Int32 × Int32 × Int32) × (Int32 × Int32 × (Nat → Int32) × (Nat → Int32) × (Nat → Int32) × (Nat → Int32) × (Nat → Int32)) × (Int32 × Int32 × (Nat → Int32) × (Nat → Int32) × (Nat → Int32) × (Nat → Int32)) × (Int32 × Int32 × Int32 × Int32 × Int32 × Int32 × Int32 × Int32 × Int32) × (Nat × Int32 × Int32 × Int32 × Int32)) => w_L_days cy z a0 b0 u.1 u.2.1 u.2.2.1 u.2.2.2.1 u.2.2.2.2 gtx o) (w2x := fun (u : (Int32 × Int32 × Int32 × Int32 × Int32 × Int32) × (Int32 × Int32 × (Nat → Int32) × (Nat → Int32) × (Nat → Int32) × (Nat → Int32) × (Nat → Int32)) × (Int32 × Int32 × (Nat → Int32) × (Nat → Int32) × (Nat → Int32) × (Nat → Int32)) × (Int32 × Int32 × Int32 × Int32 × Int32 × Int32 × Int32 × Int32 × Int32) × (Nat × Int32 × Int32 × Int32 × Int32)) => w_L_days cy z a0 b0 u.1 u.2.1 u.2.2.1 u.2.2.2.1 u.2.2.2.2 gtx o) (As := [.int x1]) (rest := [.int (0 : Int32), .ref b0]) ⟨hx, hb, hml, hown, hts⟩ (c_X12_days l dC dI cy z hl9 a0 gg gvn gdn gr gdr gtx x1 H.size v hv) (cwV 1 hts gL_days_X12_days rfl rfl rfl (by decide +kernel) ⟨Nat.le_of_ble_eq_true rfl, Nat.le_of_ble_eq_true rfl⟩) (va_recv hK hP (ci := 10) (q0 := 0) rfl rfl) cl_blindS (cl_preS hK hP hD hS hA hX [0, 1, 2, 3, 4, 5, 6, 7, 8, 9, 10, 11, 12, 13, 14] (by decide) rfl) hP hD hS hA [0, 1, 2, 3, 4, 5, 6, 7, 8, 9, 10, 11, 12, 13, 14] rfl rfl hl.1 rfl (lv_room (Nat.le_of_ble_eq_true rfl)) dL_days_4 ⟨Nat.le_of_ble_eq_true rfl, Nat.le_of_ble_eq_true rfl⟩ (cells' := 1) (slots' := 6) ⟨rfl, rfl⟩ (fun _ => updM [0, 1, 2, 3, 4, 5, 6, 7, 8, 9, 10, 11, 12, 13, 14] [15] [(b0, .inl (cy 2, 1, .inr (.inl (o))))] 16 rfl rfl rfl rfl rfl (by decide +kernel) (by decide +kernel) rfl) (fun _ => updM [0, 1, 2, 3, 4, 5, 6, 7, 8, 9, 10, 11, 12, 13, 14] [15] [(b0, .inl (cy 2, 1, .inr (.inl (o))))] 16 rfl rfl rfl rfl rfl (by decide +kernel) (by decide +kernel) rfl) (fun E ce q9 u H locs hw hE hP hD hS hc1 hc2 hc3 => ?_) (fun r u H locs hw hP hD hS => ?_)
  · subst hw
    have hP : va_P (dC, dI) vwCl (w_L_days cy z a0 b0 v.2.1 v.2.2.1 v.2.2.2.1 v.2.2.2.2.1 v.2.2.2.2.2 gtx o) H := hP
    have hD : va_D A (w_L_days cy z a0 b0 v.2.1 v.2.2.1 v.2.2.2.1 v.2.2.2.2.1 v.2.2.2.2.2 gtx o) := hD
    rcases hE with ⟨rfl, hE⟩ | ⟨rfl, hE⟩
    · rw [hE] at h
      dsimp only [xb] at h
      rw [if_pos rfl] at h
      exact no_some h
    · rw [hE] at h
      dsimp only [xb] at h
      rw [if_neg (by decide), if_pos rfl] at h
      refine vx_catch (name := "java/lang/IllegalArgumentException") hown [] (⟨0, 9, 12, 13⟩ : ExceptionTableEntry) [] htb (fun z9 hz9 => by cases hz9) rfl (by decide) lk13 (va_Nw.use rfl hX.2.2.2.2.2.1) hc1 hc2 hc3 ?_
      refine lv_astore_n (lv' := [(3, .ref q9), (0, .ref (a0 0)), (1, .int x1), (2, .ref b0)]) hx hb dL_days_12 rfl hl (by decide) rfl (fun ls hl => ?_)
      refine lv_iconst (v := (1 : Int32)) hx hb dL_days_13 (by decide) ?_
      exact W.iret (v := (1 : Int32)) hx hb hr (fun t ht hW => by rw [hqq]; have hh := Option.some.inj h; exact ⟨⟨(1 : Int32), (v.2, o), rfl, ⟨fst_of hh, snd_of hh⟩, by rw [ht]; exact hP, va_K.moved hW.alike hK⟩, hS.F ht⟩) hS.2.2 dL_days_14
  obtain ⟨hw1, hw2⟩ := hw
  subst hw2
  rw [← hw1] at h
  dsimp only [xb] at h
  have hP : va_P (dC, dI) vwCl (w_L_days cy z a0 b0 v.2.1 v.2.2.1 v.2.2.2.1 v.2.2.2.2.1 v.2.2.2.2.2 gtx o) H := hP
  have hD : va_D A (w_L_days cy z a0 b0 v.2.1 v.2.2.1 v.2.2.2.1 v.2.2.2.2.1 v.2.2.2.2.2 gtx o) := hD
  refine lv_i2l hx hb dL_days_7 rfl ?_
  refine va_last hx hb hK hP hD hS 15 2 rfl rfl (ix_in (by decide : ix (0 : Int32) 1)) dL_days_8 (fun H locs hP hD hS => ?_)
  have hP : va_P (dC, dI) vwCl (w_L_days cy z a0 b0 v.2.1 v.2.2.1 v.2.2.2.1 v.2.2.2.2.1 v.2.2.2.2.2 gtx (vp_updL o (0 : Int32).toNatClampNeg r.toInt64)) H := hP
  have hD : va_D A (w_L_days cy z a0 b0 v.2.1 v.2.2.1 v.2.2.2.1 v.2.2.2.2.1 v.2.2.2.2.2 gtx (vp_updL o (0 : Int32).toNatClampNeg r.toInt64)) := hD
  refine lv_goto (tgt := 15) hx hb dL_days_9 (by decide) ?_
  refine lv_iconst (v := (0 : Int32)) hx hb dL_days_15 (by decide) ?_
  exact W.iret (v := (0 : Int32)) hx hb hr (fun t ht hW => by rw [hqq]; have hh := Option.some.inj h; exact ⟨⟨(0 : Int32), (v.2, vp_updL o (0 : Int32).toNatClampNeg r.toInt64), rfl, ⟨fst_of hh, snd_of hh⟩, by rw [ht]; exact hP, va_K.moved hW.alike hK⟩, hS.F ht⟩) hS.2.2 dL_days_16

abbrev w_L_count (cy : Nat → ClassId) (a0 : Nat → Nat) (b0 : Nat) (gg : Int32 × Int32 × Int32 × Int32 × Int32 × Int32) (gvn : Int32 × Int32 × (Nat → Int32) × (Nat → Int32) × (Nat → Int32) × (Nat → Int32) × (Nat → Int32)) (gdn : Int32 × Int32 × (Nat → Int32) × (Nat → Int32) × (Nat → Int32) × (Nat → Int32)) (gcn : Int32 × (Nat → Int32) × (Nat → Int32) × (Nat → Int32)) (o : Nat → Int64) : va_W := [(a0 0, .inr (10, [.ref (a0 1), .int (gg.1), .int (gg.2.1), .int (gg.2.2.1), .int (gg.2.2.2.1), .int (gg.2.2.2.2.1), .ref (a0 2), .ref (a0 17), .ref (a0 32), .int (gg.2.2.2.2.2), .ref (a0 47), .ref (a0 48), .ref (a0 49), .ref (a0 50), .ref (a0 68), .ref (a0 78), .ref (a0 80)])), (a0 2, .inr (7, [.int (gvn.1), .int (gvn.2.1), .ref (a0 3), .ref (a0 8), .ref (a0 12), .ref (a0 13), .ref (a0 14), .ref (a0 15), .ref (a0 16)])), (a0 3, .inr (2, [.int (gdn.1), .int (gdn.2.1), .ref (a0 4), .ref (a0 5), .ref (a0 6), .ref (a0 7)])), (a0 4, .inl (cy 1, 10, .inl (gdn.2.2.1))), (a0 5, .inl (cy 1, 10, .inl (gdn.2.2.2.1))), (a0 6, .inl (cy 1, 10, .inl (gdn.2.2.2.2.1))), (a0 7, .inl (cy 1, 50, .inl (gdn.2.2.2.2.2))), (a0 8, .inr (6, [.int (gcn.1), .ref (a0 9), .ref (a0 10), .ref (a0 11)])), (a0 9, .inl (cy 1, 12, .inl (gcn.2.1))), (a0 10, .inl (cy 1, 12, .inl (gcn.2.2.1))), (a0 11, .inl (cy 1, 12, .inl (gcn.2.2.2))), (a0 12, .inl (cy 1, 5, .inl (gvn.2.2.1))), (a0 13, .inl (cy 1, 5, .inl (gvn.2.2.2.1))), (a0 14, .inl (cy 1, 5, .inl (gvn.2.2.2.2.1))), (a0 15, .inl (cy 1, 5, .inl (gvn.2.2.2.2.2.1))), (a0 16, .inl (cy 1, 5, .inl (gvn.2.2.2.2.2.2))), (b0, .inl (cy 2, 1, .inr (.inl (o))))]
abbrev rm_L_count : Room := { frames := 7, cells := 1, slots := 6, locals := 111 }
def p_L_count (gg : Int32 × Int32 × Int32 × Int32 × Int32 × Int32) (gvn : Int32 × Int32 × (Nat → Int32) × (Nat → Int32) × (Nat → Int32) × (Nat → Int32) × (Nat → Int32)) (gdn : Int32 × Int32 × (Nat → Int32) × (Nat → Int32) × (Nat → Int32) × (Nat → Int32)) (gcn : Int32 × (Nat → Int32) × (Nat → Int32) × (Nat → Int32)) (x1 : Int32) (o : Nat → Int64) : Option (Int32 × (Unit) × (Nat → Int64)) := ((p_X12_count gg gvn gdn gcn x1).bind fun v => xb v.1 (fun r => some ((0 : Int32), v.2, vp_updL o (0 : Int32).toNatClampNeg r.toInt64)) (fun k => if k = 1 then some ((1 : Int32), v.2, o) else if k = 2 then none else none))
set_option maxHeartbeats 1000000 in
set_option maxRecDepth 100000 in
theorem c_L_count (l : Launch) (dC : Nat → ClassId) (dI : Nat → Nat → Nat) (cy : Nat → ClassId) (z : Nat → Nat) (hl9 : l.stackTraces = false) (a0 : Nat → Nat) (b0 : Nat) (gg : Int32 × Int32 × Int32 × Int32 × Int32 × Int32) (gvn : Int32 × Int32 × (Nat → Int32) × (Nat → Int32) × (Nat → Int32) × (Nat → Int32) × (Nat → Int32)) (gdn : Int32 × Int32 × (Nat → Int32) × (Nat → Int32) × (Nat → Int32) × (Nat → Int32)) (gcn : Int32 × (Nat → Int32) × (Nat → Int32) × (Nat → Int32)) (x1 : Int32) (o : Nat → Int64) (sz : Nat) (R0 : Int32 × (Unit) × (Nat → Int64)) (h : p_L_count gg gvn gdn gcn x1 o = some R0) : Met l yL_count wsL_count rm_L_count (va_Pc [.ref (a0 0), .int x1, .ref b0] (prL dC dI cy z (w_L_count cy a0 b0 gg gvn gdn gcn o) sz)) (va_Qi (fun (r : Int32) (u : (Unit) × (Nat → Int64)) => r = R0.1 ∧ u = R0.2) (fun u t => poC dC dI cy (w_L_count cy a0 b0 gg gvn gdn gcn u.2) t) (va_A (w_L_count cy a0 b0 gg gvn gdn gcn o) sz)) 1 6 (va_A (w_L_count cy a0 b0 gg gvn gdn gcn o) sz) := by
  refine va_MetW (cc := cL_count) (maxL := 4) (ret := (some .int)) (hh := [(0, 9, 12, 21)]) (by decide) rfl ?_
  intro p e s m aa below meth c s₁ B hml hv
  obtain ⟨haa, ⟨⟨hsz, hP, hK, hD0⟩, hX⟩, hN⟩ := hv
  have hx := B.exec
  have hb := B.bytes
  have hr := B.returns
  have hts := atoms_spec (ws := wsL_count) B.pre
  have htb : c.exceptionTable.toList = tableOf [(0, 9, 12, 21)] := vx_table B (hts _ List.mem_cons_self)
  have hown : s.vm.findClass RL = some m.cls := findClass_of_methodNamed B.named
  have hlocks := B.notSynchronized
  subst hsz
  have hD := hD0.self (sz := s.heap.size)
  obtain ⟨qq, hqq⟩ : ∃ qq, qq = (va_Qi (fun (r : Int32) (u : (Unit) × (Nat → Int64)) => r = R0.1 ∧ u = R0.2) (fun u t => poC dC dI cy (w_L_count cy a0 b0 gg gvn gdn gcn u.2) t) (va_A (w_L_count cy a0 b0 gg gvn gdn gcn o) s.heap.size)) := ⟨_, rfl⟩
  rw [← hqq]
  generalize hAe : va_A (w_L_count cy a0 b0 gg gvn gdn gcn o) s.heap.size = A at hD hqq hX ⊢
  have hA : ∀ q : Nat, s.heap.size ≤ q → A q := fun q h => by rw [← hAe]; exact Or.inr h
  have hS : va_S A s.heap s.heap [] := va_S.rf
  have hl := lv_entry ([.ref (a0 0), .int x1, .ref b0]) (n := 4) (Nat.le_of_ble_eq_true rfl)
  have hE : entryFrame m aa 4 = F0 m 0 ((lg_sl ([.ref (a0 0), .int x1, .ref b0]) ++ List.replicate (4 - (lg_sl ([.ref (a0 0), .int x1, .ref b0])).length) Slot.unset).toArray) [] := by rw [haa]; exact lg_entry_eq m _ 4
  refine W.eq hE ?_
  generalize (lg_sl ([.ref (a0 0), .int x1, .ref b0]) ++ List.replicate (4 - (lg_sl ([.ref (a0 0), .int x1, .ref b0])).length) Slot.unset).toArray = ls at hl ⊢
  have hl : lv_has ls 4 [(0, .ref (a0 0)), (1, .int x1), (2, .ref b0)] := hl
  change W p l e rm_L_count s m aa below meth c s.heap [] 0 0 (MQ below qq aa s 1 6 A) (F0 m 0 ls [])
  have lk21 := hts (.classLink RL 21 "java/util/NoSuchElementException") (by decide +kernel)
  obtain ⟨H, hH⟩ : ∃ H : Heap, H = s.heap := ⟨_, rfl⟩
  obtain ⟨locs, hlocs⟩ : ∃ locs : List Loc, locs = [] := ⟨_, rfl⟩
  have hS : va_S A s.heap H locs := by rw [hH, hlocs]; exact hS
  rw [← hH] at hP
  suffices hg : W p l e rm_L_count s m aa below meth c H locs 0 0 (MQ below qq aa s 1 6 A) (F0 m 0 ls []) by subst hH; subst hlocs; exact hg
  unfold p_L_count at h
  obtain ⟨v, hv, h⟩ := ok_bind h
  refine lv_aload_n hx hb dL_count_0 rfl (lv_at hl 2 rfl) ?_
  refine lv_iconst (v := (0 : Int32)) hx hb dL_count_1 (by decide) ?_
  refine lv_aload_n hx hb dL_count_2 rfl (lv_at hl 0 rfl) ?_
  refine lv_iload_n hx hb dL_count_3 rfl (lv_at hl 1 rfl) ?_
  refine cx_vi (w2 := fun (_ : Unit) => w_L_count cy a0 b0 gg gvn gdn gcn o) (w2x := fun (_ : Unit) => w_L_count cy a0 b0 gg gvn gdn gcn o) (As := [.int x1]) (rest := [.int (0 : Int32), .ref b0]) ⟨hx, hb, hml, hown, hts⟩ (c_X12_count l dC dI cy z hl9 a0 gg gvn gdn gcn x1 H.size v hv) (cwV 1 hts gL_count_X12_count rfl rfl rfl (by decide +kernel) ⟨Nat.le_of_ble_eq_true rfl, Nat.le_of_ble_eq_true rfl⟩) (va_recv hK hP (ci := 10) (q0 := 0) rfl rfl) cl_blindS (cl_preS hK hP hD hS hA hX [0, 1, 2, 3, 4, 5, 6, 7, 8, 9, 10, 11, 12, 13, 14, 15] (by decide) rfl) hP hD hS hA [0, 1, 2, 3, 4, 5, 6, 7, 8, 9, 10, 11, 12, 13, 14, 15] rfl rfl hl.1 rfl (lv_room (Nat.le_of_ble_eq_true rfl)) dL_count_4 ⟨Nat.le_of_ble_eq_true rfl, Nat.le_of_ble_eq_true rfl⟩ (cells' := 1) (slots' := 6) ⟨rfl, rfl⟩ (fun _ => updR [0, 1, 2, 3, 4, 5, 6, 7, 8, 9, 10, 11, 12, 13, 14, 15] rfl) (fun _ => updR [0, 1, 2, 3, 4, 5, 6, 7, 8, 9, 10, 11, 12, 13, 14, 15] rfl) (fun E ce q9 u H locs hw hE hP hD hS hc1 hc2 hc3 => ?_) (fun r u H locs hw hP hD hS => ?_)
  · subst hw
    have hP : va_P (dC, dI) vwCl (w_L_count cy a0 b0 gg gvn gdn gcn o) H := hP
    have hD : va_D A (w_L_count cy a0 b0 gg gvn gdn gcn o) := hD
    rcases hE with ⟨rfl, hE⟩ | ⟨rfl, hE⟩
    · rw [hE] at h
      dsimp only [xb] at h
      rw [if_pos rfl] at h
      refine vx_catch (name := "java/util/NoSuchElementException") hown [] (⟨0, 9, 12, 21⟩ : ExceptionTableEntry) [] htb (fun z9 hz9 => by cases hz9) rfl (by decide) lk21 (va_Nw.use rfl hX.2.2.2.2.1) hc1 hc2 hc3 ?_
      refine lv_astore_n (lv' := [(3, .ref q9), (0, .ref (a0 0)), (1, .int x1), (2, .ref b0)]) hx hb dL_count_12 rfl hl (by decide) rfl (fun ls hl => ?_)
      refine lv_iconst (v := (1 : Int32)) hx hb dL_count_13 (by decide) ?_
      exact W.iret (v := (1 : Int32)) hx hb hr (fun t ht hW => by rw [hqq]; have hh := Option.some.inj h; exact ⟨⟨(1 : Int32), (v.2, o), rfl, ⟨fst_of hh, snd_of hh⟩, by rw [ht]; exact hP, va_K.moved hW.alike hK⟩, hS.F ht⟩) hS.2.2 dL_count_14
    · rw [hE] at h
      dsimp only [xb] at h
      rw [if_neg (by decide), if_pos rfl] at h
      exact no_some h
  obtain ⟨hw1, hw2⟩ := hw
  subst hw2
  rw [← hw1] at h
  dsimp only [xb] at h
  have hP : va_P (dC, dI) vwCl (w_L_count cy a0 b0 gg gvn gdn gcn o) H := hP
  have hD : va_D A (w_L_count cy a0 b0 gg gvn gdn gcn o) := hD
  refine lv_i2l hx hb dL_count_7 rfl ?_
  refine va_last hx hb hK hP hD hS 16 2 rfl rfl (ix_in (by decide : ix (0 : Int32) 1)) dL_count_8 (fun H locs hP hD hS => ?_)
  have hP : va_P (dC, dI) vwCl (w_L_count cy a0 b0 gg gvn gdn gcn (vp_updL o (0 : Int32).toNatClampNeg r.toInt64)) H := hP
  have hD : va_D A (w_L_count cy a0 b0 gg gvn gdn gcn (vp_updL o (0 : Int32).toNatClampNeg r.toInt64)) := hD
  refine lv_goto (tgt := 15) hx hb dL_count_9 (by decide) ?_
  refine lv_iconst (v := (0 : Int32)) hx hb dL_count_15 (by decide) ?_
  exact W.iret (v := (0 : Int32)) hx hb hr (fun t ht hW => by rw [hqq]; have hh := Option.some.inj h; exact ⟨⟨(0 : Int32), (v.2, vp_updL o (0 : Int32).toNatClampNeg r.toInt64), rfl, ⟨fst_of hh, snd_of hh⟩, by rw [ht]; exact hP, va_K.moved hW.alike hK⟩, hS.F ht⟩) hS.2.2 dL_count_16

abbrev w_L_owner (cy : Nat → ClassId) (a0 : Nat → Nat) (b0 : Nat) (gg : Int32 × Int32 × Int32 × Int32 × Int32 × Int32) (gvn : Int32 × Int32 × (Nat → Int32) × (Nat → Int32) × (Nat → Int32) × (Nat → Int32) × (Nat → Int32)) (gdn : Int32 × Int32 × (Nat → Int32) × (Nat → Int32) × (Nat → Int32) × (Nat → Int32)) (o : Nat → Int64) : va_W := [(a0 0, .inr (10, [.ref (a0 1), .int (gg.1), .int (gg.2.1), .int (gg.2.2.1), .int (gg.2.2.2.1), .int (gg.2.2.2.2.1), .ref (a0 2), .ref (a0 17), .ref (a0 32), .int (gg.2.2.2.2.2), .ref (a0 47), .ref (a0 48), .ref (a0 49), .ref (a0 50), .ref (a0 68), .ref (a0 78), .ref (a0 80)])), (a0 2, .inr (7, [.int (gvn.1), .int (gvn.2.1), .ref (a0 3), .ref (a0 8), .ref (a0 12), .ref (a0 13), .ref (a0 14), .ref (a0 15), .ref (a0 16)])), (a0 3, .inr (2, [.int (gdn.1), .int (gdn.2.1), .ref (a0 4), .ref (a0 5), .ref (a0 6), .ref (a0 7)])), (a0 4, .inl (cy 1, 10, .inl (gdn.2.2.1))), (a0 5, .inl (cy 1, 10, .inl (gdn.2.2.2.1))), (a0 6, .inl (cy 1, 10, .inl (gdn.2.2.2.2.1))), (a0 7, .inl (cy 1, 50, .inl (gdn.2.2.2.2.2))), (a0 12, .inl (cy 1, 5, .inl (gvn.2.2.1))), (a0 13, .inl (cy 1, 5, .inl (gvn.2.2.2.1))), (a0 14, .inl (cy 1, 5, .inl (gvn.2.2.2.2.1))), (a0 15, .inl (cy 1, 5, .inl (gvn.2.2.2.2.2.1))), (a0 16, .inl (cy 1, 5, .inl (gvn.2.2.2.2.2.2))), (b0, .inl (cy 2, 1, .inr (.inl (o))))]
abbrev rm_L_owner : Room := { frames := 8, cells := 2, slots := 12, locals := 162 }
def p_L_owner (gvn : Int32 × Int32 × (Nat → Int32) × (Nat → Int32) × (Nat → Int32) × (Nat → Int32) × (Nat → Int32)) (gdn : Int32 × Int32 × (Nat → Int32) × (Nat → Int32) × (Nat → Int32) × (Nat → Int32)) (x1 : Int32) (x2 : Int32) (o : Nat → Int64) : Option (Int32 × (Unit) × (Nat → Int64)) := ((p_X12_owner gvn gdn x1 x2).bind fun v => xb v.1 (fun r => some ((0 : Int32), v.2, vp_updL o (0 : Int32).toNatClampNeg r.toInt64)) (fun k => if k = 1 then some ((1 : Int32), v.2, o) else if k = 2 then none else none))
set_option maxHeartbeats 1000000 in
set_option maxRecDepth 100000 in
theorem c_L_owner (l : Launch) (dC : Nat → ClassId) (dI : Nat → Nat → Nat) (cy : Nat → ClassId) (z : Nat → Nat) (hl9 : l.stackTraces = false) (a0 : Nat → Nat) (b0 : Nat) (gg : Int32 × Int32 × Int32 × Int32 × Int32 × Int32) (gvn : Int32 × Int32 × (Nat → Int32) × (Nat → Int32) × (Nat → Int32) × (Nat → Int32) × (Nat → Int32)) (gdn : Int32 × Int32 × (Nat → Int32) × (Nat → Int32) × (Nat → Int32) × (Nat → Int32)) (x1 : Int32) (x2 : Int32) (o : Nat → Int64) (sz : Nat) (R0 : Int32 × (Unit) × (Nat → Int64)) (h : p_L_owner gvn gdn x1 x2 o = some R0) : Met l yL_owner wsL_owner rm_L_owner (va_Pc [.ref (a0 0), .int x1, .int x2, .ref b0] (prL dC dI cy z (w_L_owner cy a0 b0 gg gvn gdn o) sz)) (va_Qi (fun (r : Int32) (u : (Unit) × (Nat → Int64)) => r = R0.1 ∧ u = R0.2) (fun u t => poC dC dI cy (w_L_owner cy a0 b0 gg gvn gdn u.2) t) (va_A (w_L_owner cy a0 b0 gg gvn gdn o) sz)) 2 12 (va_A (w_L_owner cy a0 b0 gg gvn gdn o) sz) := by
  refine va_MetW (cc := cL_owner) (maxL := 5) (ret := (some .int)) (hh := [(0, 10, 13, 21)]) (by decide) rfl ?_
  intro p e s m aa below meth c s₁ B hml hv
  obtain ⟨haa, ⟨⟨hsz, hP, hK, hD0⟩, hX⟩, hN⟩ := hv
  have hx := B.exec
  have hb := B.bytes
  have hr := B.returns
  have hts := atoms_spec (ws := wsL_owner) B.pre
  have htb : c.exceptionTable.toList = tableOf [(0, 10, 13, 21)] := vx_table B (hts _ List.mem_cons_self)
  have hown : s.vm.findClass RL = some m.cls := findClass_of_methodNamed B.named
  have hlocks := B.notSynchronized
  subst hsz
  have hD := hD0.self (sz := s.heap.size)
  obtain ⟨qq, hqq⟩ : ∃ qq, qq = (va_Qi (fun (r : Int32) (u : (Unit) × (Nat → Int64)) => r = R0.1 ∧ u = R0.2) (fun u t => poC dC dI cy (w_L_owner cy a0 b0 gg gvn gdn u.2) t) (va_A (w_L_owner cy a0 b0 gg gvn gdn o) s.heap.size)) := ⟨_, rfl⟩
  rw [← hqq]
  generalize hAe : va_A (w_L_owner cy a0 b0 gg gvn gdn o) s.heap.size = A at hD hqq hX ⊢
  have hA : ∀ q : Nat, s.heap.size ≤ q → A q := fun q h => by rw [← hAe]; exact Or.inr h
  have hS : va_S A s.heap s.heap [] := va_S.rf
  have hl := lv_entry ([.ref (a0 0), .int x1, .int x2, .ref b0]) (n := 5) (Nat.le_of_ble_eq_true rfl)
  have hE : entryFrame m aa 5 = F0 m 0 ((lg_sl ([.ref (a0 0), .int x1, .int x2, .ref b0]) ++ List.replicate (5 - (lg_sl ([.ref (a0 0), .int x1, .int x2, .ref b0])).length) Slot.unset).toArray) [] := by rw [haa]; exact lg_entry_eq m _ 5
  refine W.eq hE ?_
  generalize (lg_sl ([.ref (a0 0), .int x1, .int x2, .ref b0]) ++ List.replicate (5 - (lg_sl ([.ref (a0 0), .int x1, .int x2, .ref b0])).length) Slot.unset).toArray = ls at hl ⊢
  have hl : lv_has ls 5 [(0, .ref (a0 0)), (1, .int x1), (2, .int x2), (3, .ref b0)] := hl
  change W p l e rm_L_owner s m aa below meth c s.heap [] 0 0 (MQ below qq aa s 2 12 A) (F0 m 0 ls [])
  have lk21 := hts (.classLink RL 21 "java/util/NoSuchElementException") (by decide +kernel)
  obtain ⟨H, hH⟩ : ∃ H : Heap, H = s.heap := ⟨_, rfl⟩
  obtain ⟨locs, hlocs⟩ : ∃ locs : List Loc, locs = [] := ⟨_, rfl⟩
  have hS : va_S A s.heap H locs := by rw [hH, hlocs]; exact hS
  rw [← hH] at hP
  suffices hg : W p l e rm_L_owner s m aa below meth c H locs 0 0 (MQ below qq aa s 2 12 A) (F0 m 0 ls []) by subst hH; subst hlocs; exact hg
  unfold p_L_owner at h
  obtain ⟨v, hv, h⟩ := ok_bind h
  refine lv_aload_n hx hb dL_owner_0 rfl (lv_at hl 3 rfl) ?_
  refine lv_iconst (v := (0 : Int32)) hx hb dL_owner_1 (by decide) ?_
  refine lv_aload_n hx hb dL_owner_2 rfl (lv_at hl 0 rfl) ?_
  refine lv_iload_n hx hb dL_owner_3 rfl (lv_at hl 1 rfl) ?_
  refine lv_iload_n hx hb dL_owner_4 rfl (lv_at hl 2 rfl) ?_
  refine cx_vi (w2 := fun (_ : Unit) => w_L_owner cy a0 b0 gg gvn gdn o) (w2x := fun (_ : Unit) => w_L_owner cy a0 b0 gg gvn gdn o) (As := [.int x1, .int x2]) (rest := [.int (0 : Int32), .ref b0]) ⟨hx, hb, hml, hown, hts⟩ (c_X12_owner l dC dI cy z hl9 a0 gg gvn gdn x1 x2 H.size v hv) (cwV 2 hts gL_owner_X12_owner rfl rfl rfl (by decide +kernel) ⟨Nat.le_of_ble_eq_true rfl, Nat.le_of_ble_eq_true rfl⟩) (va_recv hK hP (ci := 10) (q0 := 0) rfl rfl) cl_blindS (cl_preS hK hP hD hS hA hX [0, 1, 2, 3, 4, 5, 6, 7, 8, 9, 10, 11] (by decide) rfl) hP hD hS hA [0, 1, 2, 3, 4, 5, 6, 7, 8, 9, 10, 11] rfl rfl hl.1 rfl (lv_room (Nat.le_of_ble_eq_true rfl)) dL_owner_5 ⟨Nat.le_of_ble_eq_true rfl, Nat.le_of_ble_eq_true rfl⟩ (cells' := 2) (slots' := 12) ⟨rfl, rfl⟩ (fun _ => updR [0, 1, 2, 3, 4, 5, 6, 7, 8, 9, 10, 11] rfl) (fun _ => updR [0, 1, 2, 3, 4, 5, 6, 7, 8, 9, 10, 11] rfl) (fun E ce q9 u H locs hw hE hP hD hS hc1 hc2 hc3 => ?_) (fun r u H locs hw hP hD hS => ?_)
  · subst hw
    have hP : va_P (dC, dI) vwCl (w_L_owner cy a0 b0 gg gvn gdn o) H := hP
    have hD : va_D A (w_L_owner cy a0 b0 gg gvn gdn o) := hD
    rcases hE with ⟨rfl, hE⟩ | ⟨rfl, hE⟩
    · rw [hE] at h
      dsimp only [xb] at h
      rw [if_pos rfl] at h
      refine vx_catch (name := "java/util/NoSuchElementException") hown [] (⟨0, 10, 13, 21⟩ : ExceptionTableEntry) [] htb (fun z9 hz9 => by cases hz9) rfl (by decide) lk21 (va_Nw.use rfl hX.2.2.2.2.1) hc1 hc2 hc3 ?_
      refine lv_astore (lv' := [(4, .ref q9), (0, .ref (a0 0)), (1, .int x1), (2, .int x2), (3, .ref b0)]) hx hb dL_owner_13 hl (by decide) rfl (fun ls hl => ?_)
      refine lv_iconst (v := (1 : Int32)) hx hb dL_owner_15 (by decide) ?_
      exact W.iret (v := (1 : Int32)) hx hb hr (fun t ht hW => by rw [hqq]; have hh := Option.some.inj h; exact ⟨⟨(1 : Int32), (v.2, o), rfl, ⟨fst_of hh, snd_of hh⟩, by rw [ht]; exact hP, va_K.moved hW.alike hK⟩, hS.F ht⟩) hS.2.2 dL_owner_16
    · rw [hE] at h
      dsimp only [xb] at h
      rw [if_neg (by decide), if_pos rfl] at h
      exact no_some h
  obtain ⟨hw1, hw2⟩ := hw
  subst hw2
  rw [← hw1] at h
  dsimp only [xb] at h
  have hP : va_P (dC, dI) vwCl (w_L_owner cy a0 b0 gg gvn gdn o) H := hP
  have hD : va_D A (w_L_owner cy a0 b0 gg gvn gdn o) := hD
  refine lv_i2l hx hb dL_owner_8 rfl ?_
  refine va_last hx hb hK hP hD hS 12 2 rfl rfl (ix_in (by decide : ix (0 : Int32) 1)) dL_owner_9 (fun H locs hP hD hS => ?_)
  have hP : va_P (dC, dI) vwCl (w_L_owner cy a0 b0 gg gvn gdn (vp_updL o (0 : Int32).toNatClampNeg r.toInt64)) H := hP
  have hD : va_D A (w_L_owner cy a0 b0 gg gvn gdn (vp_updL o (0 : Int32).toNatClampNeg r.toInt64)) := hD
  refine lv_goto (tgt := 17) hx hb dL_owner_10 (by decide) ?_
  refine lv_iconst (v := (0 : Int32)) hx hb dL_owner_17 (by decide) ?_
  exact W.iret (v := (0 : Int32)) hx hb hr (fun t ht hW => by rw [hqq]; have hh := Option.some.inj h; exact ⟨⟨(0 : Int32), (v.2, vp_updL o (0 : Int32).toNatClampNeg r.toInt64), rfl, ⟨fst_of hh, snd_of hh⟩, by rw [ht]; exact hP, va_K.moved hW.alike hK⟩, hS.F ht⟩) hS.2.2 dL_owner_18

abbrev w_L_door (cy : Nat → ClassId) (a0 : Nat → Nat) (b0 : Nat) (gg : Int32 × Int32 × Int32 × Int32 × Int32 × Int32) (gvn : Int32 × Int32 × (Nat → Int32) × (Nat → Int32) × (Nat → Int32) × (Nat → Int32) × (Nat → Int32)) (gdn : Int32 × Int32 × (Nat → Int32) × (Nat → Int32) × (Nat → Int32) × (Nat → Int32)) (o : Nat → Int64) : va_W := [(a0 0, .inr (10, [.ref (a0 1), .int (gg.1), .int (gg.2.1), .int (gg.2.2.1), .int (gg.2.2.2.1), .int (gg.2.2.2.2.1), .ref (a0 2), .ref (a0 17), .ref (a0 32), .int (gg.2.2.2.2.2), .ref (a0 47), .ref (a0 48), .ref (a0 49), .ref (a0 50), .ref (a0 68), .ref (a0 78), .ref (a0 80)])), (a0 2, .inr (7, [.int (gvn.1), .int (gvn.2.1), .ref (a0 3), .ref (a0 8), .ref (a0 12), .ref (a0 13), .ref (a0 14), .ref (a0 15), .ref (a0 16)])), (a0 3, .inr (2, [.int (gdn.1), .int (gdn.2.1), .ref (a0 4), .ref (a0 5), .ref (a0 6), .ref (a0 7)])), (a0 4, .inl (cy 1, 10, .inl (gdn.2.2.1))), (a0 5, .inl (cy 1, 10, .inl (gdn.2.2.2.1))), (a0 6, .inl (cy 1, 10, .inl (gdn.2.2.2.2.1))), (a0 7, .inl (cy 1, 50, .inl (gdn.2.2.2.2.2))), (b0, .inl (cy 2, 1, .inr (.inl (o))))]
abbrev rm_L_door : Room := { frames := 8, cells := 2, slots := 12, locals := 134 }
def p_L_door (gdn : Int32 × Int32 × (Nat → Int32) × (Nat → Int32) × (Nat → Int32) × (Nat → Int32)) (x1 : Int32) (x2 : Int32) (o : Nat → Int64) : Option (Int32 × (Unit) × (Nat → Int64)) := ((p_X12_door gdn x1 x2).bind fun v => xb v.1 (fun r => some ((0 : Int32), v.2, vp_updL o (0 : Int32).toNatClampNeg r.toInt64)) (fun k => if k = 1 then some ((1 : Int32), v.2, o) else if k = 2 then none else none))
set_option maxHeartbeats 1000000 in
set_option maxRecDepth 100000 in
theorem c_L_door (l : Launch) (dC : Nat → ClassId) (dI : Nat → Nat → Nat) (cy : Nat → ClassId) (z : Nat → Nat) (hl9 : l.stackTraces = false) (a0 : Nat → Nat) (b0 : Nat) (gg : Int32 × Int32 × Int32 × Int32 × Int32 × Int32) (gvn : Int32 × Int32 × (Nat → Int32) × (Nat → Int32) × (Nat → Int32) × (Nat → Int32) × (Nat → Int32)) (gdn : Int32 × Int32 × (Nat → Int32) × (Nat → Int32) × (Nat → Int32) × (Nat → Int32)) (x1 : Int32) (x2 : Int32) (o : Nat → Int64) (sz : Nat) (R0 : Int32 × (Unit) × (Nat → Int64)) (h : p_L_door gdn x1 x2 o = some R0) : Met l yL_door wsL_door rm_L_door (va_Pc [.ref (a0 0), .int x1, .int x2, .ref b0] (prL dC dI cy z (w_L_door cy a0 b0 gg gvn gdn o) sz)) (va_Qi (fun (r : Int32) (u : (Unit) × (Nat → Int64)) => r = R0.1 ∧ u = R0.2) (fun u t => poC dC dI cy (w_L_door cy a0 b0 gg gvn gdn u.2) t) (va_A (w_L_door cy a0 b0 gg gvn gdn o) sz)) 2 12 (va_A (w_L_door cy a0 b0 gg gvn gdn o) sz) := by
  refine va_MetW (cc := cL_door) (maxL := 5) (ret := (some .int)) (hh := [(0, 10, 13, 21)]) (by decide) rfl ?_
  intro p e s m aa below meth c s₁ B hml hv
  obtain ⟨haa, ⟨⟨hsz, hP, hK, hD0⟩, hX⟩, hN⟩ := hv
  have hx := B.exec
  have hb := B.bytes
  have hr := B.returns
  have hts := atoms_spec (ws := wsL_door) B.pre
  have htb : c.exceptionTable.toList = tableOf [(0, 10, 13, 21)] := vx_table B (hts _ List.mem_cons_self)
  have hown : s.vm.findClass RL = some m.cls := findClass_of_methodNamed B.named
  have hlocks := B.notSynchronized
  subst hsz
  have hD := hD0.self (sz := s.heap.size)
  obtain ⟨qq, hqq⟩ : ∃ qq, qq = (va_Qi (fun (r : Int32) (u : (Unit) × (Nat → Int64)) => r = R0.1 ∧ u = R0.2) (fun u t => poC dC dI cy (w_L_door cy a0 b0 gg gvn gdn u.2) t) (va_A (w_L_door cy a0 b0 gg gvn gdn o) s.heap.size)) := ⟨_, rfl⟩
  rw [← hqq]
  generalize hAe : va_A (w_L_door cy a0 b0 gg gvn gdn o) s.heap.size = A at hD hqq hX ⊢
  have hA : ∀ q : Nat, s.heap.size ≤ q → A q := fun q h => by rw [← hAe]; exact Or.inr h
  have hS : va_S A s.heap s.heap [] := va_S.rf
  have hl := lv_entry ([.ref (a0 0), .int x1, .int x2, .ref b0]) (n := 5) (Nat.le_of_ble_eq_true rfl)
  have hE : entryFrame m aa 5 = F0 m 0 ((lg_sl ([.ref (a0 0), .int x1, .int x2, .ref b0]) ++ List.replicate (5 - (lg_sl ([.ref (a0 0), .int x1, .int x2, .ref b0])).length) Slot.unset).toArray) [] := by rw [haa]; exact lg_entry_eq m _ 5
  refine W.eq hE ?_
  generalize (lg_sl ([.ref (a0 0), .int x1, .int x2, .ref b0]) ++ List.replicate (5 - (lg_sl ([.ref (a0 0), .int x1, .int x2, .ref b0])).length) Slot.unset).toArray = ls at hl ⊢
  have hl : lv_has ls 5 [(0, .ref (a0 0)), (1, .int x1), (2, .int x2), (3, .ref b0)] := hl
  change W p l e rm_L_door s m aa below meth c s.heap [] 0 0 (MQ below qq aa s 2 12 A) (F0 m 0 ls [])
  have lk21 := hts (.classLink RL 21 "java/util/NoSuchElementException") (by decide +kernel)
  obtain ⟨H, hH⟩ : ∃ H : Heap, H = s.heap := ⟨_, rfl⟩
  obtain ⟨locs, hlocs⟩ : ∃ locs : List Loc, locs = [] := ⟨_, rfl⟩
  have hS : va_S A s.heap H locs := by rw [hH, hlocs]; exact hS
  rw [← hH] at hP
  suffices hg : W p l e rm_L_door s m aa below meth c H locs 0 0 (MQ below qq aa s 2 12 A) (F0 m 0 ls []) by subst hH; subst hlocs; exact hg
  unfold p_L_door at h
  obtain ⟨v, hv, h⟩ := ok_bind h
  refine lv_aload_n hx hb dL_door_0 rfl (lv_at hl 3 rfl) ?_
  refine lv_iconst (v := (0 : Int32)) hx hb dL_door_1 (by decide) ?_
  refine lv_aload_n hx hb dL_door_2 rfl (lv_at hl 0 rfl) ?_
  refine lv_iload_n hx hb dL_door_3 rfl (lv_at hl 1 rfl) ?_
  refine lv_iload_n hx hb dL_door_4 rfl (lv_at hl 2 rfl) ?_
  refine cx_vi (w2 := fun (_ : Unit) => w_L_door cy a0 b0 gg gvn gdn o) (w2x := fun (_ : Unit) => w_L_door cy a0 b0 gg gvn gdn o) (As := [.int x1, .int x2]) (rest := [.int (0 : Int32), .ref b0]) ⟨hx, hb, hml, hown, hts⟩ (c_X12_door l dC dI cy z hl9 a0 gg gvn gdn x1 x2 H.size v hv) (cwV 2 hts gL_door_X12_door rfl rfl rfl (by decide +kernel) ⟨Nat.le_of_ble_eq_true rfl, Nat.le_of_ble_eq_true rfl⟩) (va_recv hK hP (ci := 10) (q0 := 0) rfl rfl) cl_blindS (cl_preS hK hP hD hS hA hX [0, 1, 2, 3, 4, 5, 6] (by decide) rfl) hP hD hS hA [0, 1, 2, 3, 4, 5, 6] rfl rfl hl.1 rfl (lv_room (Nat.le_of_ble_eq_true rfl)) dL_door_5 ⟨Nat.le_of_ble_eq_true rfl, Nat.le_of_ble_eq_true rfl⟩ (cells' := 2) (slots' := 12) ⟨rfl, rfl⟩ (fun _ => updR [0, 1, 2, 3, 4, 5, 6] rfl) (fun _ => updR [0, 1, 2, 3, 4, 5, 6] rfl) (fun E ce q9 u H locs hw hE hP hD hS hc1 hc2 hc3 => ?_) (fun r u H locs hw hP hD hS => ?_)
  · subst hw
    have hP : va_P (dC, dI) vwCl (w_L_door cy a0 b0 gg gvn gdn o) H := hP
    have hD : va_D A (w_L_door cy a0 b0 gg gvn gdn o) := hD
    rcases hE with ⟨rfl, hE⟩ | ⟨rfl, hE⟩
    · rw [hE] at h
      dsimp only [xb] at h
      rw [if_pos rfl] at h
      refine vx_catch (name := "java/util/NoSuchElementException") hown [] (⟨0, 10, 13, 21⟩ : ExceptionTableEntry) [] htb (fun z9 hz9 => by cases hz9) rfl (by decide) lk21 (va_Nw.use rfl hX.2.2.2.2.1) hc1 hc2 hc3 ?_
      refine lv_astore (lv' := [(4, .ref q9), (0, .ref (a0 0)), (1, .int x1), (2, .int x2), (3, .ref b0)]) hx hb dL_door_13 hl (by decide) rfl (fun ls hl => ?_)
      refine lv_iconst (v := (1 : Int32)) hx hb dL_door_15 (by decide) ?_
      exact W.iret (v := (1 : Int32)) hx hb hr (fun t ht hW => by rw [hqq]; have hh := Option.some.inj h; exact ⟨⟨(1 : Int32), (v.2, o), rfl, ⟨fst_of hh, snd_of hh⟩, by rw [ht]; exact hP, va_K.moved hW.alike hK⟩, hS.F ht⟩) hS.2.2 dL_door_16
    · rw [hE] at h
      dsimp only [xb] at h
      rw [if_neg (by decide), if_pos rfl] at h
      exact no_some h
  obtain ⟨hw1, hw2⟩ := hw
  subst hw2
  rw [← hw1] at h
  dsimp only [xb] at h
  have hP : va_P (dC, dI) vwCl (w_L_door cy a0 b0 gg gvn gdn o) H := hP
  have hD : va_D A (w_L_door cy a0 b0 gg gvn gdn o) := hD
  refine lv_i2l hx hb dL_door_8 rfl ?_
  refine va_last hx hb hK hP hD hS 7 2 rfl rfl (ix_in (by decide : ix (0 : Int32) 1)) dL_door_9 (fun H locs hP hD hS => ?_)
  have hP : va_P (dC, dI) vwCl (w_L_door cy a0 b0 gg gvn gdn (vp_updL o (0 : Int32).toNatClampNeg r.toInt64)) H := hP
  have hD : va_D A (w_L_door cy a0 b0 gg gvn gdn (vp_updL o (0 : Int32).toNatClampNeg r.toInt64)) := hD
  refine lv_goto (tgt := 17) hx hb dL_door_10 (by decide) ?_
  refine lv_iconst (v := (0 : Int32)) hx hb dL_door_17 (by decide) ?_
  exact W.iret (v := (0 : Int32)) hx hb hr (fun t ht hW => by rw [hqq]; have hh := Option.some.inj h; exact ⟨⟨(0 : Int32), (v.2, vp_updL o (0 : Int32).toNatClampNeg r.toInt64), rfl, ⟨fst_of hh, snd_of hh⟩, by rw [ht]; exact hP, va_K.moved hW.alike hK⟩, hS.F ht⟩) hS.2.2 dL_door_18

abbrev w_L_worth (cy : Nat → ClassId) (a0 : Nat → Nat) (b0 : Nat) (gg : Int32 × Int32 × Int32 × Int32 × Int32 × Int32) (gvn : Int32 × Int32 × (Nat → Int32) × (Nat → Int32) × (Nat → Int32) × (Nat → Int32) × (Nat → Int32)) (gdn : Int32 × Int32 × (Nat → Int32) × (Nat → Int32) × (Nat → Int32) × (Nat → Int32)) (o : Nat → Int64) : va_W := [(a0 0, .inr (10, [.ref (a0 1), .int (gg.1), .int (gg.2.1), .int (gg.2.2.1), .int (gg.2.2.2.1), .int (gg.2.2.2.2.1), .ref (a0 2), .ref (a0 17), .ref (a0 32), .int (gg.2.2.2.2.2), .ref (a0 47), .ref (a0 48), .ref (a0 49), .ref (a0 50), .ref (a0 68), .ref (a0 78), .ref (a0 80)])), (a0 2, .inr (7, [.int (gvn.1), .int (gvn.2.1), .ref (a0 3), .ref (a0 8), .ref (a0 12), .ref (a0 13), .ref (a0 14), .ref (a0 15), .ref (a0 16)])), (a0 3, .inr (2, [.int (gdn.1), .int (gdn.2.1), .ref (a0 4), .ref (a0 5), .ref (a0 6), .ref (a0 7)])), (a0 4, .inl (cy 1, 10, .inl (gdn.2.2.1))), (a0 5, .inl (cy 1, 10, .inl (gdn.2.2.2.1))), (a0 6, .inl (cy 1, 10, .inl (gdn.2.2.2.2.1))), (a0 7, .inl (cy 1, 50, .inl (gdn.2.2.2.2.2))), (b0, .inl (cy 2, 1, .inr (.inl (o))))]
abbrev rm_L_worth : Room := { frames := 8, cells := 2, slots := 12, locals := 133 }
def p_L_worth (gdn : Int32 × Int32 × (Nat → Int32) × (Nat → Int32) × (Nat → Int32) × (Nat → Int32)) (x1 : Int32) (x2 : Int32) (o : Nat → Int64) : Option (Int32 × (Unit) × (Nat → Int64)) := ((p_X12_worth gdn x1 x2).bind fun v => xb v.1 (fun r => some ((0 : Int32), v.2, vp_updL o (0 : Int32).toNatClampNeg r.toInt64)) (fun k => if k = 1 then some ((1 : Int32), v.2, o) else if k = 2 then some ((2 : Int32), v.2, o) else none))
set_option maxHeartbeats 1000000 in
set_option maxRecDepth 100000 in
theorem c_L_worth (l : Launch) (dC : Nat → ClassId) (dI : Nat → Nat → Nat) (cy : Nat → ClassId) (z : Nat → Nat) (hl9 : l.stackTraces = false) (a0 : Nat → Nat) (b0 : Nat) (gg : Int32 × Int32 × Int32 × Int32 × Int32 × Int32) (gvn : Int32 × Int32 × (Nat → Int32) × (Nat → Int32) × (Nat → Int32) × (Nat → Int32) × (Nat → Int32)) (gdn : Int32 × Int32 × (Nat → Int32) × (Nat → Int32) × (Nat → Int32) × (Nat → Int32)) (x1 : Int32) (x2 : Int32) (o : Nat → Int64) (sz : Nat) (R0 : Int32 × (Unit) × (Nat → Int64)) (h : p_L_worth gdn x1 x2 o = some R0) : Met l yL_worth wsL_worth rm_L_worth (va_Pc [.ref (a0 0), .int x1, .int x2, .ref b0] (prL dC dI cy z (w_L_worth cy a0 b0 gg gvn gdn o) sz)) (va_Qi (fun (r : Int32) (u : (Unit) × (Nat → Int64)) => r = R0.1 ∧ u = R0.2) (fun u t => poC dC dI cy (w_L_worth cy a0 b0 gg gvn gdn u.2) t) (va_A (w_L_worth cy a0 b0 gg gvn gdn o) sz)) 2 12 (va_A (w_L_worth cy a0 b0 gg gvn gdn o) sz) := by
  refine va_MetW (cc := cL_worth) (maxL := 5) (ret := (some .int)) (hh := [(0, 10, 13, 21), (0, 10, 17, 13)]) (by decide) rfl ?_
  intro p e s m aa below meth c s₁ B hml hv
  obtain ⟨haa, ⟨⟨hsz, hP, hK, hD0⟩, hX⟩, hN⟩ := hv
  have hx := B.exec
  have hb := B.bytes
  have hr := B.returns
  have hts := atoms_spec (ws := wsL_worth) B.pre
  have htb : c.exceptionTable.toList = tableOf [(0, 10, 13, 21), (0, 10, 17, 13)] := vx_table B (hts _ List.mem_cons_self)
  have hown : s.vm.findClass RL = some m.cls := findClass_of_methodNamed B.named
  have hlocks := B.notSynchronized
  subst hsz
  have hD := hD0.self (sz := s.heap.size)
  obtain ⟨qq, hqq⟩ : ∃ qq, qq = (va_Qi (fun (r : Int32) (u : (Unit) × (Nat → Int64)) => r = R0.1 ∧ u = R0.2) (fun u t => poC dC dI cy (w_L_worth cy a0 b0 gg gvn gdn u.2) t) (va_A (w_L_worth cy a0 b0 gg gvn gdn o) s.heap.size)) := ⟨_, rfl⟩
  rw [← hqq]
  generalize hAe : va_A (w_L_worth cy a0 b0 gg gvn gdn o) s.heap.size = A at hD hqq hX ⊢
  have hA : ∀ q : Nat, s.heap.size ≤ q → A q := fun q h => by rw [← hAe]; exact Or.inr h
  have hS : va_S A s.heap s.heap [] := va_S.rf
  have hl := lv_entry ([.ref (a0 0), .int x1, .int x2, .ref b0]) (n := 5) (Nat.le_of_ble_eq_true rfl)
  have hE : entryFrame m aa 5 = F0 m 0 ((lg_sl ([.ref (a0 0), .int x1, .int x2, .ref b0]) ++ List.replicate (5 - (lg_sl ([.ref (a0 0), .int x1, .int x2, .ref b0])).length) Slot.unset).toArray) [] := by rw [haa]; exact lg_entry_eq m _ 5
  refine W.eq hE ?_
  generalize (lg_sl ([.ref (a0 0), .int x1, .int x2, .ref b0]) ++ List.replicate (5 - (lg_sl ([.ref (a0 0), .int x1, .int x2, .ref b0])).length) Slot.unset).toArray = ls at hl ⊢
  have hl : lv_has ls 5 [(0, .ref (a0 0)), (1, .int x1), (2, .int x2), (3, .ref b0)] := hl
  change W p l e rm_L_worth s m aa below meth c s.heap [] 0 0 (MQ below qq aa s 2 12 A) (F0 m 0 ls [])
  have lk21 := hts (.classLink RL 21 "java/util/NoSuchElementException") (by decide +kernel)
  have lk13 := hts (.classLink RL 13 "java/lang/IllegalArgumentException") (by decide +kernel)
  obtain ⟨H, hH⟩ : ∃ H : Heap, H = s.heap := ⟨_, rfl⟩
  obtain ⟨locs, hlocs⟩ : ∃ locs : List Loc, locs = [] := ⟨_, rfl⟩
  have hS : va_S A s.heap H locs := by rw [hH, hlocs]; exact hS
  rw [← hH] at hP
  suffices hg : W p l e rm_L_worth s m aa below meth c H locs 0 0 (MQ below qq aa s 2 12 A) (F0 m 0 ls []) by subst hH; subst hlocs; exact hg
  unfold p_L_worth at h
  obtain ⟨v, hv, h⟩ := ok_bind h
  refine lv_aload_n hx hb dL_worth_0 rfl (lv_at hl 3 rfl) ?_
  refine lv_iconst (v := (0 : Int32)) hx hb dL_worth_1 (by decide) ?_
  refine lv_aload_n hx hb dL_worth_2 rfl (lv_at hl 0 rfl) ?_
  refine lv_iload_n hx hb dL_worth_3 rfl (lv_at hl 1 rfl) ?_
  refine lv_iload_n hx hb dL_worth_4 rfl (lv_at hl 2 rfl) ?_
  refine cx_vi (w2 := fun (_ : Unit) => w_L_worth cy a0 b0 gg gvn gdn o) (w2x := fun (_ : Unit) => w_L_worth cy a0 b0 gg gvn gdn o) (As := [.int x1, .int x2]) (rest := [.int (0 : Int32), .ref b0]) ⟨hx, hb, hml, hown, hts⟩ (c_X12_worth l dC dI cy z hl9 a0 gg gvn gdn x1 x2 H.size v hv) (cwV 2 hts gL_worth_X12_worth rfl rfl rfl (by decide +kernel) ⟨Nat.le_of_ble_eq_true rfl, Nat.le_of_ble_eq_true rfl⟩) (va_recv hK hP (ci := 10) (q0 := 0) rfl rfl) cl_blindS (cl_preS hK hP hD hS hA hX [0, 1, 2, 3, 4, 5, 6] (by decide) rfl) hP hD hS hA [0, 1, 2, 3, 4, 5, 6] rfl rfl hl.1 rfl (lv_room (Nat.le_of_ble_eq_true rfl)) dL_worth_5 ⟨Nat.le_of_ble_eq_true rfl, Nat.le_of_ble_eq_true rfl⟩ (cells' := 2) (slots' := 12) ⟨rfl, rfl⟩ (fun _ => updR [0, 1, 2, 3, 4, 5, 6] rfl) (fun _ => updR [0, 1, 2, 3, 4, 5, 6] rfl) (fun E ce q9 u H locs hw hE hP hD hS hc1 hc2 hc3 => ?_) (fun r u H locs hw hP hD hS => ?_)
  · subst hw
    have hP : va_P (dC, dI) vwCl (w_L_worth cy a0 b0 gg gvn gdn o) H := hP
    have hD : va_D A (w_L_worth cy a0 b0 gg gvn gdn o) := hD
    rcases hE with ⟨rfl, hE⟩ | ⟨rfl, hE⟩
    · rw [hE] at h
      dsimp only [xb] at h
      rw [if_pos rfl] at h
      refine vx_catch (name := "java/util/NoSuchElementException") hown [] (⟨0, 10, 13, 21⟩ : ExceptionTableEntry) [(⟨0, 10, 17, 13⟩ : ExceptionTableEntry)] htb (fun z9 hz9 => by cases hz9) rfl (by decide) lk21 (va_Nw.use rfl hX.2.2.2.2.1) hc1 hc2 hc3 ?_
      refine lv_astore (lv' := [(4, .ref q9), (0, .ref (a0 0)), (1, .int x1), (2, .int x2), (3, .ref b0)]) hx hb dL_worth_13 hl (by decide) rfl (fun ls hl => ?_)
      refine lv_iconst (v := (1 : Int32)) hx hb dL_worth_15 (by decide) ?_
      exact W.iret (v := (1 : Int32)) hx hb hr (fun t ht hW => by rw [hqq]; have hh := Option.some.inj h; exact ⟨⟨(1 : Int32), (v.2, o), rfl, ⟨fst_of hh, snd_of hh⟩, by rw [ht]; exact hP, va_K.moved hW.alike hK⟩, hS.F ht⟩) hS.2.2 dL_worth_16
    · rw [hE] at h
      dsimp only [xb] at h
      rw [if_neg (by decide), if_pos rfl] at h
      refine vx_catch (name := "java/lang/IllegalArgumentException") hown [(⟨0, 10, 13, 21⟩ : ExceptionTableEntry)] (⟨0, 10, 17, 13⟩ : ExceptionTableEntry) [] htb (fun z9 hz9 => by cases List.mem_singleton.mp hz9; exact Or.inr ⟨by decide, "java/util/NoSuchElementException", lk21, hN⟩) rfl (by decide) lk13 (va_Nw.use rfl hX.2.2.2.2.2.1) hc1 hc2 hc3 ?_
      refine lv_astore (lv' := [(4, .ref q9), (0, .ref (a0 0)), (1, .int x1), (2, .int x2), (3, .ref b0)]) hx hb dL_worth_17 hl (by decide) rfl (fun ls hl => ?_)
      refine lv_iconst (v := (2 : Int32)) hx hb dL_worth_19 (by decide) ?_
      exact W.iret (v := (2 : Int32)) hx hb hr (fun t ht hW => by rw [hqq]; have hh := Option.some.inj h; exact ⟨⟨(2 : Int32), (v.2, o), rfl, ⟨fst_of hh, snd_of hh⟩, by rw [ht]; exact hP, va_K.moved hW.alike hK⟩, hS.F ht⟩) hS.2.2 dL_worth_20
  obtain ⟨hw1, hw2⟩ := hw
  subst hw2
  rw [← hw1] at h
  dsimp only [xb] at h
  have hP : va_P (dC, dI) vwCl (w_L_worth cy a0 b0 gg gvn gdn o) H := hP
  have hD : va_D A (w_L_worth cy a0 b0 gg gvn gdn o) := hD
  refine lv_i2l hx hb dL_worth_8 rfl ?_
  refine va_last hx hb hK hP hD hS 7 2 rfl rfl (ix_in (by decide : ix (0 : Int32) 1)) dL_worth_9 (fun H locs hP hD hS => ?_)
  have hP : va_P (dC, dI) vwCl (w_L_worth cy a0 b0 gg gvn gdn (vp_updL o (0 : Int32).toNatClampNeg r.toInt64)) H := hP
  have hD : va_D A (w_L_worth cy a0 b0 gg gvn gdn (vp_updL o (0 : Int32).toNatClampNeg r.toInt64)) := hD
  refine lv_goto (tgt := 21) hx hb dL_worth_10 (by decide) ?_
  refine lv_iconst (v := (0 : Int32)) hx hb dL_worth_21 (by decide) ?_
  exact W.iret (v := (0 : Int32)) hx hb hr (fun t ht hW => by rw [hqq]; have hh := Option.some.inj h; exact ⟨⟨(0 : Int32), (v.2, vp_updL o (0 : Int32).toNatClampNeg r.toInt64), rfl, ⟨fst_of hh, snd_of hh⟩, by rw [ht]; exact hP, va_K.moved hW.alike hK⟩, hS.F ht⟩) hS.2.2 dL_worth_22

abbrev w_L_best (cy : Nat → ClassId) (a0 : Nat → Nat) (b0 : Nat) (gg : Int32 × Int32 × Int32 × Int32 × Int32 × Int32) (gvn : Int32 × Int32 × (Nat → Int32) × (Nat → Int32) × (Nat → Int32) × (Nat → Int32) × (Nat → Int32)) (gdn : Int32 × Int32 × (Nat → Int32) × (Nat → Int32) × (Nat → Int32) × (Nat → Int32)) (o : Nat → Int64) : va_W := [(a0 0, .inr (10, [.ref (a0 1), .int (gg.1), .int (gg.2.1), .int (gg.2.2.1), .int (gg.2.2.2.1), .int (gg.2.2.2.2.1), .ref (a0 2), .ref (a0 17), .ref (a0 32), .int (gg.2.2.2.2.2), .ref (a0 47), .ref (a0 48), .ref (a0 49), .ref (a0 50), .ref (a0 68), .ref (a0 78), .ref (a0 80)])), (a0 2, .inr (7, [.int (gvn.1), .int (gvn.2.1), .ref (a0 3), .ref (a0 8), .ref (a0 12), .ref (a0 13), .ref (a0 14), .ref (a0 15), .ref (a0 16)])), (a0 3, .inr (2, [.int (gdn.1), .int (gdn.2.1), .ref (a0 4), .ref (a0 5), .ref (a0 6), .ref (a0 7)])), (a0 4, .inl (cy 1, 10, .inl (gdn.2.2.1))), (a0 5, .inl (cy 1, 10, .inl (gdn.2.2.2.1))), (a0 6, .inl (cy 1, 10, .inl (gdn.2.2.2.2.1))), (a0 7, .inl (cy 1, 50, .inl (gdn.2.2.2.2.2))), (a0 12, .inl (cy 1, 5, .inl (gvn.2.2.1))), (a0 13, .inl (cy 1, 5, .inl (gvn.2.2.2.1))), (a0 14, .inl (cy 1, 5, .inl (gvn.2.2.2.2.1))), (a0 15, .inl (cy 1, 5, .inl (gvn.2.2.2.2.2.1))), (a0 16, .inl (cy 1, 5, .inl (gvn.2.2.2.2.2.2))), (b0, .inl (cy 2, 1, .inr (.inl (o))))]
abbrev rm_L_best : Room := { frames := 8, cells := 2, slots := 12, locals := 168 }
def p_L_best (gvn : Int32 × Int32 × (Nat → Int32) × (Nat → Int32) × (Nat → Int32) × (Nat → Int32) × (Nat → Int32)) (gdn : Int32 × Int32 × (Nat → Int32) × (Nat → Int32) × (Nat → Int32) × (Nat → Int32)) (x1 : Int32) (x2 : Int32) (o : Nat → Int64) : Option (Int32 × (Unit) × (Nat → Int64)) := ((p_X12_best gvn gdn x1 x2).bind fun v => xb v.1 (fun r => some ((0 : Int32), v.2, vp_updL o (0 : Int32).toNatClampNeg r.toInt64)) (fun k => if k = 1 then some ((1 : Int32), v.2, o) else if k = 2 then none else none))
set_option maxHeartbeats 1000000 in
set_option maxRecDepth 100000 in
theorem c_L_best (l : Launch) (dC : Nat → ClassId) (dI : Nat → Nat → Nat) (cy : Nat → ClassId) (z : Nat → Nat) (hl9 : l.stackTraces = false) (a0 : Nat → Nat) (b0 : Nat) (gg : Int32 × Int32 × Int32 × Int32 × Int32 × Int32) (gvn : Int32 × Int32 × (Nat → Int32) × (Nat → Int32) × (Nat → Int32) × (Nat → Int32) × (Nat → Int32)) (gdn : Int32 × Int32 × (Nat → Int32) × (Nat → Int32) × (Nat → Int32) × (Nat → Int32)) (x1 : Int32) (x2 : Int32) (o : Nat → Int64) (sz : Nat) (R0 : Int32 × (Unit) × (Nat → Int64)) (h : p_L_best gvn gdn x1 x2 o = some R0) : Met l yL_best wsL_best rm_L_best (va_Pc [.ref (a0 0), .int x1, .int x2, .ref b0] (prL dC dI cy z (w_L_best cy a0 b0 gg gvn gdn o) sz)) (va_Qi (fun (r : Int32) (u : (Unit) × (Nat → Int64)) => r = R0.1 ∧ u = R0.2) (fun u t => poC dC dI cy (w_L_best cy a0 b0 gg gvn gdn u.2) t) (va_A (w_L_best cy a0 b0 gg gvn gdn o) sz)) 2 12 (va_A (w_L_best cy a0 b0 gg gvn gdn o) sz) := by
  refine va_MetW (cc := cL_best) (maxL := 5) (ret := (some .int)) (hh := [(0, 10, 13, 21)]) (by decide) rfl ?_
  intro p e s m aa below meth c s₁ B hml hv
  obtain ⟨haa, ⟨⟨hsz, hP, hK, hD0⟩, hX⟩, hN⟩ := hv
  have hx := B.exec
  have hb := B.bytes
  have hr := B.returns
  have hts := atoms_spec (ws := wsL_best) B.pre
  have htb : c.exceptionTable.toList = tableOf [(0, 10, 13, 21)] := vx_table B (hts _ List.mem_cons_self)
  have hown : s.vm.findClass RL = some m.cls := findClass_of_methodNamed B.named
  have hlocks := B.notSynchronized
  subst hsz
  have hD := hD0.self (sz := s.heap.size)
  obtain ⟨qq, hqq⟩ : ∃ qq, qq = (va_Qi (fun (r : Int32) (u : (Unit) × (Nat → Int64)) => r = R0.1 ∧ u = R0.2) (fun u t => poC dC dI cy (w_L_best cy a0 b0 gg gvn gdn u.2) t) (va_A (w_L_best cy a0 b0 gg gvn gdn o) s.heap.size)) := ⟨_, rfl⟩
  rw [← hqq]
  generalize hAe : va_A (w_L_best cy a0 b0 gg gvn gdn o) s.heap.size = A at hD hqq hX ⊢
  have hA : ∀ q : Nat, s.heap.size ≤ q → A q := fun q h => by rw [← hAe]; exact Or.inr h
  have hS : va_S A s.heap s.heap [] := va_S.rf
  have hl := lv_entry ([.ref (a0 0), .int x1, .int x2, .ref b0]) (n := 5) (Nat.le_of_ble_eq_true rfl)
  have hE : entryFrame m aa 5 = F0 m 0 ((lg_sl ([.ref (a0 0), .int x1, .int x2, .ref b0]) ++ List.replicate (5 - (lg_sl ([.ref (a0 0), .int x1, .int x2, .ref b0])).length) Slot.unset).toArray) [] := by rw [haa]; exact lg_entry_eq m _ 5
  refine W.eq hE ?_
  generalize (lg_sl ([.ref (a0 0), .int x1, .int x2, .ref b0]) ++ List.replicate (5 - (lg_sl ([.ref (a0 0), .int x1, .int x2, .ref b0])).length) Slot.unset).toArray = ls at hl ⊢
  have hl : lv_has ls 5 [(0, .ref (a0 0)), (1, .int x1), (2, .int x2), (3, .ref b0)] := hl
  change W p l e rm_L_best s m aa below meth c s.heap [] 0 0 (MQ below qq aa s 2 12 A) (F0 m 0 ls [])
  have lk21 := hts (.classLink RL 21 "java/util/NoSuchElementException") (by decide +kernel)
  obtain ⟨H, hH⟩ : ∃ H : Heap, H = s.heap := ⟨_, rfl⟩
  obtain ⟨locs, hlocs⟩ : ∃ locs : List Loc, locs = [] := ⟨_, rfl⟩
  have hS : va_S A s.heap H locs := by rw [hH, hlocs]; exact hS
  rw [← hH] at hP
  suffices hg : W p l e rm_L_best s m aa below meth c H locs 0 0 (MQ below qq aa s 2 12 A) (F0 m 0 ls []) by subst hH; subst hlocs; exact hg
  unfold p_L_best at h
  obtain ⟨v, hv, h⟩ := ok_bind h
  refine lv_aload_n hx hb dL_best_0 rfl (lv_at hl 3 rfl) ?_
  refine lv_iconst (v := (0 : Int32)) hx hb dL_best_1 (by decide) ?_
  refine lv_aload_n hx hb dL_best_2 rfl (lv_at hl 0 rfl) ?_
  refine lv_iload_n hx hb dL_best_3 rfl (lv_at hl 1 rfl) ?_
  refine lv_iload_n hx hb dL_best_4 rfl (lv_at hl 2 rfl) ?_
  refine cx_vi (w2 := fun (_ : Unit) => w_L_best cy a0 b0 gg gvn gdn o) (w2x := fun (_ : Unit) => w_L_best cy a0 b0 gg gvn gdn o) (As := [.int x1, .int x2]) (rest := [.int (0 : Int32), .ref b0]) ⟨hx, hb, hml, hown, hts⟩ (c_X12_best l dC dI cy z hl9 a0 gg gvn gdn x1 x2 H.size v hv) (cwV 2 hts gL_best_X12_best rfl rfl rfl (by decide +kernel) ⟨Nat.le_of_ble_eq_true rfl, Nat.le_of_ble_eq_true rfl⟩) (va_recv hK hP (ci := 10) (q0 := 0) rfl rfl) cl_blindS (cl_preS hK hP hD hS hA hX [0, 1, 2, 3, 4, 5, 6, 7, 8, 9, 10, 11] (by decide) rfl) hP hD hS hA [0, 1, 2, 3, 4, 5, 6, 7, 8, 9, 10, 11] rfl rfl hl.1 rfl (lv_room (Nat.le_of_ble_eq_true rfl)) dL_best_5 ⟨Nat.le_of_ble_eq_true rfl, Nat.le_of_ble_eq_true rfl⟩ (cells' := 2) (slots' := 12) ⟨rfl, rfl⟩ (fun _ => updR [0, 1, 2, 3, 4, 5, 6, 7, 8, 9, 10, 11] rfl) (fun _ => updR [0, 1, 2, 3, 4, 5, 6, 7, 8, 9, 10, 11] rfl) (fun E ce q9 u H locs hw hE hP hD hS hc1 hc2 hc3 => ?_) (fun r u H locs hw hP hD hS => ?_)
  · subst hw
    have hP : va_P (dC, dI) vwCl (w_L_best cy a0 b0 gg gvn gdn o) H := hP
    have hD : va_D A (w_L_best cy a0 b0 gg gvn gdn o) := hD
    rcases hE with ⟨rfl, hE⟩ | ⟨rfl, hE⟩
    · rw [hE] at h
      dsimp only [xb] at h
      rw [if_pos rfl] at h
      refine vx_catch (name := "java/util/NoSuchElementException") hown [] (⟨0, 10, 13, 21⟩ : ExceptionTableEntry) [] htb (fun z9 hz9 => by cases hz9) rfl (by decide) lk21 (va_Nw.use rfl hX.2.2.2.2.1) hc1 hc2 hc3 ?_
      refine lv_astore (lv' := [(4, .ref q9), (0, .ref (a0 0)), (1, .int x1), (2, .int x2), (3, .ref b0)]) hx hb dL_best_13 hl (by decide) rfl (fun ls hl => ?_)
      refine lv_iconst (v := (1 : Int32)) hx hb dL_best_15 (by decide) ?_
      exact W.iret (v := (1 : Int32)) hx hb hr (fun t ht hW => by rw [hqq]; have hh := Option.some.inj h; exact ⟨⟨(1 : Int32), (v.2, o), rfl, ⟨fst_of hh, snd_of hh⟩, by rw [ht]; exact hP, va_K.moved hW.alike hK⟩, hS.F ht⟩) hS.2.2 dL_best_16
    · rw [hE] at h
      dsimp only [xb] at h
      rw [if_neg (by decide), if_pos rfl] at h
      exact no_some h
  obtain ⟨hw1, hw2⟩ := hw
  subst hw2
  rw [← hw1] at h
  dsimp only [xb] at h
  have hP : va_P (dC, dI) vwCl (w_L_best cy a0 b0 gg gvn gdn o) H := hP
  have hD : va_D A (w_L_best cy a0 b0 gg gvn gdn o) := hD
  refine lv_i2l hx hb dL_best_8 rfl ?_
  refine va_last hx hb hK hP hD hS 12 2 rfl rfl (ix_in (by decide : ix (0 : Int32) 1)) dL_best_9 (fun H locs hP hD hS => ?_)
  have hP : va_P (dC, dI) vwCl (w_L_best cy a0 b0 gg gvn gdn (vp_updL o (0 : Int32).toNatClampNeg r.toInt64)) H := hP
  have hD : va_D A (w_L_best cy a0 b0 gg gvn gdn (vp_updL o (0 : Int32).toNatClampNeg r.toInt64)) := hD
  refine lv_goto (tgt := 17) hx hb dL_best_10 (by decide) ?_
  refine lv_iconst (v := (0 : Int32)) hx hb dL_best_17 (by decide) ?_
  exact W.iret (v := (0 : Int32)) hx hb hr (fun t ht hW => by rw [hqq]; have hh := Option.some.inj h; exact ⟨⟨(0 : Int32), (v.2, vp_updL o (0 : Int32).toNatClampNeg r.toInt64), rfl, ⟨fst_of hh, snd_of hh⟩, by rw [ht]; exact hP, va_K.moved hW.alike hK⟩, hS.F ht⟩) hS.2.2 dL_best_18

abbrev w_L_span (cy : Nat → ClassId) (a0 : Nat → Nat) (b0 : Nat) (gg : Int32 × Int32 × Int32 × Int32 × Int32 × Int32) (gvn : Int32 × Int32 × (Nat → Int32) × (Nat → Int32) × (Nat → Int32) × (Nat → Int32) × (Nat → Int32)) (gdn : Int32 × Int32 × (Nat → Int32) × (Nat → Int32) × (Nat → Int32) × (Nat → Int32)) (gne : (Nat → Nat → Int32) × (Nat → Nat → Int64)) (o : Nat → Int64) : va_W := [(a0 0, .inr (10, [.ref (a0 1), .int (gg.1), .int (gg.2.1), .int (gg.2.2.1), .int (gg.2.2.2.1), .int (gg.2.2.2.2.1), .ref (a0 2), .ref (a0 17), .ref (a0 32), .int (gg.2.2.2.2.2), .ref (a0 47), .ref (a0 48), .ref (a0 49), .ref (a0 50), .ref (a0 68), .ref (a0 78), .ref (a0 80)])), (a0 2, .inr (7, [.int (gvn.1), .int (gvn.2.1), .ref (a0 3), .ref (a0 8), .ref (a0 12), .ref (a0 13), .ref (a0 14), .ref (a0 15), .ref (a0 16)])), (a0 3, .inr (2, [.int (gdn.1), .int (gdn.2.1), .ref (a0 4), .ref (a0 5), .ref (a0 6), .ref (a0 7)])), (a0 4, .inl (cy 1, 10, .inl (gdn.2.2.1))), (a0 5, .inl (cy 1, 10, .inl (gdn.2.2.2.1))), (a0 6, .inl (cy 1, 10, .inl (gdn.2.2.2.2.1))), (a0 7, .inl (cy 1, 50, .inl (gdn.2.2.2.2.2))), (a0 12, .inl (cy 1, 5, .inl (gvn.2.2.1))), (a0 13, .inl (cy 1, 5, .inl (gvn.2.2.2.1))), (a0 14, .inl (cy 1, 5, .inl (gvn.2.2.2.2.1))), (a0 15, .inl (cy 1, 5, .inl (gvn.2.2.2.2.2.1))), (a0 16, .inl (cy 1, 5, .inl (gvn.2.2.2.2.2.2))), (a0 50, .inr (4, [.ref (a0 51), .ref (a0 62)])), (a0 51, .inl (cy 3, 10, .inr (.inr (.inr (.inr (fun i => some ([a0 52, a0 53, a0 54, a0 55, a0 56, a0 57, a0 58, a0 59, a0 60, a0 61].getD i 0))))))), (a0 52, .inl (cy 1, 41, .inl (gne.1 0))), (a0 53, .inl (cy 1, 41, .inl (gne.1 1))), (a0 54, .inl (cy 1, 41, .inl (gne.1 2))), (a0 55, .inl (cy 1, 41, .inl (gne.1 3))), (a0 56, .inl (cy 1, 41, .inl (gne.1 4))), (a0 57, .inl (cy 1, 41, .inl (gne.1 5))), (a0 58, .inl (cy 1, 41, .inl (gne.1 6))), (a0 59, .inl (cy 1, 41, .inl (gne.1 7))), (a0 60, .inl (cy 1, 41, .inl (gne.1 8))), (a0 61, .inl (cy 1, 41, .inl (gne.1 9))), (a0 62, .inl (cy 4, 5, .inr (.inr (.inr (.inr (fun i => some ([a0 63, a0 64, a0 65, a0 66, a0 67].getD i 0))))))), (a0 63, .inl (cy 2, 41, .inr (.inl (gne.2 0)))), (a0 64, .inl (cy 2, 41, .inr (.inl (gne.2 1)))), (a0 65, .inl (cy 2, 41, .inr (.inl (gne.2 2)))), (a0 66, .inl (cy 2, 41, .inr (.inl (gne.2 3)))), (a0 67, .inl (cy 2, 41, .inr (.inl (gne.2 4)))), (b0, .inl (cy 2, 1, .inr (.inl (o))))]
abbrev rm_L_span : Room := { frames := 8, cells := 2, slots := 12, locals := 139 }
def p_L_span (gvn : Int32 × Int32 × (Nat → Int32) × (Nat → Int32) × (Nat → Int32) × (Nat → Int32) × (Nat → Int32)) (gdn : Int32 × Int32 × (Nat → Int32) × (Nat → Int32) × (Nat → Int32) × (Nat → Int32)) (gne : (Nat → Nat → Int32) × (Nat → Nat → Int64)) (x1 : Int32) (x2 : Int32) (x3 : Int32) (o : Nat → Int64) : Option (Int32 × (((Nat → Nat → Int32) × (Nat → Nat → Int64))) × (Nat → Int64)) := ((p_X12_span gvn gdn gne x1 x2 x3).bind fun v => xb v.1 (fun r => some ((0 : Int32), v.2, vp_updL o (0 : Int32).toNatClampNeg r.toInt64)) (fun k => if k = 1 then some ((1 : Int32), v.2, o) else if k = 2 then some ((2 : Int32), v.2, o) else none))
set_option maxHeartbeats 1000000 in
set_option maxRecDepth 100000 in
theorem c_L_span (l : Launch) (dC : Nat → ClassId) (dI : Nat → Nat → Nat) (cy : Nat → ClassId) (z : Nat → Nat) (hl9 : l.stackTraces = false) (a0 : Nat → Nat) (b0 : Nat) (gg : Int32 × Int32 × Int32 × Int32 × Int32 × Int32) (gvn : Int32 × Int32 × (Nat → Int32) × (Nat → Int32) × (Nat → Int32) × (Nat → Int32) × (Nat → Int32)) (gdn : Int32 × Int32 × (Nat → Int32) × (Nat → Int32) × (Nat → Int32) × (Nat → Int32)) (gne : (Nat → Nat → Int32) × (Nat → Nat → Int64)) (x1 : Int32) (x2 : Int32) (x3 : Int32) (o : Nat → Int64) (sz : Nat) (R0 : Int32 × (((Nat → Nat → Int32) × (Nat → Nat → Int64))) × (Nat → Int64)) (h : p_L_span gvn gdn gne x1 x2 x3 o = some R0) : Met l yL_span wsL_span rm_L_span (va_Pc [.ref (a0 0), .int x1, .int x2, .int x3, .ref b0] (prL dC dI cy z (w_L_span cy a0 b0 gg gvn gdn gne o) sz)) (va_Qi (fun (r : Int32) (u : (((Nat → Nat → Int32) × (Nat → Nat → Int64))) × (Nat → Int64)) => r = R0.1 ∧ u = R0.2) (fun u t => poC dC dI cy (w_L_span cy a0 b0 gg gvn gdn u.1 u.2) t) (va_A (w_L_span cy a0 b0 gg gvn gdn gne o) sz)) 2 12 (va_A (w_L_span cy a0 b0 gg gvn gdn gne o) sz) := by
  refine va_MetW (cc := cL_span) (maxL := 6) (ret := (some .int)) (hh := [(0, 12, 15, 21), (0, 12, 19, 13)]) (by decide) rfl ?_
  intro p e s m aa below meth c s₁ B hml hv
  obtain ⟨haa, ⟨⟨hsz, hP, hK, hD0⟩, hX⟩, hN⟩ := hv
  have hx := B.exec
  have hb := B.bytes
  have hr := B.returns
  have hts := atoms_spec (ws := wsL_span) B.pre
  have htb : c.exceptionTable.toList = tableOf [(0, 12, 15, 21), (0, 12, 19, 13)] := vx_table B (hts _ List.mem_cons_self)
  have hown : s.vm.findClass RL = some m.cls := findClass_of_methodNamed B.named
  have hlocks := B.notSynchronized
  subst hsz
  have hD := hD0.self (sz := s.heap.size)
  obtain ⟨qq, hqq⟩ : ∃ qq, qq = (va_Qi (fun (r : Int32) (u : (((Nat → Nat → Int32) × (Nat → Nat → Int64))) × (Nat → Int64)) => r = R0.1 ∧ u = R0.2) (fun u t => poC dC dI cy (w_L_span cy a0 b0 gg gvn gdn u.1 u.2) t) (va_A (w_L_span cy a0 b0 gg gvn gdn gne o) s.heap.size)) := ⟨_, rfl⟩
  rw [← hqq]
  generalize hAe : va_A (w_L_span cy a0 b0 gg gvn gdn gne o) s.heap.size = A at hD hqq hX ⊢
  have hA : ∀ q : Nat, s.heap.size ≤ q → A q := fun q h => by rw [← hAe]; exact Or.inr h
  have hS : va_S A s.heap s.heap [] := va_S.rf
  have hl := lv_entry ([.ref (a0 0), .int x1, .int x2, .int x3, .ref b0]) (n := 6) (Nat.le_of_ble_eq_true rfl)
  have hE : entryFrame m aa 6 = F0 m 0 ((lg_sl ([.ref (a0 0), .int x1, .int x2, .int x3, .ref b0]) ++ List.replicate (6 - (lg_sl ([.ref (a0 0), .int x1, .int x2, .int x3, .ref b0])).length) Slot.unset).toArray) [] := by rw [haa]; exact lg_entry_eq m _ 6
  refine W.eq hE ?_
  generalize (lg_sl ([.ref (a0 0), .int x1, .int x2, .int x3, .ref b0]) ++ List.replicate (6 - (lg_sl ([.ref (a0 0), .int x1, .int x2, .int x3, .ref b0])).length) Slot.unset).toArray = ls at hl ⊢
  have hl : lv_has ls 6 [(0, .ref (a0 0)), (1, .int x1), (2, .int x2), (3, .int x3), (4, .ref b0)] := hl
  change W p l e rm_L_span s m aa below meth c s.heap [] 0 0 (MQ below qq aa s 2 12 A) (F0 m 0 ls [])
  have lk21 := hts (.classLink RL 21 "java/util/NoSuchElementException") (by decide +kernel)
  have lk13 := hts (.classLink RL 13 "java/lang/IllegalArgumentException") (by decide +kernel)
  obtain ⟨H, hH⟩ : ∃ H : Heap, H = s.heap := ⟨_, rfl⟩
  obtain ⟨locs, hlocs⟩ : ∃ locs : List Loc, locs = [] := ⟨_, rfl⟩
  have hS : va_S A s.heap H locs := by rw [hH, hlocs]; exact hS
  rw [← hH] at hP
  suffices hg : W p l e rm_L_span s m aa below meth c H locs 0 0 (MQ below qq aa s 2 12 A) (F0 m 0 ls []) by subst hH; subst hlocs; exact hg
  unfold p_L_span at h
  obtain ⟨v, hv, h⟩ := ok_bind h
  refine lv_aload hx hb dL_span_0 (lv_at hl 4 rfl) ?_
  refine lv_iconst (v := (0 : Int32)) hx hb dL_span_2 (by decide) ?_
  refine lv_aload_n hx hb dL_span_3 rfl (lv_at hl 0 rfl) ?_
  refine lv_iload_n hx hb dL_span_4 rfl (lv_at hl 1 rfl) ?_
  refine lv_iload_n hx hb dL_span_5 rfl (lv_at hl 2 rfl) ?_
  refine lv_iload_n hx hb dL_span_6 rfl (lv_at hl 3 rfl) ?_
  refine cx_vi (w2 := fun (u : ((Nat → Nat → Int32) × (Nat → Nat → Int64))) => w_L_span cy a0 b0 gg gvn gdn u o) (w2x := fun (u : ((Nat → Nat → Int32) × (Nat → Nat → Int64))) => w_L_span cy a0 b0 gg gvn gdn u o) (As := [.int x1, .int x2, .int x3]) (rest := [.int (0 : Int32), .ref b0]) ⟨hx, hb, hml, hown, hts⟩ (c_X12_span l dC dI cy z hl9 a0 gg gvn gdn gne x1 x2 x3 H.size v hv) (cwV 3 hts gL_span_X12_span rfl rfl rfl (by decide +kernel) ⟨Nat.le_of_ble_eq_true rfl, Nat.le_of_ble_eq_true rfl⟩) (va_recv hK hP (ci := 10) (q0 := 0) rfl rfl) cl_blindS (cl_preS hK hP hD hS hA hX [0, 1, 2, 3, 4, 5, 6, 7, 8, 9, 10, 11, 12, 13, 14, 15, 16, 17, 18, 19, 20, 21, 22, 23, 24, 25, 26, 27, 28, 29] (by decide) rfl) hP hD hS hA [0, 1, 2, 3, 4, 5, 6, 7, 8, 9, 10, 11, 12, 13, 14, 15, 16, 17, 18, 19, 20, 21, 22, 23, 24, 25, 26, 27, 28, 29] rfl rfl hl.1 rfl (lv_room (Nat.le_of_ble_eq_true rfl)) dL_span_7 ⟨Nat.le_of_ble_eq_true rfl, Nat.le_of_ble_eq_true rfl⟩ (cells' := 2) (slots' := 12) ⟨rfl, rfl⟩ (fun _ => updM [0, 1, 2, 3, 4, 5, 6, 7, 8, 9, 10, 11, 12, 13, 14, 15, 16, 17, 18, 19, 20, 21, 22, 23, 24, 25, 26, 27, 28, 29] [30] [(b0, .inl (cy 2, 1, .inr (.inl (o))))] 31 rfl rfl rfl rfl rfl (by decide +kernel) (by decide +kernel) rfl) (fun _ => updM [0, 1, 2, 3, 4, 5, 6, 7, 8, 9, 10, 11, 12, 13, 14, 15, 16, 17, 18, 19, 20, 21, 22, 23, 24, 25, 26, 27, 28, 29] [30] [(b0, .inl (cy 2, 1, .inr (.inl (o))))] 31 rfl rfl rfl rfl rfl (by decide +kernel) (by decide +kernel) rfl) (fun E ce q9 u H locs hw hE hP hD hS hc1 hc2 hc3 => ?_) (fun r u H locs hw hP hD hS => ?_)
  · subst hw
    have hP : va_P (dC, dI) vwCl (w_L_span cy a0 b0 gg gvn gdn v.2 o) H := hP
    have hD : va_D A (w_L_span cy a0 b0 gg gvn gdn v.2 o) := hD
    rcases hE with ⟨rfl, hE⟩ | ⟨rfl, hE⟩
    · rw [hE] at h
      dsimp only [xb] at h
      rw [if_pos rfl] at h
      refine vx_catch (name := "java/util/NoSuchElementException") hown [] (⟨0, 12, 15, 21⟩ : ExceptionTableEntry) [(⟨0, 12, 19, 13⟩ : ExceptionTableEntry)] htb (fun z9 hz9 => by cases hz9) rfl (by decide) lk21 (va_Nw.use rfl hX.2.2.2.2.1) hc1 hc2 hc3 ?_
      refine lv_astore (lv' := [(5, .ref q9), (0, .ref (a0 0)), (1, .int x1), (2, .int x2), (3, .int x3), (4, .ref b0)]) hx hb dL_span_15 hl (by decide) rfl (fun ls hl => ?_)
      refine lv_iconst (v := (1 : Int32)) hx hb dL_span_17 (by decide) ?_
      exact W.iret (v := (1 : Int32)) hx hb hr (fun t ht hW => by rw [hqq]; have hh := Option.some.inj h; exact ⟨⟨(1 : Int32), (v.2, o), rfl, ⟨fst_of hh, snd_of hh⟩, by rw [ht]; exact hP, va_K.moved hW.alike hK⟩, hS.F ht⟩) hS.2.2 dL_span_18
    · rw [hE] at h
      dsimp only [xb] at h
      rw [if_neg (by decide), if_pos rfl] at h
      refine vx_catch (name := "java/lang/IllegalArgumentException") hown [(⟨0, 12, 15, 21⟩ : ExceptionTableEntry)] (⟨0, 12, 19, 13⟩ : ExceptionTableEntry) [] htb (fun z9 hz9 => by cases List.mem_singleton.mp hz9; exact Or.inr ⟨by decide, "java/util/NoSuchElementException", lk21, hN⟩) rfl (by decide) lk13 (va_Nw.use rfl hX.2.2.2.2.2.1) hc1 hc2 hc3 ?_
      refine lv_astore (lv' := [(5, .ref q9), (0, .ref (a0 0)), (1, .int x1), (2, .int x2), (3, .int x3), (4, .ref b0)]) hx hb dL_span_19 hl (by decide) rfl (fun ls hl => ?_)
      refine lv_iconst (v := (2 : Int32)) hx hb dL_span_21 (by decide) ?_
      exact W.iret (v := (2 : Int32)) hx hb hr (fun t ht hW => by rw [hqq]; have hh := Option.some.inj h; exact ⟨⟨(2 : Int32), (v.2, o), rfl, ⟨fst_of hh, snd_of hh⟩, by rw [ht]; exact hP, va_K.moved hW.alike hK⟩, hS.F ht⟩) hS.2.2 dL_span_22
  obtain ⟨hw1, hw2⟩ := hw
  subst hw2
  rw [← hw1] at h
  dsimp only [xb] at h
  have hP : va_P (dC, dI) vwCl (w_L_span cy a0 b0 gg gvn gdn v.2 o) H := hP
  have hD : va_D A (w_L_span cy a0 b0 gg gvn gdn v.2 o) := hD
  refine lv_i2l hx hb dL_span_10 rfl ?_
  refine va_last hx hb hK hP hD hS 30 2 rfl rfl (ix_in (by decide : ix (0 : Int32) 1)) dL_span_11 (fun H locs hP hD hS => ?_)
  have hP : va_P (dC, dI) vwCl (w_L_span cy a0 b0 gg gvn gdn v.2 (vp_updL o (0 : Int32).toNatClampNeg r.toInt64)) H := hP
  have hD : va_D A (w_L_span cy a0 b0 gg gvn gdn v.2 (vp_updL o (0 : Int32).toNatClampNeg r.toInt64)) := hD
  refine lv_goto (tgt := 23) hx hb dL_span_12 (by decide) ?_
  refine lv_iconst (v := (0 : Int32)) hx hb dL_span_23 (by decide) ?_
  exact W.iret (v := (0 : Int32)) hx hb hr (fun t ht hW => by rw [hqq]; have hh := Option.some.inj h; exact ⟨⟨(0 : Int32), (v.2, vp_updL o (0 : Int32).toNatClampNeg r.toInt64), rfl, ⟨fst_of hh, snd_of hh⟩, by rw [ht]; exact hP, va_K.moved hW.alike hK⟩, hS.F ht⟩) hS.2.2 dL_span_24

abbrev w_L_rests (cy : Nat → ClassId) (a0 : Nat → Nat) (b0 : Nat) (gg : Int32 × Int32 × Int32 × Int32 × Int32 × Int32) (gvn : Int32 × Int32 × (Nat → Int32) × (Nat → Int32) × (Nat → Int32) × (Nat → Int32) × (Nat → Int32)) (gdn : Int32 × Int32 × (Nat → Int32) × (Nat → Int32) × (Nat → Int32) × (Nat → Int32)) (gne : (Nat → Nat → Int32) × (Nat → Nat → Int64)) (ggm : Int32 × Int32 × Int32 × (Nat → Int32) × (Nat → Int32) × (Nat → Int32) × (Nat → Nat → Int64)) (o : Nat → Int64) : va_W := [(a0 0, .inr (10, [.ref (a0 1), .int (gg.1), .int (gg.2.1), .int (gg.2.2.1), .int (gg.2.2.2.1), .int (gg.2.2.2.2.1), .ref (a0 2), .ref (a0 17), .ref (a0 32), .int (gg.2.2.2.2.2), .ref (a0 47), .ref (a0 48), .ref (a0 49), .ref (a0 50), .ref (a0 68), .ref (a0 78), .ref (a0 80)])), (a0 2, .inr (7, [.int (gvn.1), .int (gvn.2.1), .ref (a0 3), .ref (a0 8), .ref (a0 12), .ref (a0 13), .ref (a0 14), .ref (a0 15), .ref (a0 16)])), (a0 3, .inr (2, [.int (gdn.1), .int (gdn.2.1), .ref (a0 4), .ref (a0 5), .ref (a0 6), .ref (a0 7)])), (a0 4, .inl (cy 1, 10, .inl (gdn.2.2.1))), (a0 5, .inl (cy 1, 10, .inl (gdn.2.2.2.1))), (a0 6, .inl (cy 1, 10, .inl (gdn.2.2.2.2.1))), (a0 7, .inl (cy 1, 50, .inl (gdn.2.2.2.2.2))), (a0 12, .inl (cy 1, 5, .inl (gvn.2.2.1))), (a0 13, .inl (cy 1, 5, .inl (gvn.2.2.2.1))), (a0 14, .inl (cy 1, 5, .inl (gvn.2.2.2.2.1))), (a0 15, .inl (cy 1, 5, .inl (gvn.2.2.2.2.2.1))), (a0 16, .inl (cy 1, 5, .inl (gvn.2.2.2.2.2.2))), (a0 50, .inr (4, [.ref (a0 51), .ref (a0 62)])), (a0 51, .inl (cy 3, 10, .inr (.inr (.inr (.inr (fun i => some ([a0 52, a0 53, a0 54, a0 55, a0 56, a0 57, a0 58, a0 59, a0 60, a0 61].getD i 0))))))), (a0 52, .inl (cy 1, 41, .inl (gne.1 0))), (a0 53, .inl (cy 1, 41, .inl (gne.1 1))), (a0 54, .inl (cy 1, 41, .inl (gne.1 2))), (a0 55, .inl (cy 1, 41, .inl (gne.1 3))), (a0 56, .inl (cy 1, 41, .inl (gne.1 4))), (a0 57, .inl (cy 1, 41, .inl (gne.1 5))), (a0 58, .inl (cy 1, 41, .inl (gne.1 6))), (a0 59, .inl (cy 1, 41, .inl (gne.1 7))), (a0 60, .inl (cy 1, 41, .inl (gne.1 8))), (a0 61, .inl (cy 1, 41, .inl (gne.1 9))), (a0 62, .inl (cy 4, 5, .inr (.inr (.inr (.inr (fun i => some ([a0 63, a0 64, a0 65, a0 66, a0 67].getD i 0))))))), (a0 63, .inl (cy 2, 41, .inr (.inl (gne.2 0)))), (a0 64, .inl (cy 2, 41, .inr (.inl (gne.2 1)))), (a0 65, .inl (cy 2, 41, .inr (.inl (gne.2 2)))), (a0 66, .inl (cy 2, 41, .inr (.inl (gne.2 3)))), (a0 67, .inl (cy 2, 41, .inr (.inl (gne.2 4)))), (a0 68, .inr (3, [.int (ggm.1), .int (ggm.2.1), .int (ggm.2.2.1), .ref (a0 69), .ref (a0 70), .ref (a0 71), .ref (a0 72)])), (a0 69, .inl (cy 1, 5, .inl (ggm.2.2.2.1))), (a0 70, .inl (cy 1, 5, .inl (ggm.2.2.2.2.1))), (a0 71, .inl (cy 1, 5, .inl (ggm.2.2.2.2.2.1))), (a0 72, .inl (cy 4, 5, .inr (.inr (.inr (.inr (fun i => some ([a0 73, a0 74, a0 75, a0 76, a0 77].getD i 0))))))), (a0 73, .inl (cy 2, 26, .inr (.inl (ggm.2.2.2.2.2.2 0)))), (a0 74, .inl (cy 2, 26, .inr (.inl (ggm.2.2.2.2.2.2 1)))), (a0 75, .inl (cy 2, 26, .inr (.inl (ggm.2.2.2.2.2.2 2)))), (a0 76, .inl (cy 2, 26, .inr (.inl (ggm.2.2.2.2.2.2 3)))), (a0 77, .inl (cy 2, 26, .inr (.inl (ggm.2.2.2.2.2.2 4)))), (b0, .inl (cy 2, 1, .inr (.inl (o))))]
abbrev rm_L_rests : Room := { frames := 8, cells := 2, slots := 12, locals := 144 }
def p_L_rests (gvn : Int32 × Int32 × (Nat → Int32) × (Nat → Int32) × (Nat → Int32) × (Nat → Int32) × (Nat → Int32)) (gdn : Int32 × Int32 × (Nat → Int32) × (Nat → Int32) × (Nat → Int32) × (Nat → Int32)) (gne : (Nat → Nat → Int32) × (Nat → Nat → Int64)) (ggm : Int32 × Int32 × Int32 × (Nat → Int32) × (Nat → Int32) × (Nat → Int32) × (Nat → Nat → Int64)) (x1 : Int32) (o : Nat → Int64) : Option (Int32 × (((Nat → Nat → Int32) × (Nat → Nat → Int64)) × (Int32 × Int32 × Int32 × (Nat → Int32) × (Nat → Int32) × (Nat → Int32) × (Nat → Nat → Int64))) × (Nat → Int64)) := ((p_X12_rests gvn gdn gne ggm x1).bind fun v => xb v.1 (fun r => some ((0 : Int32), v.2, vp_updL o (0 : Int32).toNatClampNeg r.toInt64)) (fun k => if k = 1 then some ((1 : Int32), v.2, o) else if k = 2 then none else none))
set_option maxHeartbeats 1000000 in
set_option maxRecDepth 100000 in
theorem c_L_rests (l : Launch) (dC : Nat → ClassId) (dI : Nat → Nat → Nat) (cy : Nat → ClassId) (z : Nat → Nat) (hl9 : l.stackTraces = false) (a0 : Nat → Nat) (b0 : Nat) (gg : Int32 × Int32 × Int32 × Int32 × Int32 × Int32) (gvn : Int32 × Int32 × (Nat → Int32) × (Nat → Int32) × (Nat → Int32) × (Nat → Int32) × (Nat → Int32)) (gdn : Int32 × Int32 × (Nat → Int32) × (Nat → Int32) × (Nat → Int32) × (Nat → Int32)) (gne : (Nat → Nat → Int32) × (Nat → Nat → Int64)) (ggm : Int32 × Int32 × Int32 × (Nat → Int32) × (Nat → Int32) × (Nat → Int32) × (Nat → Nat → Int64)) (x1 : Int32) (o : Nat → Int64) (sz : Nat) (R0 : Int32 × (((Nat → Nat → Int32) × (Nat → Nat → Int64)) × (Int32 × Int32 × Int32 × (Nat → Int32) × (Nat → Int32) × (Nat → Int32) × (Nat → Nat → Int64))) × (Nat → Int64)) (h : p_L_rests gvn gdn gne ggm x1 o = some R0) : Met l yL_rests wsL_rests rm_L_rests (va_Pc [.ref (a0 0), .int x1, .ref b0] (prL dC dI cy z (w_L_rests cy a0 b0 gg gvn gdn gne ggm o) sz)) (va_Qi (fun (r : Int32) (u : (((Nat → Nat → Int32) × (Nat → Nat → Int64)) × (Int32 × Int32 × Int32 × (Nat → Int32) × (Nat → Int32) × (Nat → Int32) × (Nat → Nat → Int64))) × (Nat → Int64)) => r = R0.1 ∧ u = R0.2) (fun u t => poC dC dI cy (w_L_rests cy a0 b0 gg gvn gdn u.1.1 u.1.2 u.2) t) (va_A (w_L_rests cy a0 b0 gg gvn gdn gne ggm o) sz)) 2 12 (va_A (w_L_rests cy a0 b0 gg gvn gdn gne ggm o) sz) := by
  refine va_MetW (cc := cL_rests) (maxL := 4) (ret := (some .int)) (hh := [(0, 9, 12, 21)]) (by decide) rfl ?_
  intro p e s m aa below meth c s₁ B hml hv
  obtain ⟨haa, ⟨⟨hsz, hP, hK, hD0⟩, hX⟩, hN⟩ := hv
  have hx := B.exec
  have hb := B.bytes
  have hr := B.returns
  have hts := atoms_spec (ws := wsL_rests) B.pre
  have htb : c.exceptionTable.toList = tableOf [(0, 9, 12, 21)] := vx_table B (hts _ List.mem_cons_self)
  have hown : s.vm.findClass RL = some m.cls := findClass_of_methodNamed B.named
  have hlocks := B.notSynchronized
  subst hsz
  have hD := hD0.self (sz := s.heap.size)
  obtain ⟨qq, hqq⟩ : ∃ qq, qq = (va_Qi (fun (r : Int32) (u : (((Nat → Nat → Int32) × (Nat → Nat → Int64)) × (Int32 × Int32 × Int32 × (Nat → Int32) × (Nat → Int32) × (Nat → Int32) × (Nat → Nat → Int64))) × (Nat → Int64)) => r = R0.1 ∧ u = R0.2) (fun u t => poC dC dI cy (w_L_rests cy a0 b0 gg gvn gdn u.1.1 u.1.2 u.2) t) (va_A (w_L_rests cy a0 b0 gg gvn gdn gne ggm o) s.heap.size)) := ⟨_, rfl⟩
  rw [← hqq]
  generalize hAe : va_A (w_L_rests cy a0 b0 gg gvn gdn gne ggm o) s.heap.size = A at hD hqq hX ⊢
  have hA : ∀ q : Nat, s.heap.size ≤ q → A q := fun q h => by rw [← hAe]; exact Or.inr h
  have hS : va_S A s.heap s.heap [] := va_S.rf
  have hl := lv_entry ([.ref (a0 0), .int x1, .ref b0]) (n := 4) (Nat.le_of_ble_eq_true rfl)
  have hE : entryFrame m aa 4 = F0 m 0 ((lg_sl ([.ref (a0 0), .int x1, .ref b0]) ++ List.replicate (4 - (lg_sl ([.ref (a0 0), .int x1, .ref b0])).length) Slot.unset).toArray) [] := by rw [haa]; exact lg_entry_eq m _ 4
  refine W.eq hE ?_
  generalize (lg_sl ([.ref (a0 0), .int x1, .ref b0]) ++ List.replicate (4 - (lg_sl ([.ref (a0 0), .int x1, .ref b0])).length) Slot.unset).toArray = ls at hl ⊢
  have hl : lv_has ls 4 [(0, .ref (a0 0)), (1, .int x1), (2, .ref b0)] := hl
  change W p l e rm_L_rests s m aa below meth c s.heap [] 0 0 (MQ below qq aa s 2 12 A) (F0 m 0 ls [])
  have lk21 := hts (.classLink RL 21 "java/util/NoSuchElementException") (by decide +kernel)
  obtain ⟨H, hH⟩ : ∃ H : Heap, H = s.heap := ⟨_, rfl⟩
  obtain ⟨locs, hlocs⟩ : ∃ locs : List Loc, locs = [] := ⟨_, rfl⟩
  have hS : va_S A s.heap H locs := by rw [hH, hlocs]; exact hS
  rw [← hH] at hP
  suffices hg : W p l e rm_L_rests s m aa below meth c H locs 0 0 (MQ below qq aa s 2 12 A) (F0 m 0 ls []) by subst hH; subst hlocs; exact hg
  unfold p_L_rests at h
  obtain ⟨v, hv, h⟩ := ok_bind h
  refine lv_aload_n hx hb dL_rests_0 rfl (lv_at hl 2 rfl) ?_
  refine lv_iconst (v := (0 : Int32)) hx hb dL_rests_1 (by decide) ?_
  refine lv_aload_n hx hb dL_rests_2 rfl (lv_at hl 0 rfl) ?_
  refine lv_iload_n hx hb dL_rests_3 rfl (lv_at hl 1 rfl) ?_
  refine cx_vi (w2 := fun (u : ((Nat → Nat → Int32) × (Nat → Nat → Int64)) × (Int32 × Int32 × Int32 × (Nat → Int32) × (Nat → Int32) × (Nat → Int32) × (Nat → Nat → Int64))) => w_L_rests cy a0 b0 gg gvn gdn u.1 u.2 o) (w2x := fun (u : ((Nat → Nat → Int32) × (Nat → Nat → Int64)) × (Int32 × Int32 × Int32 × (Nat → Int32) × (Nat → Int32) × (Nat → Int32) × (Nat → Nat → Int64))) => w_L_rests cy a0 b0 gg gvn gdn u.1 u.2 o) (As := [.int x1]) (rest := [.int (0 : Int32), .ref b0]) ⟨hx, hb, hml, hown, hts⟩ (c_X12_rests l dC dI cy z hl9 a0 gg gvn gdn gne ggm x1 H.size v hv) (cwV 1 hts gL_rests_X12_rests rfl rfl rfl (by decide +kernel) ⟨Nat.le_of_ble_eq_true rfl, Nat.le_of_ble_eq_true rfl⟩) (va_recv hK hP (ci := 10) (q0 := 0) rfl rfl) cl_blindS (cl_preS hK hP hD hS hA hX [0, 1, 2, 3, 4, 5, 6, 7, 8, 9, 10, 11, 12, 13, 14, 15, 16, 17, 18, 19, 20, 21, 22, 23, 24, 25, 26, 27, 28, 29, 30, 31, 32, 33, 34, 35, 36, 37, 38, 39] (by decide) rfl) hP hD hS hA [0, 1, 2, 3, 4, 5, 6, 7, 8, 9, 10, 11, 12, 13, 14, 15, 16, 17, 18, 19, 20, 21, 22, 23, 24, 25, 26, 27, 28, 29, 30, 31, 32, 33, 34, 35, 36, 37, 38, 39] rfl rfl hl.1 rfl (lv_room (Nat.le_of_ble_eq_true rfl)) dL_rests_4 ⟨Nat.le_of_ble_eq_true rfl, Nat.le_of_ble_eq_true rfl⟩ (cells' := 2) (slots' := 12) ⟨rfl, rfl⟩ (fun _ => updM [0, 1, 2, 3, 4, 5, 6, 7, 8, 9, 10, 11, 12, 13, 14, 15, 16, 17, 18, 19, 20, 21, 22, 23, 24, 25, 26, 27, 28, 29, 30, 31, 32, 33, 34, 35, 36, 37, 38, 39] [40] [(b0, .inl (cy 2, 1, .inr (.inl (o))))] 41 rfl rfl rfl rfl rfl (by decide +kernel) (by decide +kernel) rfl) (fun _ => updM [0, 1, 2, 3, 4, 5, 6, 7, 8, 9, 10, 11, 12, 13, 14, 15, 16, 17, 18, 19, 20, 21, 22, 23, 24, 25, 26, 27, 28, 29, 30, 31, 32, 33, 34, 35, 36, 37, 38, 39] [40] [(b0, .inl (cy 2, 1, .inr (.inl (o))))] 41 rfl rfl rfl rfl rfl (by decide +kernel) (by decide +kernel) rfl) (fun E ce q9 u H locs hw hE hP hD hS hc1 hc2 hc3 => ?_) (fun r u H locs hw hP hD hS => ?_)
  · subst hw
    have hP : va_P (dC, dI) vwCl (w_L_rests cy a0 b0 gg gvn gdn v.2.1 v.2.2 o) H := hP
    have hD : va_D A (w_L_rests cy a0 b0 gg gvn gdn v.2.1 v.2.2 o) := hD
    rcases hE with ⟨rfl, hE⟩ | ⟨rfl, hE⟩
    · rw [hE] at h
      dsimp only [xb] at h
      rw [if_pos rfl] at h
      refine vx_catch (name := "java/util/NoSuchElementException") hown [] (⟨0, 9, 12, 21⟩ : ExceptionTableEntry) [] htb (fun z9 hz9 => by cases hz9) rfl (by decide) lk21 (va_Nw.use rfl hX.2.2.2.2.1) hc1 hc2 hc3 ?_
      refine lv_astore_n (lv' := [(3, .ref q9), (0, .ref (a0 0)), (1, .int x1), (2, .ref b0)]) hx hb dL_rests_12 rfl hl (by decide) rfl (fun ls hl => ?_)
      refine lv_iconst (v := (1 : Int32)) hx hb dL_rests_13 (by decide) ?_
      exact W.iret (v := (1 : Int32)) hx hb hr (fun t ht hW => by rw [hqq]; have hh := Option.some.inj h; exact ⟨⟨(1 : Int32), (v.2, o), rfl, ⟨fst_of hh, snd_of hh⟩, by rw [ht]; exact hP, va_K.moved hW.alike hK⟩, hS.F ht⟩) hS.2.2 dL_rests_14
    · rw [hE] at h
      dsimp only [xb] at h
      rw [if_neg (by decide), if_pos rfl] at h
      exact no_some h
  obtain ⟨hw1, hw2⟩ := hw
  subst hw2
  rw [← hw1] at h
  dsimp only [xb] at h
  have hP : va_P (dC, dI) vwCl (w_L_rests cy a0 b0 gg gvn gdn v.2.1 v.2.2 o) H := hP
  have hD : va_D A (w_L_rests cy a0 b0 gg gvn gdn v.2.1 v.2.2 o) := hD
  refine lv_i2l hx hb dL_rests_7 rfl ?_
  refine va_last hx hb hK hP hD hS 40 2 rfl rfl (ix_in (by decide : ix (0 : Int32) 1)) dL_rests_8 (fun H locs hP hD hS => ?_)
  have hP : va_P (dC, dI) vwCl (w_L_rests cy a0 b0 gg gvn gdn v.2.1 v.2.2 (vp_updL o (0 : Int32).toNatClampNeg r.toInt64)) H := hP
  have hD : va_D A (w_L_rests cy a0 b0 gg gvn gdn v.2.1 v.2.2 (vp_updL o (0 : Int32).toNatClampNeg r.toInt64)) := hD
  refine lv_goto (tgt := 15) hx hb dL_rests_9 (by decide) ?_
  refine lv_iconst (v := (0 : Int32)) hx hb dL_rests_15 (by decide) ?_
  exact W.iret (v := (0 : Int32)) hx hb hr (fun t ht hW => by rw [hqq]; have hh := Option.some.inj h; exact ⟨⟨(0 : Int32), (v.2, vp_updL o (0 : Int32).toNatClampNeg r.toInt64), rfl, ⟨fst_of hh, snd_of hh⟩, by rw [ht]; exact hP, va_K.moved hW.alike hK⟩, hS.F ht⟩) hS.2.2 dL_rests_16

abbrev w_L_alike (cy : Nat → ClassId) (a0 : Nat → Nat) (b0 : Nat)  (o : Nat → Int64) : va_W := [, (b0, .inl (cy 2, 1, .inr (.inl (o))))]
abbrev rm_L_alike : Room := { frames := 7, cells := 1, slots := 6, locals := 114 }
def p_L_alike  (x1 : Int32) (x2 : Int32) (o : Nat → Int64) : Option (Int32 × (Unit) × (Nat → Int64)) := ((p_X12_alike  x1 x2).bind fun v => xb v.1 (fun r => some ((0 : Int32), v.2, vp_updL o (0 : Int32).toNatClampNeg r.toInt64)) (fun k => if k = 1 then none else if k = 2 then some ((1 : Int32), v.2, o) else none))
set_option maxHeartbeats 1000000 in
set_option maxRecDepth 100000 in
theorem c_L_alike (l : Launch) (dC : Nat → ClassId) (dI : Nat → Nat → Nat) (cy : Nat → ClassId) (z : Nat → Nat) (hl9 : l.stackTraces = false) (a0 : Nat → Nat) (b0 : Nat)  (x1 : Int32) (x2 : Int32) (o : Nat → Int64) (sz : Nat) (R0 : Int32 × (Unit) × (Nat → Int64)) (h : p_L_alike  x1 x2 o = some R0) : Met l yL_alike wsL_alike rm_L_alike (va_Pc [.ref (a0 0), .int x1, .int x2, .ref b0] (prL dC dI cy z (w_L_alike cy a0 b0  o) sz)) (va_Qi (fun (r : Int32) (u : (Unit) × (Nat → Int64)) => r = R0.1 ∧ u = R0.2) (fun u t => poC dC dI cy (w_L_alike cy a0 b0  u.2) t) (va_A (w_L_alike cy a0 b0  o) sz)) 1 6 (va_A (w_L_alike cy a0 b0  o) sz) := by
  refine va_MetW (cc := cL_alike) (maxL := 5) (ret := (some .int)) (hh := [(0, 10, 13, 13)]) (by decide) rfl ?_
  intro p e s m aa below meth c s₁ B hml hv
  obtain ⟨haa, ⟨⟨hsz, hP, hK, hD0⟩, hX⟩, hN⟩ := hv
  have hx := B.exec
  have hb := B.bytes
  have hr := B.returns
  have hts := atoms_spec (ws := wsL_alike) B.pre
  have htb : c.exceptionTable.toList = tableOf [(0, 10, 13, 13)] := vx_table B (hts _ List.mem_cons_self)
  have hown : s.vm.findClass RL = some m.cls := findClass_of_methodNamed B.named
  have hlocks := B.notSynchronized
  subst hsz
  have hD := hD0.self (sz := s.heap.size)
  obtain ⟨qq, hqq⟩ : ∃ qq, qq = (va_Qi (fun (r : Int32) (u : (Unit) × (Nat → Int64)) => r = R0.1 ∧ u = R0.2) (fun u t => poC dC dI cy (w_L_alike cy a0 b0  u.2) t) (va_A (w_L_alike cy a0 b0  o) s.heap.size)) := ⟨_, rfl⟩
  rw [← hqq]
  generalize hAe : va_A (w_L_alike cy a0 b0  o) s.heap.size = A at hD hqq hX ⊢
  have hA : ∀ q : Nat, s.heap.size ≤ q → A q := fun q h => by rw [← hAe]; exact Or.inr h
  have hS : va_S A s.heap s.heap [] := va_S.rf
  have hl := lv_entry ([.ref (a0 0), .int x1, .int x2, .ref b0]) (n := 5) (Nat.le_of_ble_eq_true rfl)
  have hE : entryFrame m aa 5 = F0 m 0 ((lg_sl ([.ref (a0 0), .int x1, .int x2, .ref b0]) ++ List.replicate (5 - (lg_sl ([.ref (a0 0), .int x1, .int x2, .ref b0])).length) Slot.unset).toArray) [] := by rw [haa]; exact lg_entry_eq m _ 5
  refine W.eq hE ?_
  generalize (lg_sl ([.ref (a0 0), .int x1, .int x2, .ref b0]) ++ List.replicate (5 - (lg_sl ([.ref (a0 0), .int x1, .int x2, .ref b0])).length) Slot.unset).toArray = ls at hl ⊢
  have hl : lv_has ls 5 [(0, .ref (a0 0)), (1, .int x1), (2, .int x2), (3, .ref b0)] := hl
  change W p l e rm_L_alike s m aa below meth c s.heap [] 0 0 (MQ below qq aa s 1 6 A) (F0 m 0 ls [])
  have lk13 := hts (.classLink RL 13 "java/lang/IllegalArgumentException") (by decide +kernel)
  obtain ⟨H, hH⟩ : ∃ H : Heap, H = s.heap := ⟨_, rfl⟩
  obtain ⟨locs, hlocs⟩ : ∃ locs : List Loc, locs = [] := ⟨_, rfl⟩
  have hS : va_S A s.heap H locs := by rw [hH, hlocs]; exact hS
  rw [← hH] at hP
  suffices hg : W p l e rm_L_alike s m aa below meth c H locs 0 0 (MQ below qq aa s 1 6 A) (F0 m 0 ls []) by subst hH; subst hlocs; exact hg
  unfold p_L_alike at h
  obtain ⟨v, hv, h⟩ := ok_bind h
  refine lv_aload_n hx hb dL_alike_0 rfl (lv_at hl 3 rfl) ?_
  refine lv_iconst (v := (0 : Int32)) hx hb dL_alike_1 (by decide) ?_
  refine lv_aload_n hx hb dL_alike_2 rfl (lv_at hl 0 rfl) ?_
  refine lv_iload_n hx hb dL_alike_3 rfl (lv_at hl 1 rfl) ?_
  refine lv_iload_n hx hb dL_alike_4 rfl (lv_at hl 2 rfl) ?_
  refine cx_vi (w2 := fun (_ : Unit) => w_L_alike cy a0 b0  o) (w2x := fun (_ : Unit) => w_L_alike cy a0 b0  o) (As := [.int x1, .int x2]) (rest := [.int (0 : Int32), .ref b0]) ⟨hx, hb, hml, hown, hts⟩ (c_X12_alike l dC dI cy z hl9 a0  x1 x2 H.size v hv) (cwV 2 hts gL_alike_X12_alike rfl rfl rfl (by decide +kernel) ⟨Nat.le_of_ble_eq_true rfl, Nat.le_of_ble_eq_true rfl⟩) (va_recv hK hP (ci := 10) (q0 := 0) rfl rfl) cl_blindS (cl_preS hK hP hD hS hA hX [] (by decide) rfl) hP hD hS hA [] rfl rfl hl.1 rfl (lv_room (Nat.le_of_ble_eq_true rfl)) dL_alike_5 ⟨Nat.le_of_ble_eq_true rfl, Nat.le_of_ble_eq_true rfl⟩ (cells' := 1) (slots' := 6) ⟨rfl, rfl⟩ (fun _ => updR [] rfl) (fun _ => updR [] rfl) (fun E ce q9 u H locs hw hE hP hD hS hc1 hc2 hc3 => ?_) (fun r u H locs hw hP hD hS => ?_)
  · subst hw
    have hP : va_P (dC, dI) vwCl (w_L_alike cy a0 b0  o) H := hP
    have hD : va_D A (w_L_alike cy a0 b0  o) := hD
    rcases hE with ⟨rfl, hE⟩ | ⟨rfl, hE⟩
    · rw [hE] at h
      dsimp only [xb] at h
      rw [if_pos rfl] at h
      exact no_some h
    · rw [hE] at h
      dsimp only [xb] at h
      rw [if_neg (by decide), if_pos rfl] at h
      refine vx_catch (name := "java/lang/IllegalArgumentException") hown [] (⟨0, 10, 13, 13⟩ : ExceptionTableEntry) [] htb (fun z9 hz9 => by cases hz9) rfl (by decide) lk13 (va_Nw.use rfl hX.2.2.2.2.2.1) hc1 hc2 hc3 ?_
      refine lv_astore (lv' := [(4, .ref q9), (0, .ref (a0 0)), (1, .int x1), (2, .int x2), (3, .ref b0)]) hx hb dL_alike_13 hl (by decide) rfl (fun ls hl => ?_)
      refine lv_iconst (v := (1 : Int32)) hx hb dL_alike_15 (by decide) ?_
      exact W.iret (v := (1 : Int32)) hx hb hr (fun t ht hW => by rw [hqq]; have hh := Option.some.inj h; exact ⟨⟨(1 : Int32), (v.2, o), rfl, ⟨fst_of hh, snd_of hh⟩, by rw [ht]; exact hP, va_K.moved hW.alike hK⟩, hS.F ht⟩) hS.2.2 dL_alike_16
  obtain ⟨hw1, hw2⟩ := hw
  subst hw2
  rw [← hw1] at h
  dsimp only [xb] at h
  have hP : va_P (dC, dI) vwCl (w_L_alike cy a0 b0  o) H := hP
  have hD : va_D A (w_L_alike cy a0 b0  o) := hD
  refine lv_i2l hx hb dL_alike_8 rfl ?_
  refine va_last hx hb hK hP hD hS 0 2 rfl rfl (ix_in (by decide : ix (0 : Int32) 1)) dL_alike_9 (fun H locs hP hD hS => ?_)
  have hP : va_P (dC, dI) vwCl (w_L_alike cy a0 b0  (vp_updL o (0 : Int32).toNatClampNeg r.toInt64)) H := hP
  have hD : va_D A (w_L_alike cy a0 b0  (vp_updL o (0 : Int32).toNatClampNeg r.toInt64)) := hD
  refine lv_goto (tgt := 17) hx hb dL_alike_10 (by decide) ?_
  refine lv_iconst (v := (0 : Int32)) hx hb dL_alike_17 (by decide) ?_
  exact W.iret (v := (0 : Int32)) hx hb hr (fun t ht hW => by rw [hqq]; have hh := Option.some.inj h; exact ⟨⟨(0 : Int32), (v.2, vp_updL o (0 : Int32).toNatClampNeg r.toInt64), rfl, ⟨fst_of hh, snd_of hh⟩, by rw [ht]; exact hP, va_K.moved hW.alike hK⟩, hS.F ht⟩) hS.2.2 dL_alike_18

abbrev w_L_hedge (cy : Nat → ClassId) (a0 : Nat → Nat) (b0 : Nat) (gg : Int32 × Int32 × Int32 × Int32 × Int32 × Int32) (gvn : Int32 × Int32 × (Nat → Int32) × (Nat → Int32) × (Nat → Int32) × (Nat → Int32) × (Nat → Int32)) (gdn : Int32 × Int32 × (Nat → Int32) × (Nat → Int32) × (Nat → Int32) × (Nat → Int32)) (gne : (Nat → Nat → Int32) × (Nat → Nat → Int64)) (o : Nat → Int64) : va_W := [(a0 0, .inr (10, [.ref (a0 1), .int (gg.1), .int (gg.2.1), .int (gg.2.2.1), .int (gg.2.2.2.1), .int (gg.2.2.2.2.1), .ref (a0 2), .ref (a0 17), .ref (a0 32), .int (gg.2.2.2.2.2), .ref (a0 47), .ref (a0 48), .ref (a0 49), .ref (a0 50), .ref (a0 68), .ref (a0 78), .ref (a0 80)])), (a0 2, .inr (7, [.int (gvn.1), .int (gvn.2.1), .ref (a0 3), .ref (a0 8), .ref (a0 12), .ref (a0 13), .ref (a0 14), .ref (a0 15), .ref (a0 16)])), (a0 3, .inr (2, [.int (gdn.1), .int (gdn.2.1), .ref (a0 4), .ref (a0 5), .ref (a0 6), .ref (a0 7)])), (a0 4, .inl (cy 1, 10, .inl (gdn.2.2.1))), (a0 5, .inl (cy 1, 10, .inl (gdn.2.2.2.1))), (a0 6, .inl (cy 1, 10, .inl (gdn.2.2.2.2.1))), (a0 7, .inl (cy 1, 50, .inl (gdn.2.2.2.2.2))), (a0 12, .inl (cy 1, 5, .inl (gvn.2.2.1))), (a0 13, .inl (cy 1, 5, .inl (gvn.2.2.2.1))), (a0 14, .inl (cy 1, 5, .inl (gvn.2.2.2.2.1))), (a0 15, .inl (cy 1, 5, .inl (gvn.2.2.2.2.2.1))), (a0 16, .inl (cy 1, 5, .inl (gvn.2.2.2.2.2.2))), (a0 50, .inr (4, [.ref (a0 51), .ref (a0 62)])), (a0 51, .inl (cy 3, 10, .inr (.inr (.inr (.inr (fun i => some ([a0 52, a0 53, a0 54, a0 55, a0 56, a0 57, a0 58, a0 59, a0 60, a0 61].getD i 0))))))), (a0 52, .inl (cy 1, 41, .inl (gne.1 0))), (a0 53, .inl (cy 1, 41, .inl (gne.1 1))), (a0 54, .inl (cy 1, 41, .inl (gne.1 2))), (a0 55, .inl (cy 1, 41, .inl (gne.1 3))), (a0 56, .inl (cy 1, 41, .inl (gne.1 4))), (a0 57, .inl (cy 1, 41, .inl (gne.1 5))), (a0 58, .inl (cy 1, 41, .inl (gne.1 6))), (a0 59, .inl (cy 1, 41, .inl (gne.1 7))), (a0 60, .inl (cy 1, 41, .inl (gne.1 8))), (a0 61, .inl (cy 1, 41, .inl (gne.1 9))), (a0 62, .inl (cy 4, 5, .inr (.inr (.inr (.inr (fun i => some ([a0 63, a0 64, a0 65, a0 66, a0 67].getD i 0))))))), (a0 63, .inl (cy 2, 41, .inr (.inl (gne.2 0)))), (a0 64, .inl (cy 2, 41, .inr (.inl (gne.2 1)))), (a0 65, .inl (cy 2, 41, .inr (.inl (gne.2 2)))), (a0 66, .inl (cy 2, 41, .inr (.inl (gne.2 3)))), (a0 67, .inl (cy 2, 41, .inr (.inl (gne.2 4)))), (b0, .inl (cy 2, 1, .inr (.inl (o))))]
abbrev rm_L_hedge : Room := { frames := 8, cells := 2, slots := 12, locals := 144 }
def p_L_hedge (gvn : Int32 × Int32 × (Nat → Int32) × (Nat → Int32) × (Nat → Int32) × (Nat → Int32) × (Nat → Int32)) (gdn : Int32 × Int32 × (Nat → Int32) × (Nat → Int32) × (Nat → Int32) × (Nat → Int32)) (gne : (Nat → Nat → Int32) × (Nat → Nat → Int64)) (x1 : Int32) (x2 : Int32) (x3 : Int32) (x4 : Int32) (o : Nat → Int64) : Option (Int32 × (((Nat → Nat → Int32) × (Nat → Nat → Int64))) × (Nat → Int64)) := ((p_X12_hedge gvn gdn gne x1 x2 x3 x4).bind fun v => xb v.1 (fun r => some ((0 : Int32), v.2, vp_updL o (0 : Int32).toNatClampNeg r.toInt64)) (fun k => if k = 1 then some ((1 : Int32), v.2, o) else if k = 2 then some ((2 : Int32), v.2, o) else none))
set_option maxHeartbeats 1000000 in
set_option maxRecDepth 100000 in
theorem c_L_hedge (l : Launch) (dC : Nat → ClassId) (dI : Nat → Nat → Nat) (cy : Nat → ClassId) (z : Nat → Nat) (hl9 : l.stackTraces = false) (a0 : Nat → Nat) (b0 : Nat) (gg : Int32 × Int32 × Int32 × Int32 × Int32 × Int32) (gvn : Int32 × Int32 × (Nat → Int32) × (Nat → Int32) × (Nat → Int32) × (Nat → Int32) × (Nat → Int32)) (gdn : Int32 × Int32 × (Nat → Int32) × (Nat → Int32) × (Nat → Int32) × (Nat → Int32)) (gne : (Nat → Nat → Int32) × (Nat → Nat → Int64)) (x1 : Int32) (x2 : Int32) (x3 : Int32) (x4 : Int32) (o : Nat → Int64) (sz : Nat) (R0 : Int32 × (((Nat → Nat → Int32) × (Nat → Nat → Int64))) × (Nat → Int64)) (h : p_L_hedge gvn gdn gne x1 x2 x3 x4 o = some R0) : Met l yL_hedge wsL_hedge rm_L_hedge (va_Pc [.ref (a0 0), .int x1, .int x2, .int x3, .int x4, .ref b0] (prL dC dI cy z (w_L_hedge cy a0 b0 gg gvn gdn gne o) sz)) (va_Qi (fun (r : Int32) (u : (((Nat → Nat → Int32) × (Nat → Nat → Int64))) × (Nat → Int64)) => r = R0.1 ∧ u = R0.2) (fun u t => poC dC dI cy (w_L_hedge cy a0 b0 gg gvn gdn u.1 u.2) t) (va_A (w_L_hedge cy a0 b0 gg gvn gdn gne o) sz)) 2 12 (va_A (w_L_hedge cy a0 b0 gg gvn gdn gne o) sz) := by
  refine va_MetW (cc := cL_hedge) (maxL := 7) (ret := (some .int)) (hh := [(0, 14, 17, 21), (0, 14, 21, 13)]) (by decide) rfl ?_
  intro p e s m aa below meth c s₁ B hml hv
  obtain ⟨haa, ⟨⟨hsz, hP, hK, hD0⟩, hX⟩, hN⟩ := hv
  have hx := B.exec
  have hb := B.bytes
  have hr := B.returns
  have hts := atoms_spec (ws := wsL_hedge) B.pre
  have htb : c.exceptionTable.toList = tableOf [(0, 14, 17, 21), (0, 14, 21, 13)] := vx_table B (hts _ List.mem_cons_self)
  have hown : s.vm.findClass RL = some m.cls := findClass_of_methodNamed B.named
  have hlocks := B.notSynchronized
  subst hsz
  have hD := hD0.self (sz := s.heap.size)
  obtain ⟨qq, hqq⟩ : ∃ qq, qq = (va_Qi (fun (r : Int32) (u : (((Nat → Nat → Int32) × (Nat → Nat → Int64))) × (Nat → Int64)) => r = R0.1 ∧ u = R0.2) (fun u t => poC dC dI cy (w_L_hedge cy a0 b0 gg gvn gdn u.1 u.2) t) (va_A (w_L_hedge cy a0 b0 gg gvn gdn gne o) s.heap.size)) := ⟨_, rfl⟩
  rw [← hqq]
  generalize hAe : va_A (w_L_hedge cy a0 b0 gg gvn gdn gne o) s.heap.size = A at hD hqq hX ⊢
  have hA : ∀ q : Nat, s.heap.size ≤ q → A q := fun q h => by rw [← hAe]; exact Or.inr h
  have hS : va_S A s.heap s.heap [] := va_S.rf
  have hl := lv_entry ([.ref (a0 0), .int x1, .int x2, .int x3, .int x4, .ref b0]) (n := 7) (Nat.le_of_ble_eq_true rfl)
  have hE : entryFrame m aa 7 = F0 m 0 ((lg_sl ([.ref (a0 0), .int x1, .int x2, .int x3, .int x4, .ref b0]) ++ List.replicate (7 - (lg_sl ([.ref (a0 0), .int x1, .int x2, .int x3, .int x4, .ref b0])).length) Slot.unset).toArray) [] := by rw [haa]; exact lg_entry_eq m _ 7
  refine W.eq hE ?_
  generalize (lg_sl ([.ref (a0 0), .int x1, .int x2, .int x3, .int x4, .ref b0]) ++ List.replicate (7 - (lg_sl ([.ref (a0 0), .int x1, .int x2, .int x3, .int x4, .ref b0])).length) Slot.unset).toArray = ls at hl ⊢
  have hl : lv_has ls 7 [(0, .ref (a0 0)), (1, .int x1), (2, .int x2), (3, .int x3), (4, .int x4), (5, .ref b0)] := hl
  change W p l e rm_L_hedge s m aa below meth c s.heap [] 0 0 (MQ below qq aa s 2 12 A) (F0 m 0 ls [])
  have lk21 := hts (.classLink RL 21 "java/util/NoSuchElementException") (by decide +kernel)
  have lk13 := hts (.classLink RL 13 "java/lang/IllegalArgumentException") (by decide +kernel)
  obtain ⟨H, hH⟩ : ∃ H : Heap, H = s.heap := ⟨_, rfl⟩
  obtain ⟨locs, hlocs⟩ : ∃ locs : List Loc, locs = [] := ⟨_, rfl⟩
  have hS : va_S A s.heap H locs := by rw [hH, hlocs]; exact hS
  rw [← hH] at hP
  suffices hg : W p l e rm_L_hedge s m aa below meth c H locs 0 0 (MQ below qq aa s 2 12 A) (F0 m 0 ls []) by subst hH; subst hlocs; exact hg
  unfold p_L_hedge at h
  obtain ⟨v, hv, h⟩ := ok_bind h
  refine lv_aload hx hb dL_hedge_0 (lv_at hl 5 rfl) ?_
  refine lv_iconst (v := (0 : Int32)) hx hb dL_hedge_2 (by decide) ?_
  refine lv_aload_n hx hb dL_hedge_3 rfl (lv_at hl 0 rfl) ?_
  refine lv_iload_n hx hb dL_hedge_4 rfl (lv_at hl 1 rfl) ?_
  refine lv_iload_n hx hb dL_hedge_5 rfl (lv_at hl 2 rfl) ?_
  refine lv_iload_n hx hb dL_hedge_6 rfl (lv_at hl 3 rfl) ?_
  refine lv_iload hx hb dL_hedge_7 (lv_at hl 4 rfl) ?_
  refine cx_vi (w2 := fun (u : ((Nat → Nat → Int32) × (Nat → Nat → Int64))) => w_L_hedge cy a0 b0 gg gvn gdn u o) (w2x := fun (u : ((Nat → Nat → Int32) × (Nat → Nat → Int64))) => w_L_hedge cy a0 b0 gg gvn gdn u o) (As := [.int x1, .int x2, .int x3, .int x4]) (rest := [.int (0 : Int32), .ref b0]) ⟨hx, hb, hml, hown, hts⟩ (c_X12_hedge l dC dI cy z hl9 a0 gg gvn gdn gne x1 x2 x3 x4 H.size v hv) (cwV 4 hts gL_hedge_X12_hedge rfl rfl rfl (by decide +kernel) ⟨Nat.le_of_ble_eq_true rfl, Nat.le_of_ble_eq_true rfl⟩) (va_recv hK hP (ci := 10) (q0 := 0) rfl rfl) cl_blindS (cl_preS hK hP hD hS hA hX [0, 1, 2, 3, 4, 5, 6, 7, 8, 9, 10, 11, 12, 13, 14, 15, 16, 17, 18, 19, 20, 21, 22, 23, 24, 25, 26, 27, 28, 29] (by decide) rfl) hP hD hS hA [0, 1, 2, 3, 4, 5, 6, 7, 8, 9, 10, 11, 12, 13, 14, 15, 16, 17, 18, 19, 20, 21, 22, 23, 24, 25, 26, 27, 28, 29] rfl rfl hl.1 rfl (lv_room (Nat.le_of_ble_eq_true rfl)) dL_hedge_9 ⟨Nat.le_of_ble_eq_true rfl, Nat.le_of_ble_eq_true rfl⟩ (cells' := 2) (slots' := 12) ⟨rfl, rfl⟩ (fun _ => updM [0, 1, 2, 3, 4, 5, 6, 7, 8, 9, 10, 11, 12, 13, 14, 15, 16, 17, 18, 19, 20, 21, 22, 23, 24, 25, 26, 27, 28, 29] [30] [(b0, .inl (cy 2, 1, .inr (.inl (o))))] 31 rfl rfl rfl rfl rfl (by decide +kernel) (by decide +kernel) rfl) (fun _ => updM [0, 1, 2, 3, 4, 5, 6, 7, 8, 9, 10, 11, 12, 13, 14, 15, 16, 17, 18, 19, 20, 21, 22, 23, 24, 25, 26, 27, 28, 29] [30] [(b0, .inl (cy 2, 1, .inr (.inl (o))))] 31 rfl rfl rfl rfl rfl (by decide +kernel) (by decide +kernel) rfl) (fun E ce q9 u H locs hw hE hP hD hS hc1 hc2 hc3 => ?_) (fun r u H locs hw hP hD hS => ?_)
  · subst hw
    have hP : va_P (dC, dI) vwCl (w_L_hedge cy a0 b0 gg gvn gdn v.2 o) H := hP
    have hD : va_D A (w_L_hedge cy a0 b0 gg gvn gdn v.2 o) := hD
    rcases hE with ⟨rfl, hE⟩ | ⟨rfl, hE⟩
    · rw [hE] at h
      dsimp only [xb] at h
      rw [if_pos rfl] at h
      refine vx_catch (name := "java/util/NoSuchElementException") hown [] (⟨0, 14, 17, 21⟩ : ExceptionTableEntry) [(⟨0, 14, 21, 13⟩ : ExceptionTableEntry)] htb (fun z9 hz9 => by cases hz9) rfl (by decide) lk21 (va_Nw.use rfl hX.2.2.2.2.1) hc1 hc2 hc3 ?_
      refine lv_astore (lv' := [(6, .ref q9), (0, .ref (a0 0)), (1, .int x1), (2, .int x2), (3, .int x3), (4, .int x4), (5, .ref b0)]) hx hb dL_hedge_17 hl (by decide) rfl (fun ls hl => ?_)
      refine lv_iconst (v := (1 : Int32)) hx hb dL_hedge_19 (by decide) ?_
      exact W.iret (v := (1 : Int32)) hx hb hr (fun t ht hW => by rw [hqq]; have hh := Option.some.inj h; exact ⟨⟨(1 : Int32), (v.2, o), rfl, ⟨fst_of hh, snd_of hh⟩, by rw [ht]; exact hP, va_K.moved hW.alike hK⟩, hS.F ht⟩) hS.2.2 dL_hedge_20
    · rw [hE] at h
      dsimp only [xb] at h
      rw [if_neg (by decide), if_pos rfl] at h
      refine vx_catch (name := "java/lang/IllegalArgumentException") hown [(⟨0, 14, 17, 21⟩ : ExceptionTableEntry)] (⟨0, 14, 21, 13⟩ : ExceptionTableEntry) [] htb (fun z9 hz9 => by cases List.mem_singleton.mp hz9; exact Or.inr ⟨by decide, "java/util/NoSuchElementException", lk21, hN⟩) rfl (by decide) lk13 (va_Nw.use rfl hX.2.2.2.2.2.1) hc1 hc2 hc3 ?_
      refine lv_astore (lv' := [(6, .ref q9), (0, .ref (a0 0)), (1, .int x1), (2, .int x2), (3, .int x3), (4, .int x4), (5, .ref b0)]) hx hb dL_hedge_21 hl (by decide) rfl (fun ls hl => ?_)
      refine lv_iconst (v := (2 : Int32)) hx hb dL_hedge_23 (by decide) ?_
      exact W.iret (v := (2 : Int32)) hx hb hr (fun t ht hW => by rw [hqq]; have hh := Option.some.inj h; exact ⟨⟨(2 : Int32), (v.2, o), rfl, ⟨fst_of hh, snd_of hh⟩, by rw [ht]; exact hP, va_K.moved hW.alike hK⟩, hS.F ht⟩) hS.2.2 dL_hedge_24
  obtain ⟨hw1, hw2⟩ := hw
  subst hw2
  rw [← hw1] at h
  dsimp only [xb] at h
  have hP : va_P (dC, dI) vwCl (w_L_hedge cy a0 b0 gg gvn gdn v.2 o) H := hP
  have hD : va_D A (w_L_hedge cy a0 b0 gg gvn gdn v.2 o) := hD
  refine lv_i2l hx hb dL_hedge_12 rfl ?_
  refine va_last hx hb hK hP hD hS 30 2 rfl rfl (ix_in (by decide : ix (0 : Int32) 1)) dL_hedge_13 (fun H locs hP hD hS => ?_)
  have hP : va_P (dC, dI) vwCl (w_L_hedge cy a0 b0 gg gvn gdn v.2 (vp_updL o (0 : Int32).toNatClampNeg r.toInt64)) H := hP
  have hD : va_D A (w_L_hedge cy a0 b0 gg gvn gdn v.2 (vp_updL o (0 : Int32).toNatClampNeg r.toInt64)) := hD
  refine lv_goto (tgt := 25) hx hb dL_hedge_14 (by decide) ?_
  refine lv_iconst (v := (0 : Int32)) hx hb dL_hedge_25 (by decide) ?_
  exact W.iret (v := (0 : Int32)) hx hb hr (fun t ht hW => by rw [hqq]; have hh := Option.some.inj h; exact ⟨⟨(0 : Int32), (v.2, vp_updL o (0 : Int32).toNatClampNeg r.toInt64), rfl, ⟨fst_of hh, snd_of hh⟩, by rw [ht]; exact hP, va_K.moved hW.alike hK⟩, hS.F ht⟩) hS.2.2 dL_hedge_26

abbrev w_L_safer (cy : Nat → ClassId) (a0 : Nat → Nat) (b0 : Nat) (gg : Int32 × Int32 × Int32 × Int32 × Int32 × Int32) (gvn : Int32 × Int32 × (Nat → Int32) × (Nat → Int32) × (Nat → Int32) × (Nat → Int32) × (Nat → Int32)) (gdn : Int32 × Int32 × (Nat → Int32) × (Nat → Int32) × (Nat → Int32) × (Nat → Int32)) (gne : (Nat → Nat → Int32) × (Nat → Nat → Int64)) (o : Nat → Int64) : va_W := [(a0 0, .inr (10, [.ref (a0 1), .int (gg.1), .int (gg.2.1), .int (gg.2.2.1), .int (gg.2.2.2.1), .int (gg.2.2.2.2.1), .ref (a0 2), .ref (a0 17), .ref (a0 32), .int (gg.2.2.2.2.2), .ref (a0 47), .ref (a0 48), .ref (a0 49), .ref (a0 50), .ref (a0 68), .ref (a0 78), .ref (a0 80)])), (a0 2, .inr (7, [.int (gvn.1), .int (gvn.2.1), .ref (a0 3), .ref (a0 8), .ref (a0 12), .ref (a0 13), .ref (a0 14), .ref (a0 15), .ref (a0 16)])), (a0 3, .inr (2, [.int (gdn.1), .int (gdn.2.1), .ref (a0 4), .ref (a0 5), .ref (a0 6), .ref (a0 7)])), (a0 4, .inl (cy 1, 10, .inl (gdn.2.2.1))), (a0 5, .inl (cy 1, 10, .inl (gdn.2.2.2.1))), (a0 6, .inl (cy 1, 10, .inl (gdn.2.2.2.2.1))), (a0 7, .inl (cy 1, 50, .inl (gdn.2.2.2.2.2))), (a0 50, .inr (4, [.ref (a0 51), .ref (a0 62)])), (a0 51, .inl (cy 3, 10, .inr (.inr (.inr (.inr (fun i => some ([a0 52, a0 53, a0 54, a0 55, a0 56, a0 57, a0 58, a0 59, a0 60, a0 61].getD i 0))))))), (a0 52, .inl (cy 1, 41, .inl (gne.1 0))), (a0 53, .inl (cy 1, 41, .inl (gne.1 1))), (a0 54, .inl (cy 1, 41, .inl (gne.1 2))), (a0 55, .inl (cy 1, 41, .inl (gne.1 3))), (a0 56, .inl (cy 1, 41, .inl (gne.1 4))), (a0 57, .inl (cy 1, 41, .inl (gne.1 5))), (a0 58, .inl (cy 1, 41, .inl (gne.1 6))), (a0 59, .inl (cy 1, 41, .inl (gne.1 7))), (a0 60, .inl (cy 1, 41, .inl (gne.1 8))), (a0 61, .inl (cy 1, 41, .inl (gne.1 9))), (a0 62, .inl (cy 4, 5, .inr (.inr (.inr (.inr (fun i => some ([a0 63, a0 64, a0 65, a0 66, a0 67].getD i 0))))))), (a0 63, .inl (cy 2, 41, .inr (.inl (gne.2 0)))), (a0 64, .inl (cy 2, 41, .inr (.inl (gne.2 1)))), (a0 65, .inl (cy 2, 41, .inr (.inl (gne.2 2)))), (a0 66, .inl (cy 2, 41, .inr (.inl (gne.2 3)))), (a0 67, .inl (cy 2, 41, .inr (.inl (gne.2 4)))), (b0, .inl (cy 2, 1, .inr (.inl (o))))]
abbrev rm_L_safer : Room := { frames := 8, cells := 2, slots := 12, locals := 201 }
def p_L_safer (gdn : Int32 × Int32 × (Nat → Int32) × (Nat → Int32) × (Nat → Int32) × (Nat → Int32)) (gne : (Nat → Nat → Int32) × (Nat → Nat → Int64)) (x1 : Int32) (x2 : Int32) (x3 : Int32) (o : Nat → Int64) : Option (Int32 × (((Nat → Nat → Int32) × (Nat → Nat → Int64))) × (Nat → Int64)) := ((p_X12_safer gdn gne x1 x2 x3).bind fun v => xb v.1 (fun r => some ((0 : Int32), v.2, vp_updL o (0 : Int32).toNatClampNeg r.toInt64)) (fun k => if k = 1 then some ((1 : Int32), v.2, o) else if k = 2 then some ((2 : Int32), v.2, o) else none))
set_option maxHeartbeats 1000000 in
set_option maxRecDepth 100000 in
theorem c_L_safer (l : Launch) (dC : Nat → ClassId) (dI : Nat → Nat → Nat) (cy : Nat → ClassId) (z : Nat → Nat) (hl9 : l.stackTraces = false) (a0 : Nat → Nat) (b0 : Nat) (gg : Int32 × Int32 × Int32 × Int32 × Int32 × Int32) (gvn : Int32 × Int32 × (Nat → Int32) × (Nat → Int32) × (Nat → Int32) × (Nat → Int32) × (Nat → Int32)) (gdn : Int32 × Int32 × (Nat → Int32) × (Nat → Int32) × (Nat → Int32) × (Nat → Int32)) (gne : (Nat → Nat → Int32) × (Nat → Nat → Int64)) (x1 : Int32) (x2 : Int32) (x3 : Int32) (o : Nat → Int64) (sz : Nat) (R0 : Int32 × (((Nat → Nat → Int32) × (Nat → Nat → Int64))) × (Nat → Int64)) (h : p_L_safer gdn gne x1 x2 x3 o = some R0) : Met l yL_safer wsL_safer rm_L_safer (va_Pc [.ref (a0 0), .int x1, .int x2, .int x3, .ref b0] (prL dC dI cy z (w_L_safer cy a0 b0 gg gvn gdn gne o) sz)) (va_Qi (fun (r : Int32) (u : (((Nat → Nat → Int32) × (Nat → Nat → Int64))) × (Nat → Int64)) => r = R0.1 ∧ u = R0.2) (fun u t => poC dC dI cy (w_L_safer cy a0 b0 gg gvn gdn u.1 u.2) t) (va_A (w_L_safer cy a0 b0 gg gvn gdn gne o) sz)) 2 12 (va_A (w_L_safer cy a0 b0 gg gvn gdn gne o) sz) := by
  refine va_MetW (cc := cL_safer) (maxL := 6) (ret := (some .int)) (hh := [(0, 12, 15, 21), (0, 12, 19, 13)]) (by decide) rfl ?_
  intro p e s m aa below meth c s₁ B hml hv
  obtain ⟨haa, ⟨⟨hsz, hP, hK, hD0⟩, hX⟩, hN⟩ := hv
  have hx := B.exec
  have hb := B.bytes
  have hr := B.returns
  have hts := atoms_spec (ws := wsL_safer) B.pre
  have htb : c.exceptionTable.toList = tableOf [(0, 12, 15, 21), (0, 12, 19, 13)] := vx_table B (hts _ List.mem_cons_self)
  have hown : s.vm.findClass RL = some m.cls := findClass_of_methodNamed B.named
  have hlocks := B.notSynchronized
  subst hsz
  have hD := hD0.self (sz := s.heap.size)
  obtain ⟨qq, hqq⟩ : ∃ qq, qq = (va_Qi (fun (r : Int32) (u : (((Nat → Nat → Int32) × (Nat → Nat → Int64))) × (Nat → Int64)) => r = R0.1 ∧ u = R0.2) (fun u t => poC dC dI cy (w_L_safer cy a0 b0 gg gvn gdn u.1 u.2) t) (va_A (w_L_safer cy a0 b0 gg gvn gdn gne o) s.heap.size)) := ⟨_, rfl⟩
  rw [← hqq]
  generalize hAe : va_A (w_L_safer cy a0 b0 gg gvn gdn gne o) s.heap.size = A at hD hqq hX ⊢
  have hA : ∀ q : Nat, s.heap.size ≤ q → A q := fun q h => by rw [← hAe]; exact Or.inr h
  have hS : va_S A s.heap s.heap [] := va_S.rf
  have hl := lv_entry ([.ref (a0 0), .int x1, .int x2, .int x3, .ref b0]) (n := 6) (Nat.le_of_ble_eq_true rfl)
  have hE : entryFrame m aa 6 = F0 m 0 ((lg_sl ([.ref (a0 0), .int x1, .int x2, .int x3, .ref b0]) ++ List.replicate (6 - (lg_sl ([.ref (a0 0), .int x1, .int x2, .int x3, .ref b0])).length) Slot.unset).toArray) [] := by rw [haa]; exact lg_entry_eq m _ 6
  refine W.eq hE ?_
  generalize (lg_sl ([.ref (a0 0), .int x1, .int x2, .int x3, .ref b0]) ++ List.replicate (6 - (lg_sl ([.ref (a0 0), .int x1, .int x2, .int x3, .ref b0])).length) Slot.unset).toArray = ls at hl ⊢
  have hl : lv_has ls 6 [(0, .ref (a0 0)), (1, .int x1), (2, .int x2), (3, .int x3), (4, .ref b0)] := hl
  change W p l e rm_L_safer s m aa below meth c s.heap [] 0 0 (MQ below qq aa s 2 12 A) (F0 m 0 ls [])
  have lk21 := hts (.classLink RL 21 "java/util/NoSuchElementException") (by decide +kernel)
  have lk13 := hts (.classLink RL 13 "java/lang/IllegalArgumentException") (by decide +kernel)
  obtain ⟨H, hH⟩ : ∃ H : Heap, H = s.heap := ⟨_, rfl⟩
  obtain ⟨locs, hlocs⟩ : ∃ locs : List Loc, locs = [] := ⟨_, rfl⟩
  have hS : va_S A s.heap H locs := by rw [hH, hlocs]; exact hS
  rw [← hH] at hP
  suffices hg : W p l e rm_L_safer s m aa below meth c H locs 0 0 (MQ below qq aa s 2 12 A) (F0 m 0 ls []) by subst hH; subst hlocs; exact hg
  unfold p_L_safer at h
  obtain ⟨v, hv, h⟩ := ok_bind h
  refine lv_aload hx hb dL_safer_0 (lv_at hl 4 rfl) ?_
  refine lv_iconst (v := (0 : Int32)) hx hb dL_safer_2 (by decide) ?_
  refine lv_aload_n hx hb dL_safer_3 rfl (lv_at hl 0 rfl) ?_
  refine lv_iload_n hx hb dL_safer_4 rfl (lv_at hl 1 rfl) ?_
  refine lv_iload_n hx hb dL_safer_5 rfl (lv_at hl 2 rfl) ?_
  refine lv_iload_n hx hb dL_safer_6 rfl (lv_at hl 3 rfl) ?_
  refine cx_vi (w2 := fun (u : ((Nat → Nat → Int32) × (Nat → Nat → Int64))) => w_L_safer cy a0 b0 gg gvn gdn u o) (w2x := fun (u : ((Nat → Nat → Int32) × (Nat → Nat → Int64))) => w_L_safer cy a0 b0 gg gvn gdn u o) (As := [.int x1, .int x2, .int x3]) (rest := [.int (0 : Int32), .ref b0]) ⟨hx, hb, hml, hown, hts⟩ (c_X12_safer l dC dI cy z hl9 a0 gg gvn gdn gne x1 x2 x3 H.size v hv) (cwV 3 hts gL_safer_X12_safer rfl rfl rfl (by decide +kernel) ⟨Nat.le_of_ble_eq_true rfl, Nat.le_of_ble_eq_true rfl⟩) (va_recv hK hP (ci := 10) (q0 := 0) rfl rfl) cl_blindS (cl_preS hK hP hD hS hA hX [0, 1, 2, 3, 4, 5, 6, 7, 8, 9, 10, 11, 12, 13, 14, 15, 16, 17, 18, 19, 20, 21, 22, 23, 24] (by decide) rfl) hP hD hS hA [0, 1, 2, 3, 4, 5, 6, 7, 8, 9, 10, 11, 12, 13, 14, 15, 16, 17, 18, 19, 20, 21, 22, 23, 24] rfl rfl hl.1 rfl (lv_room (Nat.le_of_ble_eq_true rfl)) dL_safer_7 ⟨Nat.le_of_ble_eq_true rfl, Nat.le_of_ble_eq_true rfl⟩ (cells' := 2) (slots' := 12) ⟨rfl, rfl⟩ (fun _ => updM [0, 1, 2, 3, 4, 5, 6, 7, 8, 9, 10, 11, 12, 13, 14, 15, 16, 17, 18, 19, 20, 21, 22, 23, 24] [25] [(b0, .inl (cy 2, 1, .inr (.inl (o))))] 26 rfl rfl rfl rfl rfl (by decide +kernel) (by decide +kernel) rfl) (fun _ => updM [0, 1, 2, 3, 4, 5, 6, 7, 8, 9, 10, 11, 12, 13, 14, 15, 16, 17, 18, 19, 20, 21, 22, 23, 24] [25] [(b0, .inl (cy 2, 1, .inr (.inl (o))))] 26 rfl rfl rfl rfl rfl (by decide +kernel) (by decide +kernel) rfl) (fun E ce q9 u H locs hw hE hP hD hS hc1 hc2 hc3 => ?_) (fun r u H locs hw hP hD hS => ?_)
  · subst hw
    have hP : va_P (dC, dI) vwCl (w_L_safer cy a0 b0 gg gvn gdn v.2 o) H := hP
    have hD : va_D A (w_L_safer cy a0 b0 gg gvn gdn v.2 o) := hD
    rcases hE with ⟨rfl, hE⟩ | ⟨rfl, hE⟩
    · rw [hE] at h
      dsimp only [xb] at h
      rw [if_pos rfl] at h
      refine vx_catch (name := "java/util/NoSuchElementException") hown [] (⟨0, 12, 15, 21⟩ : ExceptionTableEntry) [(⟨0, 12, 19, 13⟩ : ExceptionTableEntry)] htb (fun z9 hz9 => by cases hz9) rfl (by decide) lk21 (va_Nw.use rfl hX.2.2.2.2.1) hc1 hc2 hc3 ?_
      refine lv_astore (lv' := [(5, .ref q9), (0, .ref (a0 0)), (1, .int x1), (2, .int x2), (3, .int x3), (4, .ref b0)]) hx hb dL_safer_15 hl (by decide) rfl (fun ls hl => ?_)
      refine lv_iconst (v := (1 : Int32)) hx hb dL_safer_17 (by decide) ?_
      exact W.iret (v := (1 : Int32)) hx hb hr (fun t ht hW => by rw [hqq]; have hh := Option.some.inj h; exact ⟨⟨(1 : Int32), (v.2, o), rfl, ⟨fst_of hh, snd_of hh⟩, by rw [ht]; exact hP, va_K.moved hW.alike hK⟩, hS.F ht⟩) hS.2.2 dL_safer_18
    · rw [hE] at h
      dsimp only [xb] at h
      rw [if_neg (by decide), if_pos rfl] at h
      refine vx_catch (name := "java/lang/IllegalArgumentException") hown [(⟨0, 12, 15, 21⟩ : ExceptionTableEntry)] (⟨0, 12, 19, 13⟩ : ExceptionTableEntry) [] htb (fun z9 hz9 => by cases List.mem_singleton.mp hz9; exact Or.inr ⟨by decide, "java/util/NoSuchElementException", lk21, hN⟩) rfl (by decide) lk13 (va_Nw.use rfl hX.2.2.2.2.2.1) hc1 hc2 hc3 ?_
      refine lv_astore (lv' := [(5, .ref q9), (0, .ref (a0 0)), (1, .int x1), (2, .int x2), (3, .int x3), (4, .ref b0)]) hx hb dL_safer_19 hl (by decide) rfl (fun ls hl => ?_)
      refine lv_iconst (v := (2 : Int32)) hx hb dL_safer_21 (by decide) ?_
      exact W.iret (v := (2 : Int32)) hx hb hr (fun t ht hW => by rw [hqq]; have hh := Option.some.inj h; exact ⟨⟨(2 : Int32), (v.2, o), rfl, ⟨fst_of hh, snd_of hh⟩, by rw [ht]; exact hP, va_K.moved hW.alike hK⟩, hS.F ht⟩) hS.2.2 dL_safer_22
  obtain ⟨hw1, hw2⟩ := hw
  subst hw2
  rw [← hw1] at h
  dsimp only [xb] at h
  have hP : va_P (dC, dI) vwCl (w_L_safer cy a0 b0 gg gvn gdn v.2 o) H := hP
  have hD : va_D A (w_L_safer cy a0 b0 gg gvn gdn v.2 o) := hD
  refine lv_i2l hx hb dL_safer_10 rfl ?_
  refine va_last hx hb hK hP hD hS 25 2 rfl rfl (ix_in (by decide : ix (0 : Int32) 1)) dL_safer_11 (fun H locs hP hD hS => ?_)
  have hP : va_P (dC, dI) vwCl (w_L_safer cy a0 b0 gg gvn gdn v.2 (vp_updL o (0 : Int32).toNatClampNeg r.toInt64)) H := hP
  have hD : va_D A (w_L_safer cy a0 b0 gg gvn gdn v.2 (vp_updL o (0 : Int32).toNatClampNeg r.toInt64)) := hD
  refine lv_goto (tgt := 23) hx hb dL_safer_12 (by decide) ?_
  refine lv_iconst (v := (0 : Int32)) hx hb dL_safer_23 (by decide) ?_
  exact W.iret (v := (0 : Int32)) hx hb hr (fun t ht hW => by rw [hqq]; have hh := Option.some.inj h; exact ⟨⟨(0 : Int32), (v.2, vp_updL o (0 : Int32).toNatClampNeg r.toInt64), rfl, ⟨fst_of hh, snd_of hh⟩, by rw [ht]; exact hP, va_K.moved hW.alike hK⟩, hS.F ht⟩) hS.2.2 dL_safer_24

abbrev w_L_chalked (cy : Nat → ClassId) (a0 : Nat → Nat) (b0 : Nat) (gg : Int32 × Int32 × Int32 × Int32 × Int32 × Int32) (gvn : Int32 × Int32 × (Nat → Int32) × (Nat → Int32) × (Nat → Int32) × (Nat → Int32) × (Nat → Int32)) (gdn : Int32 × Int32 × (Nat → Int32) × (Nat → Int32) × (Nat → Int32) × (Nat → Int32)) (gcn : Int32 × (Nat → Int32) × (Nat → Int32) × (Nat → Int32)) (o : Nat → Int64) : va_W := [(a0 0, .inr (10, [.ref (a0 1), .int (gg.1), .int (gg.2.1), .int (gg.2.2.1), .int (gg.2.2.2.1), .int (gg.2.2.2.2.1), .ref (a0 2), .ref (a0 17), .ref (a0 32), .int (gg.2.2.2.2.2), .ref (a0 47), .ref (a0 48), .ref (a0 49), .ref (a0 50), .ref (a0 68), .ref (a0 78), .ref (a0 80)])), (a0 2, .inr (7, [.int (gvn.1), .int (gvn.2.1), .ref (a0 3), .ref (a0 8), .ref (a0 12), .ref (a0 13), .ref (a0 14), .ref (a0 15), .ref (a0 16)])), (a0 3, .inr (2, [.int (gdn.1), .int (gdn.2.1), .ref (a0 4), .ref (a0 5), .ref (a0 6), .ref (a0 7)])), (a0 4, .inl (cy 1, 10, .inl (gdn.2.2.1))), (a0 5, .inl (cy 1, 10, .inl (gdn.2.2.2.1))), (a0 6, .inl (cy 1, 10, .inl (gdn.2.2.2.2.1))), (a0 7, .inl (cy 1, 50, .inl (gdn.2.2.2.2.2))), (a0 8, .inr (6, [.int (gcn.1), .ref (a0 9), .ref (a0 10), .ref (a0 11)])), (a0 9, .inl (cy 1, 12, .inl (gcn.2.1))), (a0 10, .inl (cy 1, 12, .inl (gcn.2.2.1))), (a0 11, .inl (cy 1, 12, .inl (gcn.2.2.2))), (b0, .inl (cy 2, 1, .inr (.inl (o))))]
abbrev rm_L_chalked : Room := { frames := 8, cells := 1, slots := 6, locals := 165 }
def p_L_chalked (gdn : Int32 × Int32 × (Nat → Int32) × (Nat → Int32) × (Nat → Int32) × (Nat → Int32)) (gcn : Int32 × (Nat → Int32) × (Nat → Int32) × (Nat → Int32)) (x1 : Int32) (o : Nat → Int64) : Option (Int32 × (Unit) × (Nat → Int64)) := ((p_X12_chalked gdn gcn x1).bind fun v => xb v.1 (fun r => some ((0 : Int32), v.2, vp_updL o (0 : Int32).toNatClampNeg r.toInt64)) (fun k => if k = 1 then some ((1 : Int32), v.2, o) else if k = 2 then none else none))
set_option maxHeartbeats 1000000 in
set_option maxRecDepth 100000 in
theorem c_L_chalked (l : Launch) (dC : Nat → ClassId) (dI : Nat → Nat → Nat) (cy : Nat → ClassId) (z : Nat → Nat) (hl9 : l.stackTraces = false) (a0 : Nat → Nat) (b0 : Nat) (gg : Int32 × Int32 × Int32 × Int32 × Int32 × Int32) (gvn : Int32 × Int32 × (Nat → Int32) × (Nat → Int32) × (Nat → Int32) × (Nat → Int32) × (Nat → Int32)) (gdn : Int32 × Int32 × (Nat → Int32) × (Nat → Int32) × (Nat → Int32) × (Nat → Int32)) (gcn : Int32 × (Nat → Int32) × (Nat → Int32) × (Nat → Int32)) (x1 : Int32) (o : Nat → Int64) (sz : Nat) (R0 : Int32 × (Unit) × (Nat → Int64)) (h : p_L_chalked gdn gcn x1 o = some R0) : Met l yL_chalked wsL_chalked rm_L_chalked (va_Pc [.ref (a0 0), .int x1, .ref b0] (prL dC dI cy z (w_L_chalked cy a0 b0 gg gvn gdn gcn o) sz)) (va_Qi (fun (r : Int32) (u : (Unit) × (Nat → Int64)) => r = R0.1 ∧ u = R0.2) (fun u t => poC dC dI cy (w_L_chalked cy a0 b0 gg gvn gdn gcn u.2) t) (va_A (w_L_chalked cy a0 b0 gg gvn gdn gcn o) sz)) 1 6 (va_A (w_L_chalked cy a0 b0 gg gvn gdn gcn o) sz) := by
  refine va_MetW (cc := cL_chalked) (maxL := 4) (ret := (some .int)) (hh := [(0, 9, 12, 21)]) (by decide) rfl ?_
  intro p e s m aa below meth c s₁ B hml hv
  obtain ⟨haa, ⟨⟨hsz, hP, hK, hD0⟩, hX⟩, hN⟩ := hv
  have hx := B.exec
  have hb := B.bytes
  have hr := B.returns
  have hts := atoms_spec (ws := wsL_chalked) B.pre
  have htb : c.exceptionTable.toList = tableOf [(0, 9, 12, 21)] := vx_table B (hts _ List.mem_cons_self)
  have hown : s.vm.findClass RL = some m.cls := findClass_of_methodNamed B.named
  have hlocks := B.notSynchronized
  subst hsz
  have hD := hD0.self (sz := s.heap.size)
  obtain ⟨qq, hqq⟩ : ∃ qq, qq = (va_Qi (fun (r : Int32) (u : (Unit) × (Nat → Int64)) => r = R0.1 ∧ u = R0.2) (fun u t => poC dC dI cy (w_L_chalked cy a0 b0 gg gvn gdn gcn u.2) t) (va_A (w_L_chalked cy a0 b0 gg gvn gdn gcn o) s.heap.size)) := ⟨_, rfl⟩
  rw [← hqq]
  generalize hAe : va_A (w_L_chalked cy a0 b0 gg gvn gdn gcn o) s.heap.size = A at hD hqq hX ⊢
  have hA : ∀ q : Nat, s.heap.size ≤ q → A q := fun q h => by rw [← hAe]; exact Or.inr h
  have hS : va_S A s.heap s.heap [] := va_S.rf
  have hl := lv_entry ([.ref (a0 0), .int x1, .ref b0]) (n := 4) (Nat.le_of_ble_eq_true rfl)
  have hE : entryFrame m aa 4 = F0 m 0 ((lg_sl ([.ref (a0 0), .int x1, .ref b0]) ++ List.replicate (4 - (lg_sl ([.ref (a0 0), .int x1, .ref b0])).length) Slot.unset).toArray) [] := by rw [haa]; exact lg_entry_eq m _ 4
  refine W.eq hE ?_
  generalize (lg_sl ([.ref (a0 0), .int x1, .ref b0]) ++ List.replicate (4 - (lg_sl ([.ref (a0 0), .int x1, .ref b0])).length) Slot.unset).toArray = ls at hl ⊢
  have hl : lv_has ls 4 [(0, .ref (a0 0)), (1, .int x1), (2, .ref b0)] := hl
  change W p l e rm_L_chalked s m aa below meth c s.heap [] 0 0 (MQ below qq aa s 1 6 A) (F0 m 0 ls [])
  have lk21 := hts (.classLink RL 21 "java/util/NoSuchElementException") (by decide +kernel)
  obtain ⟨H, hH⟩ : ∃ H : Heap, H = s.heap := ⟨_, rfl⟩
  obtain ⟨locs, hlocs⟩ : ∃ locs : List Loc, locs = [] := ⟨_, rfl⟩
  have hS : va_S A s.heap H locs := by rw [hH, hlocs]; exact hS
  rw [← hH] at hP
  suffices hg : W p l e rm_L_chalked s m aa below meth c H locs 0 0 (MQ below qq aa s 1 6 A) (F0 m 0 ls []) by subst hH; subst hlocs; exact hg
  unfold p_L_chalked at h
  obtain ⟨v, hv, h⟩ := ok_bind h
  refine lv_aload_n hx hb dL_chalked_0 rfl (lv_at hl 2 rfl) ?_
  refine lv_iconst (v := (0 : Int32)) hx hb dL_chalked_1 (by decide) ?_
  refine lv_aload_n hx hb dL_chalked_2 rfl (lv_at hl 0 rfl) ?_
  refine lv_iload_n hx hb dL_chalked_3 rfl (lv_at hl 1 rfl) ?_
  refine cx_vi (w2 := fun (_ : Unit) => w_L_chalked cy a0 b0 gg gvn gdn gcn o) (w2x := fun (_ : Unit) => w_L_chalked cy a0 b0 gg gvn gdn gcn o) (As := [.int x1]) (rest := [.int (0 : Int32), .ref b0]) ⟨hx, hb, hml, hown, hts⟩ (c_X12_chalked l dC dI cy z hl9 a0 gg gvn gdn gcn x1 H.size v hv) (cwV 1 hts gL_chalked_X12_chalked rfl rfl rfl (by decide +kernel) ⟨Nat.le_of_ble_eq_true rfl, Nat.le_of_ble_eq_true rfl⟩) (va_recv hK hP (ci := 10) (q0 := 0) rfl rfl) cl_blindS (cl_preS hK hP hD hS hA hX [0, 1, 2, 3, 4, 5, 6, 7, 8, 9, 10] (by decide) rfl) hP hD hS hA [0, 1, 2, 3, 4, 5, 6, 7, 8, 9, 10] rfl rfl hl.1 rfl (lv_room (Nat.le_of_ble_eq_true rfl)) dL_chalked_4 ⟨Nat.le_of_ble_eq_true rfl, Nat.le_of_ble_eq_true rfl⟩ (cells' := 1) (slots' := 6) ⟨rfl, rfl⟩ (fun _ => updR [0, 1, 2, 3, 4, 5, 6, 7, 8, 9, 10] rfl) (fun _ => updR [0, 1, 2, 3, 4, 5, 6, 7, 8, 9, 10] rfl) (fun E ce q9 u H locs hw hE hP hD hS hc1 hc2 hc3 => ?_) (fun r u H locs hw hP hD hS => ?_)
  · subst hw
    have hP : va_P (dC, dI) vwCl (w_L_chalked cy a0 b0 gg gvn gdn gcn o) H := hP
    have hD : va_D A (w_L_chalked cy a0 b0 gg gvn gdn gcn o) := hD
    rcases hE with ⟨rfl, hE⟩ | ⟨rfl, hE⟩
    · rw [hE] at h
      dsimp only [xb] at h
      rw [if_pos rfl] at h
      refine vx_catch (name := "java/util/NoSuchElementException") hown [] (⟨0, 9, 12, 21⟩ : ExceptionTableEntry) [] htb (fun z9 hz9 => by cases hz9) rfl (by decide) lk21 (va_Nw.use rfl hX.2.2.2.2.1) hc1 hc2 hc3 ?_
      refine lv_astore_n (lv' := [(3, .ref q9), (0, .ref (a0 0)), (1, .int x1), (2, .ref b0)]) hx hb dL_chalked_12 rfl hl (by decide) rfl (fun ls hl => ?_)
      refine lv_iconst (v := (1 : Int32)) hx hb dL_chalked_13 (by decide) ?_
      exact W.iret (v := (1 : Int32)) hx hb hr (fun t ht hW => by rw [hqq]; have hh := Option.some.inj h; exact ⟨⟨(1 : Int32), (v.2, o), rfl, ⟨fst_of hh, snd_of hh⟩, by rw [ht]; exact hP, va_K.moved hW.alike hK⟩, hS.F ht⟩) hS.2.2 dL_chalked_14
    · rw [hE] at h
      dsimp only [xb] at h
      rw [if_neg (by decide), if_pos rfl] at h
      exact no_some h
  obtain ⟨hw1, hw2⟩ := hw
  subst hw2
  rw [← hw1] at h
  dsimp only [xb] at h
  have hP : va_P (dC, dI) vwCl (w_L_chalked cy a0 b0 gg gvn gdn gcn o) H := hP
  have hD : va_D A (w_L_chalked cy a0 b0 gg gvn gdn gcn o) := hD
  refine lv_i2l hx hb dL_chalked_7 rfl ?_
  refine va_last hx hb hK hP hD hS 11 2 rfl rfl (ix_in (by decide : ix (0 : Int32) 1)) dL_chalked_8 (fun H locs hP hD hS => ?_)
  have hP : va_P (dC, dI) vwCl (w_L_chalked cy a0 b0 gg gvn gdn gcn (vp_updL o (0 : Int32).toNatClampNeg r.toInt64)) H := hP
  have hD : va_D A (w_L_chalked cy a0 b0 gg gvn gdn gcn (vp_updL o (0 : Int32).toNatClampNeg r.toInt64)) := hD
  refine lv_goto (tgt := 15) hx hb dL_chalked_9 (by decide) ?_
  refine lv_iconst (v := (0 : Int32)) hx hb dL_chalked_15 (by decide) ?_
  exact W.iret (v := (0 : Int32)) hx hb hr (fun t ht hW => by rw [hqq]; have hh := Option.some.inj h; exact ⟨⟨(0 : Int32), (v.2, vp_updL o (0 : Int32).toNatClampNeg r.toInt64), rfl, ⟨fst_of hh, snd_of hh⟩, by rw [ht]; exact hP, va_K.moved hW.alike hK⟩, hS.F ht⟩) hS.2.2 dL_chalked_16

abbrev w_L_voids (cy : Nat → ClassId) (a0 : Nat → Nat) (b0 : Nat) (gg : Int32 × Int32 × Int32 × Int32 × Int32 × Int32) (gvn : Int32 × Int32 × (Nat → Int32) × (Nat → Int32) × (Nat → Int32) × (Nat → Int32) × (Nat → Int32)) (gdn : Int32 × Int32 × (Nat → Int32) × (Nat → Int32) × (Nat → Int32) × (Nat → Int32)) (o : Nat → Int64) : va_W := [(a0 0, .inr (10, [.ref (a0 1), .int (gg.1), .int (gg.2.1), .int (gg.2.2.1), .int (gg.2.2.2.1), .int (gg.2.2.2.2.1), .ref (a0 2), .ref (a0 17), .ref (a0 32), .int (gg.2.2.2.2.2), .ref (a0 47), .ref (a0 48), .ref (a0 49), .ref (a0 50), .ref (a0 68), .ref (a0 78), .ref (a0 80)])), (a0 2, .inr (7, [.int (gvn.1), .int (gvn.2.1), .ref (a0 3), .ref (a0 8), .ref (a0 12), .ref (a0 13), .ref (a0 14), .ref (a0 15), .ref (a0 16)])), (a0 3, .inr (2, [.int (gdn.1), .int (gdn.2.1), .ref (a0 4), .ref (a0 5), .ref (a0 6), .ref (a0 7)])), (a0 4, .inl (cy 1, 10, .inl (gdn.2.2.1))), (a0 5, .inl (cy 1, 10, .inl (gdn.2.2.2.1))), (a0 6, .inl (cy 1, 10, .inl (gdn.2.2.2.2.1))), (a0 7, .inl (cy 1, 50, .inl (gdn.2.2.2.2.2))), (a0 12, .inl (cy 1, 5, .inl (gvn.2.2.1))), (a0 13, .inl (cy 1, 5, .inl (gvn.2.2.2.1))), (a0 14, .inl (cy 1, 5, .inl (gvn.2.2.2.2.1))), (a0 15, .inl (cy 1, 5, .inl (gvn.2.2.2.2.2.1))), (a0 16, .inl (cy 1, 5, .inl (gvn.2.2.2.2.2.2))), (b0, .inl (cy 2, 1, .inr (.inl (o))))]
abbrev rm_L_voids : Room := { frames := 8, cells := 2, slots := 12, locals := 138 }
def p_L_voids (gvn : Int32 × Int32 × (Nat → Int32) × (Nat → Int32) × (Nat → Int32) × (Nat → Int32) × (Nat → Int32)) (gdn : Int32 × Int32 × (Nat → Int32) × (Nat → Int32) × (Nat → Int32) × (Nat → Int32)) (x1 : Int32) (x2 : Int32) (o : Nat → Int64) : Option (Int32 × (Unit) × (Nat → Int64)) := ((p_X12_voids gvn gdn x1 x2).bind fun v => xb v.1 (fun r => some ((0 : Int32), v.2, vp_updL o (0 : Int32).toNatClampNeg r.toInt64)) (fun k => if k = 1 then some ((1 : Int32), v.2, o) else if k = 2 then none else none))
set_option maxHeartbeats 1000000 in
set_option maxRecDepth 100000 in
theorem c_L_voids (l : Launch) (dC : Nat → ClassId) (dI : Nat → Nat → Nat) (cy : Nat → ClassId) (z : Nat → Nat) (hl9 : l.stackTraces = false) (a0 : Nat → Nat) (b0 : Nat) (gg : Int32 × Int32 × Int32 × Int32 × Int32 × Int32) (gvn : Int32 × Int32 × (Nat → Int32) × (Nat → Int32) × (Nat → Int32) × (Nat → Int32) × (Nat → Int32)) (gdn : Int32 × Int32 × (Nat → Int32) × (Nat → Int32) × (Nat → Int32) × (Nat → Int32)) (x1 : Int32) (x2 : Int32) (o : Nat → Int64) (sz : Nat) (R0 : Int32 × (Unit) × (Nat → Int64)) (h : p_L_voids gvn gdn x1 x2 o = some R0) : Met l yL_voids wsL_voids rm_L_voids (va_Pc [.ref (a0 0), .int x1, .int x2, .ref b0] (prL dC dI cy z (w_L_voids cy a0 b0 gg gvn gdn o) sz)) (va_Qi (fun (r : Int32) (u : (Unit) × (Nat → Int64)) => r = R0.1 ∧ u = R0.2) (fun u t => poC dC dI cy (w_L_voids cy a0 b0 gg gvn gdn u.2) t) (va_A (w_L_voids cy a0 b0 gg gvn gdn o) sz)) 2 12 (va_A (w_L_voids cy a0 b0 gg gvn gdn o) sz) := by
  refine va_MetW (cc := cL_voids) (maxL := 5) (ret := (some .int)) (hh := [(0, 10, 13, 21)]) (by decide) rfl ?_
  intro p e s m aa below meth c s₁ B hml hv
  obtain ⟨haa, ⟨⟨hsz, hP, hK, hD0⟩, hX⟩, hN⟩ := hv
  have hx := B.exec
  have hb := B.bytes
  have hr := B.returns
  have hts := atoms_spec (ws := wsL_voids) B.pre
  have htb : c.exceptionTable.toList = tableOf [(0, 10, 13, 21)] := vx_table B (hts _ List.mem_cons_self)
  have hown : s.vm.findClass RL = some m.cls := findClass_of_methodNamed B.named
  have hlocks := B.notSynchronized
  subst hsz
  have hD := hD0.self (sz := s.heap.size)
  obtain ⟨qq, hqq⟩ : ∃ qq, qq = (va_Qi (fun (r : Int32) (u : (Unit) × (Nat → Int64)) => r = R0.1 ∧ u = R0.2) (fun u t => poC dC dI cy (w_L_voids cy a0 b0 gg gvn gdn u.2) t) (va_A (w_L_voids cy a0 b0 gg gvn gdn o) s.heap.size)) := ⟨_, rfl⟩
  rw [← hqq]
  generalize hAe : va_A (w_L_voids cy a0 b0 gg gvn gdn o) s.heap.size = A at hD hqq hX ⊢
  have hA : ∀ q : Nat, s.heap.size ≤ q → A q := fun q h => by rw [← hAe]; exact Or.inr h
  have hS : va_S A s.heap s.heap [] := va_S.rf
  have hl := lv_entry ([.ref (a0 0), .int x1, .int x2, .ref b0]) (n := 5) (Nat.le_of_ble_eq_true rfl)
  have hE : entryFrame m aa 5 = F0 m 0 ((lg_sl ([.ref (a0 0), .int x1, .int x2, .ref b0]) ++ List.replicate (5 - (lg_sl ([.ref (a0 0), .int x1, .int x2, .ref b0])).length) Slot.unset).toArray) [] := by rw [haa]; exact lg_entry_eq m _ 5
  refine W.eq hE ?_
  generalize (lg_sl ([.ref (a0 0), .int x1, .int x2, .ref b0]) ++ List.replicate (5 - (lg_sl ([.ref (a0 0), .int x1, .int x2, .ref b0])).length) Slot.unset).toArray = ls at hl ⊢
  have hl : lv_has ls 5 [(0, .ref (a0 0)), (1, .int x1), (2, .int x2), (3, .ref b0)] := hl
  change W p l e rm_L_voids s m aa below meth c s.heap [] 0 0 (MQ below qq aa s 2 12 A) (F0 m 0 ls [])
  have lk21 := hts (.classLink RL 21 "java/util/NoSuchElementException") (by decide +kernel)
  obtain ⟨H, hH⟩ : ∃ H : Heap, H = s.heap := ⟨_, rfl⟩
  obtain ⟨locs, hlocs⟩ : ∃ locs : List Loc, locs = [] := ⟨_, rfl⟩
  have hS : va_S A s.heap H locs := by rw [hH, hlocs]; exact hS
  rw [← hH] at hP
  suffices hg : W p l e rm_L_voids s m aa below meth c H locs 0 0 (MQ below qq aa s 2 12 A) (F0 m 0 ls []) by subst hH; subst hlocs; exact hg
  unfold p_L_voids at h
  obtain ⟨v, hv, h⟩ := ok_bind h
  refine lv_aload_n hx hb dL_voids_0 rfl (lv_at hl 3 rfl) ?_
  refine lv_iconst (v := (0 : Int32)) hx hb dL_voids_1 (by decide) ?_
  refine lv_aload_n hx hb dL_voids_2 rfl (lv_at hl 0 rfl) ?_
  refine lv_iload_n hx hb dL_voids_3 rfl (lv_at hl 1 rfl) ?_
  refine lv_iload_n hx hb dL_voids_4 rfl (lv_at hl 2 rfl) ?_
  refine cx_vi (w2 := fun (_ : Unit) => w_L_voids cy a0 b0 gg gvn gdn o) (w2x := fun (_ : Unit) => w_L_voids cy a0 b0 gg gvn gdn o) (As := [.int x1, .int x2]) (rest := [.int (0 : Int32), .ref b0]) ⟨hx, hb, hml, hown, hts⟩ (c_X12_voids l dC dI cy z hl9 a0 gg gvn gdn x1 x2 H.size v hv) (cwV 2 hts gL_voids_X12_voids rfl rfl rfl (by decide +kernel) ⟨Nat.le_of_ble_eq_true rfl, Nat.le_of_ble_eq_true rfl⟩) (va_recv hK hP (ci := 10) (q0 := 0) rfl rfl) cl_blindS (cl_preS hK hP hD hS hA hX [0, 1, 2, 3, 4, 5, 6, 7, 8, 9, 10, 11] (by decide) rfl) hP hD hS hA [0, 1, 2, 3, 4, 5, 6, 7, 8, 9, 10, 11] rfl rfl hl.1 rfl (lv_room (Nat.le_of_ble_eq_true rfl)) dL_voids_5 ⟨Nat.le_of_ble_eq_true rfl, Nat.le_of_ble_eq_true rfl⟩ (cells' := 2) (slots' := 12) ⟨rfl, rfl⟩ (fun _ => updR [0, 1, 2, 3, 4, 5, 6, 7, 8, 9, 10, 11] rfl) (fun _ => updR [0, 1, 2, 3, 4, 5, 6, 7, 8, 9, 10, 11] rfl) (fun E ce q9 u H locs hw hE hP hD hS hc1 hc2 hc3 => ?_) (fun r u H locs hw hP hD hS => ?_)
  · subst hw
    have hP : va_P (dC, dI) vwCl (w_L_voids cy a0 b0 gg gvn gdn o) H := hP
    have hD : va_D A (w_L_voids cy a0 b0 gg gvn gdn o) := hD
    rcases hE with ⟨rfl, hE⟩ | ⟨rfl, hE⟩
    · rw [hE] at h
      dsimp only [xb] at h
      rw [if_pos rfl] at h
      refine vx_catch (name := "java/util/NoSuchElementException") hown [] (⟨0, 10, 13, 21⟩ : ExceptionTableEntry) [] htb (fun z9 hz9 => by cases hz9) rfl (by decide) lk21 (va_Nw.use rfl hX.2.2.2.2.1) hc1 hc2 hc3 ?_
      refine lv_astore (lv' := [(4, .ref q9), (0, .ref (a0 0)), (1, .int x1), (2, .int x2), (3, .ref b0)]) hx hb dL_voids_13 hl (by decide) rfl (fun ls hl => ?_)
      refine lv_iconst (v := (1 : Int32)) hx hb dL_voids_15 (by decide) ?_
      exact W.iret (v := (1 : Int32)) hx hb hr (fun t ht hW => by rw [hqq]; have hh := Option.some.inj h; exact ⟨⟨(1 : Int32), (v.2, o), rfl, ⟨fst_of hh, snd_of hh⟩, by rw [ht]; exact hP, va_K.moved hW.alike hK⟩, hS.F ht⟩) hS.2.2 dL_voids_16
    · rw [hE] at h
      dsimp only [xb] at h
      rw [if_neg (by decide), if_pos rfl] at h
      exact no_some h
  obtain ⟨hw1, hw2⟩ := hw
  subst hw2
  rw [← hw1] at h
  dsimp only [xb] at h
  have hP : va_P (dC, dI) vwCl (w_L_voids cy a0 b0 gg gvn gdn o) H := hP
  have hD : va_D A (w_L_voids cy a0 b0 gg gvn gdn o) := hD
  refine lv_i2l hx hb dL_voids_8 rfl ?_
  refine va_last hx hb hK hP hD hS 12 2 rfl rfl (ix_in (by decide : ix (0 : Int32) 1)) dL_voids_9 (fun H locs hP hD hS => ?_)
  have hP : va_P (dC, dI) vwCl (w_L_voids cy a0 b0 gg gvn gdn (vp_updL o (0 : Int32).toNatClampNeg r.toInt64)) H := hP
  have hD : va_D A (w_L_voids cy a0 b0 gg gvn gdn (vp_updL o (0 : Int32).toNatClampNeg r.toInt64)) := hD
  refine lv_goto (tgt := 17) hx hb dL_voids_10 (by decide) ?_
  refine lv_iconst (v := (0 : Int32)) hx hb dL_voids_17 (by decide) ?_
  exact W.iret (v := (0 : Int32)) hx hb hr (fun t ht hW => by rw [hqq]; have hh := Option.some.inj h; exact ⟨⟨(0 : Int32), (v.2, vp_updL o (0 : Int32).toNatClampNeg r.toInt64), rfl, ⟨fst_of hh, snd_of hh⟩, by rw [ht]; exact hP, va_K.moved hW.alike hK⟩, hS.F ht⟩) hS.2.2 dL_voids_18

abbrev w_L_mean (cy : Nat → ClassId) (a0 : Nat → Nat) (b0 : Nat) (gg : Int32 × Int32 × Int32 × Int32 × Int32 × Int32) (gvn : Int32 × Int32 × (Nat → Int32) × (Nat → Int32) × (Nat → Int32) × (Nat → Int32) × (Nat → Int32)) (gdn : Int32 × Int32 × (Nat → Int32) × (Nat → Int32) × (Nat → Int32) × (Nat → Int32)) (gwa : (Nat → Int64) × Int64) (o : Nat → Int64) : va_W := [(a0 0, .inr (10, [.ref (a0 1), .int (gg.1), .int (gg.2.1), .int (gg.2.2.1), .int (gg.2.2.2.1), .int (gg.2.2.2.2.1), .ref (a0 2), .ref (a0 17), .ref (a0 32), .int (gg.2.2.2.2.2), .ref (a0 47), .ref (a0 48), .ref (a0 49), .ref (a0 50), .ref (a0 68), .ref (a0 78), .ref (a0 80)])), (a0 2, .inr (7, [.int (gvn.1), .int (gvn.2.1), .ref (a0 3), .ref (a0 8), .ref (a0 12), .ref (a0 13), .ref (a0 14), .ref (a0 15), .ref (a0 16)])), (a0 3, .inr (2, [.int (gdn.1), .int (gdn.2.1), .ref (a0 4), .ref (a0 5), .ref (a0 6), .ref (a0 7)])), (a0 4, .inl (cy 1, 10, .inl (gdn.2.2.1))), (a0 5, .inl (cy 1, 10, .inl (gdn.2.2.2.1))), (a0 6, .inl (cy 1, 10, .inl (gdn.2.2.2.2.1))), (a0 7, .inl (cy 1, 50, .inl (gdn.2.2.2.2.2))), (a0 12, .inl (cy 1, 5, .inl (gvn.2.2.1))), (a0 13, .inl (cy 1, 5, .inl (gvn.2.2.2.1))), (a0 14, .inl (cy 1, 5, .inl (gvn.2.2.2.2.1))), (a0 15, .inl (cy 1, 5, .inl (gvn.2.2.2.2.2.1))), (a0 16, .inl (cy 1, 5, .inl (gvn.2.2.2.2.2.2))), (a0 80, .inr (9, [.ref (a0 81), .long (gwa.2)])), (a0 81, .inl (cy 2, 49, .inr (.inl (gwa.1)))), (b0, .inl (cy 2, 1, .inr (.inl (o))))]
abbrev rm_L_mean : Room := { frames := 8, cells := 3, slots := 18, locals := 143 }
def p_L_mean (gvn : Int32 × Int32 × (Nat → Int32) × (Nat → Int32) × (Nat → Int32) × (Nat → Int32) × (Nat → Int32)) (gdn : Int32 × Int32 × (Nat → Int32) × (Nat → Int32) × (Nat → Int32) × (Nat → Int32)) (gwa : (Nat → Int64) × Int64) (x1 : Int32) (x2 : Int32) (x3 : Int32) (x4 : Int32) (o : Nat → Int64) : Option (Int32 × (((Nat → Int64) × Int64)) × (Nat → Int64)) := ((p_X12_mean gvn gdn gwa x1 x2 x3 x4).bind fun v => xb v.1 (fun r => some ((0 : Int32), v.2, vp_updL o (0 : Int32).toNatClampNeg r.toInt64)) (fun k => if k = 1 then some ((1 : Int32), v.2, o) else if k = 2 then some ((2 : Int32), v.2, o) else none))
set_option maxHeartbeats 1000000 in
set_option maxRecDepth 100000 in
theorem c_L_mean (l : Launch) (dC : Nat → ClassId) (dI : Nat → Nat → Nat) (cy : Nat → ClassId) (z : Nat → Nat) (hl9 : l.stackTraces = false) (a0 : Nat → Nat) (b0 : Nat) (gg : Int32 × Int32 × Int32 × Int32 × Int32 × Int32) (gvn : Int32 × Int32 × (Nat → Int32) × (Nat → Int32) × (Nat → Int32) × (Nat → Int32) × (Nat → Int32)) (gdn : Int32 × Int32 × (Nat → Int32) × (Nat → Int32) × (Nat → Int32) × (Nat → Int32)) (gwa : (Nat → Int64) × Int64) (x1 : Int32) (x2 : Int32) (x3 : Int32) (x4 : Int32) (o : Nat → Int64) (sz : Nat) (R0 : Int32 × (((Nat → Int64) × Int64)) × (Nat → Int64)) (h : p_L_mean gvn gdn gwa x1 x2 x3 x4 o = some R0) : Met l yL_mean wsL_mean rm_L_mean (va_Pc [.ref (a0 0), .int x1, .int x2, .int x3, .int x4, .ref b0] (prL dC dI cy z (w_L_mean cy a0 b0 gg gvn gdn gwa o) sz)) (va_Qi (fun (r : Int32) (u : (((Nat → Int64) × Int64)) × (Nat → Int64)) => r = R0.1 ∧ u = R0.2) (fun u t => poC dC dI cy (w_L_mean cy a0 b0 gg gvn gdn u.1 u.2) t) (va_A (w_L_mean cy a0 b0 gg gvn gdn gwa o) sz)) 3 18 (va_A (w_L_mean cy a0 b0 gg gvn gdn gwa o) sz) := by
  refine va_MetW (cc := cL_mean) (maxL := 7) (ret := (some .int)) (hh := [(0, 14, 17, 21), (0, 14, 21, 13)]) (by decide) rfl ?_
  intro p e s m aa below meth c s₁ B hml hv
  obtain ⟨haa, ⟨⟨hsz, hP, hK, hD0⟩, hX⟩, hN⟩ := hv
  have hx := B.exec
  have hb := B.bytes
  have hr := B.returns
  have hts := atoms_spec (ws := wsL_mean) B.pre
  have htb : c.exceptionTable.toList = tableOf [(0, 14, 17, 21), (0, 14, 21, 13)] := vx_table B (hts _ List.mem_cons_self)
  have hown : s.vm.findClass RL = some m.cls := findClass_of_methodNamed B.named
  have hlocks := B.notSynchronized
  subst hsz
  have hD := hD0.self (sz := s.heap.size)
  obtain ⟨qq, hqq⟩ : ∃ qq, qq = (va_Qi (fun (r : Int32) (u : (((Nat → Int64) × Int64)) × (Nat → Int64)) => r = R0.1 ∧ u = R0.2) (fun u t => poC dC dI cy (w_L_mean cy a0 b0 gg gvn gdn u.1 u.2) t) (va_A (w_L_mean cy a0 b0 gg gvn gdn gwa o) s.heap.size)) := ⟨_, rfl⟩
  rw [← hqq]
  generalize hAe : va_A (w_L_mean cy a0 b0 gg gvn gdn gwa o) s.heap.size = A at hD hqq hX ⊢
  have hA : ∀ q : Nat, s.heap.size ≤ q → A q := fun q h => by rw [← hAe]; exact Or.inr h
  have hS : va_S A s.heap s.heap [] := va_S.rf
  have hl := lv_entry ([.ref (a0 0), .int x1, .int x2, .int x3, .int x4, .ref b0]) (n := 7) (Nat.le_of_ble_eq_true rfl)
  have hE : entryFrame m aa 7 = F0 m 0 ((lg_sl ([.ref (a0 0), .int x1, .int x2, .int x3, .int x4, .ref b0]) ++ List.replicate (7 - (lg_sl ([.ref (a0 0), .int x1, .int x2, .int x3, .int x4, .ref b0])).length) Slot.unset).toArray) [] := by rw [haa]; exact lg_entry_eq m _ 7
  refine W.eq hE ?_
  generalize (lg_sl ([.ref (a0 0), .int x1, .int x2, .int x3, .int x4, .ref b0]) ++ List.replicate (7 - (lg_sl ([.ref (a0 0), .int x1, .int x2, .int x3, .int x4, .ref b0])).length) Slot.unset).toArray = ls at hl ⊢
  have hl : lv_has ls 7 [(0, .ref (a0 0)), (1, .int x1), (2, .int x2), (3, .int x3), (4, .int x4), (5, .ref b0)] := hl
  change W p l e rm_L_mean s m aa below meth c s.heap [] 0 0 (MQ below qq aa s 3 18 A) (F0 m 0 ls [])
  have lk21 := hts (.classLink RL 21 "java/util/NoSuchElementException") (by decide +kernel)
  have lk13 := hts (.classLink RL 13 "java/lang/IllegalArgumentException") (by decide +kernel)
  obtain ⟨H, hH⟩ : ∃ H : Heap, H = s.heap := ⟨_, rfl⟩
  obtain ⟨locs, hlocs⟩ : ∃ locs : List Loc, locs = [] := ⟨_, rfl⟩
  have hS : va_S A s.heap H locs := by rw [hH, hlocs]; exact hS
  rw [← hH] at hP
  suffices hg : W p l e rm_L_mean s m aa below meth c H locs 0 0 (MQ below qq aa s 3 18 A) (F0 m 0 ls []) by subst hH; subst hlocs; exact hg
  unfold p_L_mean at h
  obtain ⟨v, hv, h⟩ := ok_bind h
  refine lv_aload hx hb dL_mean_0 (lv_at hl 5 rfl) ?_
  refine lv_iconst (v := (0 : Int32)) hx hb dL_mean_2 (by decide) ?_
  refine lv_aload_n hx hb dL_mean_3 rfl (lv_at hl 0 rfl) ?_
  refine lv_iload_n hx hb dL_mean_4 rfl (lv_at hl 1 rfl) ?_
  refine lv_iload_n hx hb dL_mean_5 rfl (lv_at hl 2 rfl) ?_
  refine lv_iload_n hx hb dL_mean_6 rfl (lv_at hl 3 rfl) ?_
  refine lv_iload hx hb dL_mean_7 (lv_at hl 4 rfl) ?_
  refine cx_vi (w2 := fun (u : ((Nat → Int64) × Int64)) => w_L_mean cy a0 b0 gg gvn gdn u o) (w2x := fun (u : ((Nat → Int64) × Int64)) => w_L_mean cy a0 b0 gg gvn gdn u o) (As := [.int x1, .int x2, .int x3, .int x4]) (rest := [.int (0 : Int32), .ref b0]) ⟨hx, hb, hml, hown, hts⟩ (c_X12_mean l dC dI cy z hl9 a0 gg gvn gdn gwa x1 x2 x3 x4 H.size v hv) (cwV 4 hts gL_mean_X12_mean rfl rfl rfl (by decide +kernel) ⟨Nat.le_of_ble_eq_true rfl, Nat.le_of_ble_eq_true rfl⟩) (va_recv hK hP (ci := 10) (q0 := 0) rfl rfl) cl_blindS (cl_preS hK hP hD hS hA hX [0, 1, 2, 3, 4, 5, 6, 7, 8, 9, 10, 11, 12, 13] (by decide) rfl) hP hD hS hA [0, 1, 2, 3, 4, 5, 6, 7, 8, 9, 10, 11, 12, 13] rfl rfl hl.1 rfl (lv_room (Nat.le_of_ble_eq_true rfl)) dL_mean_9 ⟨Nat.le_of_ble_eq_true rfl, Nat.le_of_ble_eq_true rfl⟩ (cells' := 3) (slots' := 18) ⟨rfl, rfl⟩ (fun _ => updM [0, 1, 2, 3, 4, 5, 6, 7, 8, 9, 10, 11, 12, 13] [14] [(b0, .inl (cy 2, 1, .inr (.inl (o))))] 15 rfl rfl rfl rfl rfl (by decide +kernel) (by decide +kernel) rfl) (fun _ => updM [0, 1, 2, 3, 4, 5, 6, 7, 8, 9, 10, 11, 12, 13] [14] [(b0, .inl (cy 2, 1, .inr (.inl (o))))] 15 rfl rfl rfl rfl rfl (by decide +kernel) (by decide +kernel) rfl) (fun E ce q9 u H locs hw hE hP hD hS hc1 hc2 hc3 => ?_) (fun r u H locs hw hP hD hS => ?_)
  · subst hw
    have hP : va_P (dC, dI) vwCl (w_L_mean cy a0 b0 gg gvn gdn v.2 o) H := hP
    have hD : va_D A (w_L_mean cy a0 b0 gg gvn gdn v.2 o) := hD
    rcases hE with ⟨rfl, hE⟩ | ⟨rfl, hE⟩
    · rw [hE] at h
      dsimp only [xb] at h
      rw [if_pos rfl] at h
      refine vx_catch (name := "java/util/NoSuchElementException") hown [] (⟨0, 14, 17, 21⟩ : ExceptionTableEntry) [(⟨0, 14, 21, 13⟩ : ExceptionTableEntry)] htb (fun z9 hz9 => by cases hz9) rfl (by decide) lk21 (va_Nw.use rfl hX.2.2.2.2.1) hc1 hc2 hc3 ?_
      refine lv_astore (lv' := [(6, .ref q9), (0, .ref (a0 0)), (1, .int x1), (2, .int x2), (3, .int x3), (4, .int x4), (5, .ref b0)]) hx hb dL_mean_17 hl (by decide) rfl (fun ls hl => ?_)
      refine lv_iconst (v := (1 : Int32)) hx hb dL_mean_19 (by decide) ?_
      exact W.iret (v := (1 : Int32)) hx hb hr (fun t ht hW => by rw [hqq]; have hh := Option.some.inj h; exact ⟨⟨(1 : Int32), (v.2, o), rfl, ⟨fst_of hh, snd_of hh⟩, by rw [ht]; exact hP, va_K.moved hW.alike hK⟩, hS.F ht⟩) hS.2.2 dL_mean_20
    · rw [hE] at h
      dsimp only [xb] at h
      rw [if_neg (by decide), if_pos rfl] at h
      refine vx_catch (name := "java/lang/IllegalArgumentException") hown [(⟨0, 14, 17, 21⟩ : ExceptionTableEntry)] (⟨0, 14, 21, 13⟩ : ExceptionTableEntry) [] htb (fun z9 hz9 => by cases List.mem_singleton.mp hz9; exact Or.inr ⟨by decide, "java/util/NoSuchElementException", lk21, hN⟩) rfl (by decide) lk13 (va_Nw.use rfl hX.2.2.2.2.2.1) hc1 hc2 hc3 ?_
      refine lv_astore (lv' := [(6, .ref q9), (0, .ref (a0 0)), (1, .int x1), (2, .int x2), (3, .int x3), (4, .int x4), (5, .ref b0)]) hx hb dL_mean_21 hl (by decide) rfl (fun ls hl => ?_)
      refine lv_iconst (v := (2 : Int32)) hx hb dL_mean_23 (by decide) ?_
      exact W.iret (v := (2 : Int32)) hx hb hr (fun t ht hW => by rw [hqq]; have hh := Option.some.inj h; exact ⟨⟨(2 : Int32), (v.2, o), rfl, ⟨fst_of hh, snd_of hh⟩, by rw [ht]; exact hP, va_K.moved hW.alike hK⟩, hS.F ht⟩) hS.2.2 dL_mean_24
  obtain ⟨hw1, hw2⟩ := hw
  subst hw2
  rw [← hw1] at h
  dsimp only [xb] at h
  have hP : va_P (dC, dI) vwCl (w_L_mean cy a0 b0 gg gvn gdn v.2 o) H := hP
  have hD : va_D A (w_L_mean cy a0 b0 gg gvn gdn v.2 o) := hD
  refine lv_i2l hx hb dL_mean_12 rfl ?_
  refine va_last hx hb hK hP hD hS 14 2 rfl rfl (ix_in (by decide : ix (0 : Int32) 1)) dL_mean_13 (fun H locs hP hD hS => ?_)
  have hP : va_P (dC, dI) vwCl (w_L_mean cy a0 b0 gg gvn gdn v.2 (vp_updL o (0 : Int32).toNatClampNeg r.toInt64)) H := hP
  have hD : va_D A (w_L_mean cy a0 b0 gg gvn gdn v.2 (vp_updL o (0 : Int32).toNatClampNeg r.toInt64)) := hD
  refine lv_goto (tgt := 25) hx hb dL_mean_14 (by decide) ?_
  refine lv_iconst (v := (0 : Int32)) hx hb dL_mean_25 (by decide) ?_
  exact W.iret (v := (0 : Int32)) hx hb hr (fun t ht hW => by rw [hqq]; have hh := Option.some.inj h; exact ⟨⟨(0 : Int32), (v.2, vp_updL o (0 : Int32).toNatClampNeg r.toInt64), rfl, ⟨fst_of hh, snd_of hh⟩, by rw [ht]; exact hP, va_K.moved hW.alike hK⟩, hS.F ht⟩) hS.2.2 dL_mean_26

abbrev w_L_pay (cy : Nat → ClassId) (a0 : Nat → Nat) (b0 : Nat) (gg : Int32 × Int32 × Int32 × Int32 × Int32 × Int32) (gvn : Int32 × Int32 × (Nat → Int32) × (Nat → Int32) × (Nat → Int32) × (Nat → Int32) × (Nat → Int32)) (gdn : Int32 × Int32 × (Nat → Int32) × (Nat → Int32) × (Nat → Int32) × (Nat → Int32)) (gwa : (Nat → Int64) × Int64) (o : Nat → Int64) : va_W := [(a0 0, .inr (10, [.ref (a0 1), .int (gg.1), .int (gg.2.1), .int (gg.2.2.1), .int (gg.2.2.2.1), .int (gg.2.2.2.2.1), .ref (a0 2), .ref (a0 17), .ref (a0 32), .int (gg.2.2.2.2.2), .ref (a0 47), .ref (a0 48), .ref (a0 49), .ref (a0 50), .ref (a0 68), .ref (a0 78), .ref (a0 80)])), (a0 2, .inr (7, [.int (gvn.1), .int (gvn.2.1), .ref (a0 3), .ref (a0 8), .ref (a0 12), .ref (a0 13), .ref (a0 14), .ref (a0 15), .ref (a0 16)])), (a0 3, .inr (2, [.int (gdn.1), .int (gdn.2.1), .ref (a0 4), .ref (a0 5), .ref (a0 6), .ref (a0 7)])), (a0 4, .inl (cy 1, 10, .inl (gdn.2.2.1))), (a0 5, .inl (cy 1, 10, .inl (gdn.2.2.2.1))), (a0 6, .inl (cy 1, 10, .inl (gdn.2.2.2.2.1))), (a0 7, .inl (cy 1, 50, .inl (gdn.2.2.2.2.2))), (a0 12, .inl (cy 1, 5, .inl (gvn.2.2.1))), (a0 13, .inl (cy 1, 5, .inl (gvn.2.2.2.1))), (a0 14, .inl (cy 1, 5, .inl (gvn.2.2.2.2.1))), (a0 15, .inl (cy 1, 5, .inl (gvn.2.2.2.2.2.1))), (a0 16, .inl (cy 1, 5, .inl (gvn.2.2.2.2.2.2))), (a0 80, .inr (9, [.ref (a0 81), .long (gwa.2)])), (a0 81, .inl (cy 2, 49, .inr (.inl (gwa.1)))), (b0, .inl (cy 2, 1, .inr (.inl (o))))]
abbrev rm_L_pay : Room := { frames := 8, cells := 2, slots := 12, locals := 147 }
def p_L_pay (gvn : Int32 × Int32 × (Nat → Int32) × (Nat → Int32) × (Nat → Int32) × (Nat → Int32) × (Nat → Int32)) (gdn : Int32 × Int32 × (Nat → Int32) × (Nat → Int32) × (Nat → Int32) × (Nat → Int32)) (gwa : (Nat → Int64) × Int64) (x1 : Int32) (x2 : Int32) (x3 : Int32) (o : Nat → Int64) : Option (Int32 × (((Nat → Int64) × Int64)) × (Nat → Int64)) := ((p_X12_pay gvn gdn gwa x1 x2 x3).bind fun v => xb v.1 (fun r => some ((0 : Int32), v.2, vp_updL o (0 : Int32).toNatClampNeg r.toInt64)) (fun k => if k = 1 then some ((1 : Int32), v.2, o) else if k = 2 then some ((2 : Int32), v.2, o) else none))
set_option maxHeartbeats 1000000 in
set_option maxRecDepth 100000 in
theorem c_L_pay (l : Launch) (dC : Nat → ClassId) (dI : Nat → Nat → Nat) (cy : Nat → ClassId) (z : Nat → Nat) (hl9 : l.stackTraces = false) (a0 : Nat → Nat) (b0 : Nat) (gg : Int32 × Int32 × Int32 × Int32 × Int32 × Int32) (gvn : Int32 × Int32 × (Nat → Int32) × (Nat → Int32) × (Nat → Int32) × (Nat → Int32) × (Nat → Int32)) (gdn : Int32 × Int32 × (Nat → Int32) × (Nat → Int32) × (Nat → Int32) × (Nat → Int32)) (gwa : (Nat → Int64) × Int64) (x1 : Int32) (x2 : Int32) (x3 : Int32) (o : Nat → Int64) (sz : Nat) (R0 : Int32 × (((Nat → Int64) × Int64)) × (Nat → Int64)) (h : p_L_pay gvn gdn gwa x1 x2 x3 o = some R0) : Met l yL_pay wsL_pay rm_L_pay (va_Pc [.ref (a0 0), .int x1, .int x2, .int x3, .ref b0] (prL dC dI cy z (w_L_pay cy a0 b0 gg gvn gdn gwa o) sz)) (va_Qi (fun (r : Int32) (u : (((Nat → Int64) × Int64)) × (Nat → Int64)) => r = R0.1 ∧ u = R0.2) (fun u t => poC dC dI cy (w_L_pay cy a0 b0 gg gvn gdn u.1 u.2) t) (va_A (w_L_pay cy a0 b0 gg gvn gdn gwa o) sz)) 2 12 (va_A (w_L_pay cy a0 b0 gg gvn gdn gwa o) sz) := by
  refine va_MetW (cc := cL_pay) (maxL := 6) (ret := (some .int)) (hh := [(0, 12, 15, 21), (0, 12, 19, 13)]) (by decide) rfl ?_
  intro p e s m aa below meth c s₁ B hml hv
  obtain ⟨haa, ⟨⟨hsz, hP, hK, hD0⟩, hX⟩, hN⟩ := hv
  have hx := B.exec
  have hb := B.bytes
  have hr := B.returns
  have hts := atoms_spec (ws := wsL_pay) B.pre
  have htb : c.exceptionTable.toList = tableOf [(0, 12, 15, 21), (0, 12, 19, 13)] := vx_table B (hts _ List.mem_cons_self)
  have hown : s.vm.findClass RL = some m.cls := findClass_of_methodNamed B.named
  have hlocks := B.notSynchronized
  subst hsz
  have hD := hD0.self (sz := s.heap.size)
  obtain ⟨qq, hqq⟩ : ∃ qq, qq = (va_Qi (fun (r : Int32) (u : (((Nat → Int64) × Int64)) × (Nat → Int64)) => r = R0.1 ∧ u = R0.2) (fun u t => poC dC dI cy (w_L_pay cy a0 b0 gg gvn gdn u.1 u.2) t) (va_A (w_L_pay cy a0 b0 gg gvn gdn gwa o) s.heap.size)) := ⟨_, rfl⟩
  rw [← hqq]
  generalize hAe : va_A (w_L_pay cy a0 b0 gg gvn gdn gwa o) s.heap.size = A at hD hqq hX ⊢
  have hA : ∀ q : Nat, s.heap.size ≤ q → A q := fun q h => by rw [← hAe]; exact Or.inr h
  have hS : va_S A s.heap s.heap [] := va_S.rf
  have hl := lv_entry ([.ref (a0 0), .int x1, .int x2, .int x3, .ref b0]) (n := 6) (Nat.le_of_ble_eq_true rfl)
  have hE : entryFrame m aa 6 = F0 m 0 ((lg_sl ([.ref (a0 0), .int x1, .int x2, .int x3, .ref b0]) ++ List.replicate (6 - (lg_sl ([.ref (a0 0), .int x1, .int x2, .int x3, .ref b0])).length) Slot.unset).toArray) [] := by rw [haa]; exact lg_entry_eq m _ 6
  refine W.eq hE ?_
  generalize (lg_sl ([.ref (a0 0), .int x1, .int x2, .int x3, .ref b0]) ++ List.replicate (6 - (lg_sl ([.ref (a0 0), .int x1, .int x2, .int x3, .ref b0])).length) Slot.unset).toArray = ls at hl ⊢
  have hl : lv_has ls 6 [(0, .ref (a0 0)), (1, .int x1), (2, .int x2), (3, .int x3), (4, .ref b0)] := hl
  change W p l e rm_L_pay s m aa below meth c s.heap [] 0 0 (MQ below qq aa s 2 12 A) (F0 m 0 ls [])
  have lk21 := hts (.classLink RL 21 "java/util/NoSuchElementException") (by decide +kernel)
  have lk13 := hts (.classLink RL 13 "java/lang/IllegalArgumentException") (by decide +kernel)
  obtain ⟨H, hH⟩ : ∃ H : Heap, H = s.heap := ⟨_, rfl⟩
  obtain ⟨locs, hlocs⟩ : ∃ locs : List Loc, locs = [] := ⟨_, rfl⟩
  have hS : va_S A s.heap H locs := by rw [hH, hlocs]; exact hS
  rw [← hH] at hP
  suffices hg : W p l e rm_L_pay s m aa below meth c H locs 0 0 (MQ below qq aa s 2 12 A) (F0 m 0 ls []) by subst hH; subst hlocs; exact hg
  unfold p_L_pay at h
  obtain ⟨v, hv, h⟩ := ok_bind h
  refine lv_aload hx hb dL_pay_0 (lv_at hl 4 rfl) ?_
  refine lv_iconst (v := (0 : Int32)) hx hb dL_pay_2 (by decide) ?_
  refine lv_aload_n hx hb dL_pay_3 rfl (lv_at hl 0 rfl) ?_
  refine lv_iload_n hx hb dL_pay_4 rfl (lv_at hl 1 rfl) ?_
  refine lv_iload_n hx hb dL_pay_5 rfl (lv_at hl 2 rfl) ?_
  refine lv_iload_n hx hb dL_pay_6 rfl (lv_at hl 3 rfl) ?_
  refine cx_vi (w2 := fun (u : ((Nat → Int64) × Int64)) => w_L_pay cy a0 b0 gg gvn gdn u o) (w2x := fun (u : ((Nat → Int64) × Int64)) => w_L_pay cy a0 b0 gg gvn gdn u o) (As := [.int x1, .int x2, .int x3]) (rest := [.int (0 : Int32), .ref b0]) ⟨hx, hb, hml, hown, hts⟩ (c_X12_pay l dC dI cy z hl9 a0 gg gvn gdn gwa x1 x2 x3 H.size v hv) (cwV 3 hts gL_pay_X12_pay rfl rfl rfl (by decide +kernel) ⟨Nat.le_of_ble_eq_true rfl, Nat.le_of_ble_eq_true rfl⟩) (va_recv hK hP (ci := 10) (q0 := 0) rfl rfl) cl_blindS (cl_preS hK hP hD hS hA hX [0, 1, 2, 3, 4, 5, 6, 7, 8, 9, 10, 11, 12, 13] (by decide) rfl) hP hD hS hA [0, 1, 2, 3, 4, 5, 6, 7, 8, 9, 10, 11, 12, 13] rfl rfl hl.1 rfl (lv_room (Nat.le_of_ble_eq_true rfl)) dL_pay_7 ⟨Nat.le_of_ble_eq_true rfl, Nat.le_of_ble_eq_true rfl⟩ (cells' := 2) (slots' := 12) ⟨rfl, rfl⟩ (fun _ => updM [0, 1, 2, 3, 4, 5, 6, 7, 8, 9, 10, 11, 12, 13] [14] [(b0, .inl (cy 2, 1, .inr (.inl (o))))] 15 rfl rfl rfl rfl rfl (by decide +kernel) (by decide +kernel) rfl) (fun _ => updM [0, 1, 2, 3, 4, 5, 6, 7, 8, 9, 10, 11, 12, 13] [14] [(b0, .inl (cy 2, 1, .inr (.inl (o))))] 15 rfl rfl rfl rfl rfl (by decide +kernel) (by decide +kernel) rfl) (fun E ce q9 u H locs hw hE hP hD hS hc1 hc2 hc3 => ?_) (fun r u H locs hw hP hD hS => ?_)
  · subst hw
    have hP : va_P (dC, dI) vwCl (w_L_pay cy a0 b0 gg gvn gdn v.2 o) H := hP
    have hD : va_D A (w_L_pay cy a0 b0 gg gvn gdn v.2 o) := hD
    rcases hE with ⟨rfl, hE⟩ | ⟨rfl, hE⟩
    · rw [hE] at h
      dsimp only [xb] at h
      rw [if_pos rfl] at h
      refine vx_catch (name := "java/util/NoSuchElementException") hown [] (⟨0, 12, 15, 21⟩ : ExceptionTableEntry) [(⟨0, 12, 19, 13⟩ : ExceptionTableEntry)] htb (fun z9 hz9 => by cases hz9) rfl (by decide) lk21 (va_Nw.use rfl hX.2.2.2.2.1) hc1 hc2 hc3 ?_
      refine lv_astore (lv' := [(5, .ref q9), (0, .ref (a0 0)), (1, .int x1), (2, .int x2), (3, .int x3), (4, .ref b0)]) hx hb dL_pay_15 hl (by decide) rfl (fun ls hl => ?_)
      refine lv_iconst (v := (1 : Int32)) hx hb dL_pay_17 (by decide) ?_
      exact W.iret (v := (1 : Int32)) hx hb hr (fun t ht hW => by rw [hqq]; have hh := Option.some.inj h; exact ⟨⟨(1 : Int32), (v.2, o), rfl, ⟨fst_of hh, snd_of hh⟩, by rw [ht]; exact hP, va_K.moved hW.alike hK⟩, hS.F ht⟩) hS.2.2 dL_pay_18
    · rw [hE] at h
      dsimp only [xb] at h
      rw [if_neg (by decide), if_pos rfl] at h
      refine vx_catch (name := "java/lang/IllegalArgumentException") hown [(⟨0, 12, 15, 21⟩ : ExceptionTableEntry)] (⟨0, 12, 19, 13⟩ : ExceptionTableEntry) [] htb (fun z9 hz9 => by cases List.mem_singleton.mp hz9; exact Or.inr ⟨by decide, "java/util/NoSuchElementException", lk21, hN⟩) rfl (by decide) lk13 (va_Nw.use rfl hX.2.2.2.2.2.1) hc1 hc2 hc3 ?_
      refine lv_astore (lv' := [(5, .ref q9), (0, .ref (a0 0)), (1, .int x1), (2, .int x2), (3, .int x3), (4, .ref b0)]) hx hb dL_pay_19 hl (by decide) rfl (fun ls hl => ?_)
      refine lv_iconst (v := (2 : Int32)) hx hb dL_pay_21 (by decide) ?_
      exact W.iret (v := (2 : Int32)) hx hb hr (fun t ht hW => by rw [hqq]; have hh := Option.some.inj h; exact ⟨⟨(2 : Int32), (v.2, o), rfl, ⟨fst_of hh, snd_of hh⟩, by rw [ht]; exact hP, va_K.moved hW.alike hK⟩, hS.F ht⟩) hS.2.2 dL_pay_22
  obtain ⟨hw1, hw2⟩ := hw
  subst hw2
  rw [← hw1] at h
  dsimp only [xb] at h
  have hP : va_P (dC, dI) vwCl (w_L_pay cy a0 b0 gg gvn gdn v.2 o) H := hP
  have hD : va_D A (w_L_pay cy a0 b0 gg gvn gdn v.2 o) := hD
  refine lv_i2l hx hb dL_pay_10 rfl ?_
  refine va_last hx hb hK hP hD hS 14 2 rfl rfl (ix_in (by decide : ix (0 : Int32) 1)) dL_pay_11 (fun H locs hP hD hS => ?_)
  have hP : va_P (dC, dI) vwCl (w_L_pay cy a0 b0 gg gvn gdn v.2 (vp_updL o (0 : Int32).toNatClampNeg r.toInt64)) H := hP
  have hD : va_D A (w_L_pay cy a0 b0 gg gvn gdn v.2 (vp_updL o (0 : Int32).toNatClampNeg r.toInt64)) := hD
  refine lv_goto (tgt := 23) hx hb dL_pay_12 (by decide) ?_
  refine lv_iconst (v := (0 : Int32)) hx hb dL_pay_23 (by decide) ?_
  exact W.iret (v := (0 : Int32)) hx hb hr (fun t ht hW => by rw [hqq]; have hh := Option.some.inj h; exact ⟨⟨(0 : Int32), (v.2, vp_updL o (0 : Int32).toNatClampNeg r.toInt64), rfl, ⟨fst_of hh, snd_of hh⟩, by rw [ht]; exact hP, va_K.moved hW.alike hK⟩, hS.F ht⟩) hS.2.2 dL_pay_24

abbrev w_L_trade (cy : Nat → ClassId) (a0 : Nat → Nat) (b0 : Nat) (gg : Int32 × Int32 × Int32 × Int32 × Int32 × Int32) (gvn : Int32 × Int32 × (Nat → Int32) × (Nat → Int32) × (Nat → Int32) × (Nat → Int32) × (Nat → Int32)) (gdn : Int32 × Int32 × (Nat → Int32) × (Nat → Int32) × (Nat → Int32) × (Nat → Int32)) (gne : (Nat → Nat → Int32) × (Nat → Nat → Int64)) (o : Nat → Int64) : va_W := [(a0 0, .inr (10, [.ref (a0 1), .int (gg.1), .int (gg.2.1), .int (gg.2.2.1), .int (gg.2.2.2.1), .int (gg.2.2.2.2.1), .ref (a0 2), .ref (a0 17), .ref (a0 32), .int (gg.2.2.2.2.2), .ref (a0 47), .ref (a0 48), .ref (a0 49), .ref (a0 50), .ref (a0 68), .ref (a0 78), .ref (a0 80)])), (a0 2, .inr (7, [.int (gvn.1), .int (gvn.2.1), .ref (a0 3), .ref (a0 8), .ref (a0 12), .ref (a0 13), .ref (a0 14), .ref (a0 15), .ref (a0 16)])), (a0 3, .inr (2, [.int (gdn.1), .int (gdn.2.1), .ref (a0 4), .ref (a0 5), .ref (a0 6), .ref (a0 7)])), (a0 4, .inl (cy 1, 10, .inl (gdn.2.2.1))), (a0 5, .inl (cy 1, 10, .inl (gdn.2.2.2.1))), (a0 6, .inl (cy 1, 10, .inl (gdn.2.2.2.2.1))), (a0 7, .inl (cy 1, 50, .inl (gdn.2.2.2.2.2))), (a0 12, .inl (cy 1, 5, .inl (gvn.2.2.1))), (a0 13, .inl (cy 1, 5, .inl (gvn.2.2.2.1))), (a0 14, .inl (cy 1, 5, .inl (gvn.2.2.2.2.1))), (a0 15, .inl (cy 1, 5, .inl (gvn.2.2.2.2.2.1))), (a0 16, .inl (cy 1, 5, .inl (gvn.2.2.2.2.2.2))), (a0 50, .inr (4, [.ref (a0 51), .ref (a0 62)])), (a0 51, .inl (cy 3, 10, .inr (.inr (.inr (.inr (fun i => some ([a0 52, a0 53, a0 54, a0 55, a0 56, a0 57, a0 58, a0 59, a0 60, a0 61].getD i 0))))))), (a0 52, .inl (cy 1, 41, .inl (gne.1 0))), (a0 53, .inl (cy 1, 41, .inl (gne.1 1))), (a0 54, .inl (cy 1, 41, .inl (gne.1 2))), (a0 55, .inl (cy 1, 41, .inl (gne.1 3))), (a0 56, .inl (cy 1, 41, .inl (gne.1 4))), (a0 57, .inl (cy 1, 41, .inl (gne.1 5))), (a0 58, .inl (cy 1, 41, .inl (gne.1 6))), (a0 59, .inl (cy 1, 41, .inl (gne.1 7))), (a0 60, .inl (cy 1, 41, .inl (gne.1 8))), (a0 61, .inl (cy 1, 41, .inl (gne.1 9))), (a0 62, .inl (cy 4, 5, .inr (.inr (.inr (.inr (fun i => some ([a0 63, a0 64, a0 65, a0 66, a0 67].getD i 0))))))), (a0 63, .inl (cy 2, 41, .inr (.inl (gne.2 0)))), (a0 64, .inl (cy 2, 41, .inr (.inl (gne.2 1)))), (a0 65, .inl (cy 2, 41, .inr (.inl (gne.2 2)))), (a0 66, .inl (cy 2, 41, .inr (.inl (gne.2 3)))), (a0 67, .inl (cy 2, 41, .inr (.inl (gne.2 4)))), (b0, .inl (cy 2, 1, .inr (.inl (o))))]
abbrev rm_L_trade : Room := { frames := 8, cells := 2, slots := 12, locals := 142 }
def p_L_trade (gvn : Int32 × Int32 × (Nat → Int32) × (Nat → Int32) × (Nat → Int32) × (Nat → Int32) × (Nat → Int32)) (gdn : Int32 × Int32 × (Nat → Int32) × (Nat → Int32) × (Nat → Int32) × (Nat → Int32)) (gne : (Nat → Nat → Int32) × (Nat → Nat → Int64)) (x1 : Int32) (x2 : Int32) (o : Nat → Int64) : Option (Int32 × (((Nat → Nat → Int32) × (Nat → Nat → Int64))) × (Nat → Int64)) := ((p_X12_trade gvn gdn gne x1 x2).bind fun v => xb v.1 (fun r => some ((0 : Int32), v.2, vp_updL o (0 : Int32).toNatClampNeg r.toInt64)) (fun k => if k = 1 then some ((1 : Int32), v.2, o) else if k = 2 then some ((2 : Int32), v.2, o) else none))
set_option maxHeartbeats 1000000 in
set_option maxRecDepth 100000 in
theorem c_L_trade (l : Launch) (dC : Nat → ClassId) (dI : Nat → Nat → Nat) (cy : Nat → ClassId) (z : Nat → Nat) (hl9 : l.stackTraces = false) (a0 : Nat → Nat) (b0 : Nat) (gg : Int32 × Int32 × Int32 × Int32 × Int32 × Int32) (gvn : Int32 × Int32 × (Nat → Int32) × (Nat → Int32) × (Nat → Int32) × (Nat → Int32) × (Nat → Int32)) (gdn : Int32 × Int32 × (Nat → Int32) × (Nat → Int32) × (Nat → Int32) × (Nat → Int32)) (gne : (Nat → Nat → Int32) × (Nat → Nat → Int64)) (x1 : Int32) (x2 : Int32) (o : Nat → Int64) (sz : Nat) (R0 : Int32 × (((Nat → Nat → Int32) × (Nat → Nat → Int64))) × (Nat → Int64)) (h : p_L_trade gvn gdn gne x1 x2 o = some R0) : Met l yL_trade wsL_trade rm_L_trade (va_Pc [.ref (a0 0), .int x1, .int x2, .ref b0] (prL dC dI cy z (w_L_trade cy a0 b0 gg gvn gdn gne o) sz)) (va_Qi (fun (r : Int32) (u : (((Nat → Nat → Int32) × (Nat → Nat → Int64))) × (Nat → Int64)) => r = R0.1 ∧ u = R0.2) (fun u t => poC dC dI cy (w_L_trade cy a0 b0 gg gvn gdn u.1 u.2) t) (va_A (w_L_trade cy a0 b0 gg gvn gdn gne o) sz)) 2 12 (va_A (w_L_trade cy a0 b0 gg gvn gdn gne o) sz) := by
  refine va_MetW (cc := cL_trade) (maxL := 5) (ret := (some .int)) (hh := [(0, 10, 13, 21), (0, 10, 17, 13)]) (by decide) rfl ?_
  intro p e s m aa below meth c s₁ B hml hv
  obtain ⟨haa, ⟨⟨hsz, hP, hK, hD0⟩, hX⟩, hN⟩ := hv
  have hx := B.exec
  have hb := B.bytes
  have hr := B.returns
  have hts := atoms_spec (ws := wsL_trade) B.pre
  have htb : c.exceptionTable.toList = tableOf [(0, 10, 13, 21), (0, 10, 17, 13)] := vx_table B (hts _ List.mem_cons_self)
  have hown : s.vm.findClass RL = some m.cls := findClass_of_methodNamed B.named
  have hlocks := B.notSynchronized
  subst hsz
  have hD := hD0.self (sz := s.heap.size)
  obtain ⟨qq, hqq⟩ : ∃ qq, qq = (va_Qi (fun (r : Int32) (u : (((Nat → Nat → Int32) × (Nat → Nat → Int64))) × (Nat → Int64)) => r = R0.1 ∧ u = R0.2) (fun u t => poC dC dI cy (w_L_trade cy a0 b0 gg gvn gdn u.1 u.2) t) (va_A (w_L_trade cy a0 b0 gg gvn gdn gne o) s.heap.size)) := ⟨_, rfl⟩
  rw [← hqq]
  generalize hAe : va_A (w_L_trade cy a0 b0 gg gvn gdn gne o) s.heap.size = A at hD hqq hX ⊢
  have hA : ∀ q : Nat, s.heap.size ≤ q → A q := fun q h => by rw [← hAe]; exact Or.inr h
  have hS : va_S A s.heap s.heap [] := va_S.rf
  have hl := lv_entry ([.ref (a0 0), .int x1, .int x2, .ref b0]) (n := 5) (Nat.le_of_ble_eq_true rfl)
  have hE : entryFrame m aa 5 = F0 m 0 ((lg_sl ([.ref (a0 0), .int x1, .int x2, .ref b0]) ++ List.replicate (5 - (lg_sl ([.ref (a0 0), .int x1, .int x2, .ref b0])).length) Slot.unset).toArray) [] := by rw [haa]; exact lg_entry_eq m _ 5
  refine W.eq hE ?_
  generalize (lg_sl ([.ref (a0 0), .int x1, .int x2, .ref b0]) ++ List.replicate (5 - (lg_sl ([.ref (a0 0), .int x1, .int x2, .ref b0])).length) Slot.unset).toArray = ls at hl ⊢
  have hl : lv_has ls 5 [(0, .ref (a0 0)), (1, .int x1), (2, .int x2), (3, .ref b0)] := hl
  change W p l e rm_L_trade s m aa below meth c s.heap [] 0 0 (MQ below qq aa s 2 12 A) (F0 m 0 ls [])
  have lk21 := hts (.classLink RL 21 "java/util/NoSuchElementException") (by decide +kernel)
  have lk13 := hts (.classLink RL 13 "java/lang/IllegalArgumentException") (by decide +kernel)
  obtain ⟨H, hH⟩ : ∃ H : Heap, H = s.heap := ⟨_, rfl⟩
  obtain ⟨locs, hlocs⟩ : ∃ locs : List Loc, locs = [] := ⟨_, rfl⟩
  have hS : va_S A s.heap H locs := by rw [hH, hlocs]; exact hS
  rw [← hH] at hP
  suffices hg : W p l e rm_L_trade s m aa below meth c H locs 0 0 (MQ below qq aa s 2 12 A) (F0 m 0 ls []) by subst hH; subst hlocs; exact hg
  unfold p_L_trade at h
  obtain ⟨v, hv, h⟩ := ok_bind h
  refine lv_aload_n hx hb dL_trade_0 rfl (lv_at hl 3 rfl) ?_
  refine lv_iconst (v := (0 : Int32)) hx hb dL_trade_1 (by decide) ?_
  refine lv_aload_n hx hb dL_trade_2 rfl (lv_at hl 0 rfl) ?_
  refine lv_iload_n hx hb dL_trade_3 rfl (lv_at hl 1 rfl) ?_
  refine lv_iload_n hx hb dL_trade_4 rfl (lv_at hl 2 rfl) ?_
  refine cx_vi (w2 := fun (u : ((Nat → Nat → Int32) × (Nat → Nat → Int64))) => w_L_trade cy a0 b0 gg gvn gdn u o) (w2x := fun (u : ((Nat → Nat → Int32) × (Nat → Nat → Int64))) => w_L_trade cy a0 b0 gg gvn gdn u o) (As := [.int x1, .int x2]) (rest := [.int (0 : Int32), .ref b0]) ⟨hx, hb, hml, hown, hts⟩ (c_X12_trade l dC dI cy z hl9 a0 gg gvn gdn gne x1 x2 H.size v hv) (cwV 2 hts gL_trade_X12_trade rfl rfl rfl (by decide +kernel) ⟨Nat.le_of_ble_eq_true rfl, Nat.le_of_ble_eq_true rfl⟩) (va_recv hK hP (ci := 10) (q0 := 0) rfl rfl) cl_blindS (cl_preS hK hP hD hS hA hX [0, 1, 2, 3, 4, 5, 6, 7, 8, 9, 10, 11, 12, 13, 14, 15, 16, 17, 18, 19, 20, 21, 22, 23, 24, 25, 26, 27, 28, 29] (by decide) rfl) hP hD hS hA [0, 1, 2, 3, 4, 5, 6, 7, 8, 9, 10, 11, 12, 13, 14, 15, 16, 17, 18, 19, 20, 21, 22, 23, 24, 25, 26, 27, 28, 29] rfl rfl hl.1 rfl (lv_room (Nat.le_of_ble_eq_true rfl)) dL_trade_5 ⟨Nat.le_of_ble_eq_true rfl, Nat.le_of_ble_eq_true rfl⟩ (cells' := 2) (slots' := 12) ⟨rfl, rfl⟩ (fun _ => updM [0, 1, 2, 3, 4, 5, 6, 7, 8, 9, 10, 11, 12, 13, 14, 15, 16, 17, 18, 19, 20, 21, 22, 23, 24, 25, 26, 27, 28, 29] [30] [(b0, .inl (cy 2, 1, .inr (.inl (o))))] 31 rfl rfl rfl rfl rfl (by decide +kernel) (by decide +kernel) rfl) (fun _ => updM [0, 1, 2, 3, 4, 5, 6, 7, 8, 9, 10, 11, 12, 13, 14, 15, 16, 17, 18, 19, 20, 21, 22, 23, 24, 25, 26, 27, 28, 29] [30] [(b0, .inl (cy 2, 1, .inr (.inl (o))))] 31 rfl rfl rfl rfl rfl (by decide +kernel) (by decide +kernel) rfl) (fun E ce q9 u H locs hw hE hP hD hS hc1 hc2 hc3 => ?_) (fun r u H locs hw hP hD hS => ?_)
  · subst hw
    have hP : va_P (dC, dI) vwCl (w_L_trade cy a0 b0 gg gvn gdn v.2 o) H := hP
    have hD : va_D A (w_L_trade cy a0 b0 gg gvn gdn v.2 o) := hD
    rcases hE with ⟨rfl, hE⟩ | ⟨rfl, hE⟩
    · rw [hE] at h
      dsimp only [xb] at h
      rw [if_pos rfl] at h
      refine vx_catch (name := "java/util/NoSuchElementException") hown [] (⟨0, 10, 13, 21⟩ : ExceptionTableEntry) [(⟨0, 10, 17, 13⟩ : ExceptionTableEntry)] htb (fun z9 hz9 => by cases hz9) rfl (by decide) lk21 (va_Nw.use rfl hX.2.2.2.2.1) hc1 hc2 hc3 ?_
      refine lv_astore (lv' := [(4, .ref q9), (0, .ref (a0 0)), (1, .int x1), (2, .int x2), (3, .ref b0)]) hx hb dL_trade_13 hl (by decide) rfl (fun ls hl => ?_)
      refine lv_iconst (v := (1 : Int32)) hx hb dL_trade_15 (by decide) ?_
      exact W.iret (v := (1 : Int32)) hx hb hr (fun t ht hW => by rw [hqq]; have hh := Option.some.inj h; exact ⟨⟨(1 : Int32), (v.2, o), rfl, ⟨fst_of hh, snd_of hh⟩, by rw [ht]; exact hP, va_K.moved hW.alike hK⟩, hS.F ht⟩) hS.2.2 dL_trade_16
    · rw [hE] at h
      dsimp only [xb] at h
      rw [if_neg (by decide), if_pos rfl] at h
      refine vx_catch (name := "java/lang/IllegalArgumentException") hown [(⟨0, 10, 13, 21⟩ : ExceptionTableEntry)] (⟨0, 10, 17, 13⟩ : ExceptionTableEntry) [] htb (fun z9 hz9 => by cases List.mem_singleton.mp hz9; exact Or.inr ⟨by decide, "java/util/NoSuchElementException", lk21, hN⟩) rfl (by decide) lk13 (va_Nw.use rfl hX.2.2.2.2.2.1) hc1 hc2 hc3 ?_
      refine lv_astore (lv' := [(4, .ref q9), (0, .ref (a0 0)), (1, .int x1), (2, .int x2), (3, .ref b0)]) hx hb dL_trade_17 hl (by decide) rfl (fun ls hl => ?_)
      refine lv_iconst (v := (2 : Int32)) hx hb dL_trade_19 (by decide) ?_
      exact W.iret (v := (2 : Int32)) hx hb hr (fun t ht hW => by rw [hqq]; have hh := Option.some.inj h; exact ⟨⟨(2 : Int32), (v.2, o), rfl, ⟨fst_of hh, snd_of hh⟩, by rw [ht]; exact hP, va_K.moved hW.alike hK⟩, hS.F ht⟩) hS.2.2 dL_trade_20
  obtain ⟨hw1, hw2⟩ := hw
  subst hw2
  rw [← hw1] at h
  dsimp only [xb] at h
  have hP : va_P (dC, dI) vwCl (w_L_trade cy a0 b0 gg gvn gdn v.2 o) H := hP
  have hD : va_D A (w_L_trade cy a0 b0 gg gvn gdn v.2 o) := hD
  refine lv_i2l hx hb dL_trade_8 rfl ?_
  refine va_last hx hb hK hP hD hS 30 2 rfl rfl (ix_in (by decide : ix (0 : Int32) 1)) dL_trade_9 (fun H locs hP hD hS => ?_)
  have hP : va_P (dC, dI) vwCl (w_L_trade cy a0 b0 gg gvn gdn v.2 (vp_updL o (0 : Int32).toNatClampNeg r.toInt64)) H := hP
  have hD : va_D A (w_L_trade cy a0 b0 gg gvn gdn v.2 (vp_updL o (0 : Int32).toNatClampNeg r.toInt64)) := hD
  refine lv_goto (tgt := 21) hx hb dL_trade_10 (by decide) ?_
  refine lv_iconst (v := (0 : Int32)) hx hb dL_trade_21 (by decide) ?_
  exact W.iret (v := (0 : Int32)) hx hb hr (fun t ht hW => by rw [hqq]; have hh := Option.some.inj h; exact ⟨⟨(0 : Int32), (v.2, vp_updL o (0 : Int32).toNatClampNeg r.toInt64), rfl, ⟨fst_of hh, snd_of hh⟩, by rw [ht]; exact hP, va_K.moved hW.alike hK⟩, hS.F ht⟩) hS.2.2 dL_trade_22

abbrev w_L_tax (cy : Nat → ClassId) (a0 : Nat → Nat) (b0 : Nat) (gg : Int32 × Int32 × Int32 × Int32 × Int32 × Int32) (gvn : Int32 × Int32 × (Nat → Int32) × (Nat → Int32) × (Nat → Int32) × (Nat → Int32) × (Nat → Int32)) (gdn : Int32 × Int32 × (Nat → Int32) × (Nat → Int32) × (Nat → Int32) × (Nat → Int32)) (o : Nat → Int64) : va_W := [(a0 0, .inr (10, [.ref (a0 1), .int (gg.1), .int (gg.2.1), .int (gg.2.2.1), .int (gg.2.2.2.1), .int (gg.2.2.2.2.1), .ref (a0 2), .ref (a0 17), .ref (a0 32), .int (gg.2.2.2.2.2), .ref (a0 47), .ref (a0 48), .ref (a0 49), .ref (a0 50), .ref (a0 68), .ref (a0 78), .ref (a0 80)])), (a0 2, .inr (7, [.int (gvn.1), .int (gvn.2.1), .ref (a0 3), .ref (a0 8), .ref (a0 12), .ref (a0 13), .ref (a0 14), .ref (a0 15), .ref (a0 16)])), (a0 3, .inr (2, [.int (gdn.1), .int (gdn.2.1), .ref (a0 4), .ref (a0 5), .ref (a0 6), .ref (a0 7)])), (a0 4, .inl (cy 1, 10, .inl (gdn.2.2.1))), (a0 5, .inl (cy 1, 10, .inl (gdn.2.2.2.1))), (a0 6, .inl (cy 1, 10, .inl (gdn.2.2.2.2.1))), (a0 7, .inl (cy 1, 50, .inl (gdn.2.2.2.2.2))), (b0, .inl (cy 2, 1, .inr (.inl (o))))]
abbrev rm_L_tax : Room := { frames := 8, cells := 1, slots := 6, locals := 132 }
def p_L_tax (gdn : Int32 × Int32 × (Nat → Int32) × (Nat → Int32) × (Nat → Int32) × (Nat → Int32)) (x1 : Int32) (o : Nat → Int64) : Option (Int32 × (Unit) × (Nat → Int64)) := ((p_X12_tax gdn x1).bind fun v => xb v.1 (fun r => some ((0 : Int32), v.2, vp_updL o (0 : Int32).toNatClampNeg r.toInt64)) (fun k => if k = 1 then some ((1 : Int32), v.2, o) else if k = 2 then none else none))
set_option maxHeartbeats 1000000 in
set_option maxRecDepth 100000 in
theorem c_L_tax (l : Launch) (dC : Nat → ClassId) (dI : Nat → Nat → Nat) (cy : Nat → ClassId) (z : Nat → Nat) (hl9 : l.stackTraces = false) (a0 : Nat → Nat) (b0 : Nat) (gg : Int32 × Int32 × Int32 × Int32 × Int32 × Int32) (gvn : Int32 × Int32 × (Nat → Int32) × (Nat → Int32) × (Nat → Int32) × (Nat → Int32) × (Nat → Int32)) (gdn : Int32 × Int32 × (Nat → Int32) × (Nat → Int32) × (Nat → Int32) × (Nat → Int32)) (x1 : Int32) (o : Nat → Int64) (sz : Nat) (R0 : Int32 × (Unit) × (Nat → Int64)) (h : p_L_tax gdn x1 o = some R0) : Met l yL_tax wsL_tax rm_L_tax (va_Pc [.ref (a0 0), .int x1, .ref b0] (prL dC dI cy z (w_L_tax cy a0 b0 gg gvn gdn o) sz)) (va_Qi (fun (r : Int32) (u : (Unit) × (Nat → Int64)) => r = R0.1 ∧ u = R0.2) (fun u t => poC dC dI cy (w_L_tax cy a0 b0 gg gvn gdn u.2) t) (va_A (w_L_tax cy a0 b0 gg gvn gdn o) sz)) 1 6 (va_A (w_L_tax cy a0 b0 gg gvn gdn o) sz) := by
  refine va_MetW (cc := cL_tax) (maxL := 4) (ret := (some .int)) (hh := [(0, 9, 12, 21)]) (by decide) rfl ?_
  intro p e s m aa below meth c s₁ B hml hv
  obtain ⟨haa, ⟨⟨hsz, hP, hK, hD0⟩, hX⟩, hN⟩ := hv
  have hx := B.exec
  have hb := B.bytes
  have hr := B.returns
  have hts := atoms_spec (ws := wsL_tax) B.pre
  have htb : c.exceptionTable.toList = tableOf [(0, 9, 12, 21)] := vx_table B (hts _ List.mem_cons_self)
  have hown : s.vm.findClass RL = some m.cls := findClass_of_methodNamed B.named
  have hlocks := B.notSynchronized
  subst hsz
  have hD := hD0.self (sz := s.heap.size)
  obtain ⟨qq, hqq⟩ : ∃ qq, qq = (va_Qi (fun (r : Int32) (u : (Unit) × (Nat → Int64)) => r = R0.1 ∧ u = R0.2) (fun u t => poC dC dI cy (w_L_tax cy a0 b0 gg gvn gdn u.2) t) (va_A (w_L_tax cy a0 b0 gg gvn gdn o) s.heap.size)) := ⟨_, rfl⟩
  rw [← hqq]
  generalize hAe : va_A (w_L_tax cy a0 b0 gg gvn gdn o) s.heap.size = A at hD hqq hX ⊢
  have hA : ∀ q : Nat, s.heap.size ≤ q → A q := fun q h => by rw [← hAe]; exact Or.inr h
  have hS : va_S A s.heap s.heap [] := va_S.rf
  have hl := lv_entry ([.ref (a0 0), .int x1, .ref b0]) (n := 4) (Nat.le_of_ble_eq_true rfl)
  have hE : entryFrame m aa 4 = F0 m 0 ((lg_sl ([.ref (a0 0), .int x1, .ref b0]) ++ List.replicate (4 - (lg_sl ([.ref (a0 0), .int x1, .ref b0])).length) Slot.unset).toArray) [] := by rw [haa]; exact lg_entry_eq m _ 4
  refine W.eq hE ?_
  generalize (lg_sl ([.ref (a0 0), .int x1, .ref b0]) ++ List.replicate (4 - (lg_sl ([.ref (a0 0), .int x1, .ref b0])).length) Slot.unset).toArray = ls at hl ⊢
  have hl : lv_has ls 4 [(0, .ref (a0 0)), (1, .int x1), (2, .ref b0)] := hl
  change W p l e rm_L_tax s m aa below meth c s.heap [] 0 0 (MQ below qq aa s 1 6 A) (F0 m 0 ls [])
  have lk21 := hts (.classLink RL 21 "java/util/NoSuchElementException") (by decide +kernel)
  obtain ⟨H, hH⟩ : ∃ H : Heap, H = s.heap := ⟨_, rfl⟩
  obtain ⟨locs, hlocs⟩ : ∃ locs : List Loc, locs = [] := ⟨_, rfl⟩
  have hS : va_S A s.heap H locs := by rw [hH, hlocs]; exact hS
  rw [← hH] at hP
  suffices hg : W p l e rm_L_tax s m aa below meth c H locs 0 0 (MQ below qq aa s 1 6 A) (F0 m 0 ls []) by subst hH; subst hlocs; exact hg
  unfold p_L_tax at h
  obtain ⟨v, hv, h⟩ := ok_bind h
  refine lv_aload_n hx hb dL_tax_0 rfl (lv_at hl 2 rfl) ?_
  refine lv_iconst (v := (0 : Int32)) hx hb dL_tax_1 (by decide) ?_
  refine lv_aload_n hx hb dL_tax_2 rfl (lv_at hl 0 rfl) ?_
  refine lv_iload_n hx hb dL_tax_3 rfl (lv_at hl 1 rfl) ?_
  refine cx_vi (w2 := fun (_ : Unit) => w_L_tax cy a0 b0 gg gvn gdn o) (w2x := fun (_ : Unit) => w_L_tax cy a0 b0 gg gvn gdn o) (As := [.int x1]) (rest := [.int (0 : Int32), .ref b0]) ⟨hx, hb, hml, hown, hts⟩ (c_X12_tax l dC dI cy z hl9 a0 gg gvn gdn x1 H.size v hv) (cwV 1 hts gL_tax_X12_tax rfl rfl rfl (by decide +kernel) ⟨Nat.le_of_ble_eq_true rfl, Nat.le_of_ble_eq_true rfl⟩) (va_recv hK hP (ci := 10) (q0 := 0) rfl rfl) cl_blindS (cl_preS hK hP hD hS hA hX [0, 1, 2, 3, 4, 5, 6] (by decide) rfl) hP hD hS hA [0, 1, 2, 3, 4, 5, 6] rfl rfl hl.1 rfl (lv_room (Nat.le_of_ble_eq_true rfl)) dL_tax_4 ⟨Nat.le_of_ble_eq_true rfl, Nat.le_of_ble_eq_true rfl⟩ (cells' := 1) (slots' := 6) ⟨rfl, rfl⟩ (fun _ => updR [0, 1, 2, 3, 4, 5, 6] rfl) (fun _ => updR [0, 1, 2, 3, 4, 5, 6] rfl) (fun E ce q9 u H locs hw hE hP hD hS hc1 hc2 hc3 => ?_) (fun r u H locs hw hP hD hS => ?_)
  · subst hw
    have hP : va_P (dC, dI) vwCl (w_L_tax cy a0 b0 gg gvn gdn o) H := hP
    have hD : va_D A (w_L_tax cy a0 b0 gg gvn gdn o) := hD
    rcases hE with ⟨rfl, hE⟩ | ⟨rfl, hE⟩
    · rw [hE] at h
      dsimp only [xb] at h
      rw [if_pos rfl] at h
      refine vx_catch (name := "java/util/NoSuchElementException") hown [] (⟨0, 9, 12, 21⟩ : ExceptionTableEntry) [] htb (fun z9 hz9 => by cases hz9) rfl (by decide) lk21 (va_Nw.use rfl hX.2.2.2.2.1) hc1 hc2 hc3 ?_
      refine lv_astore_n (lv' := [(3, .ref q9), (0, .ref (a0 0)), (1, .int x1), (2, .ref b0)]) hx hb dL_tax_12 rfl hl (by decide) rfl (fun ls hl => ?_)
      refine lv_iconst (v := (1 : Int32)) hx hb dL_tax_13 (by decide) ?_
      exact W.iret (v := (1 : Int32)) hx hb hr (fun t ht hW => by rw [hqq]; have hh := Option.some.inj h; exact ⟨⟨(1 : Int32), (v.2, o), rfl, ⟨fst_of hh, snd_of hh⟩, by rw [ht]; exact hP, va_K.moved hW.alike hK⟩, hS.F ht⟩) hS.2.2 dL_tax_14
    · rw [hE] at h
      dsimp only [xb] at h
      rw [if_neg (by decide), if_pos rfl] at h
      exact no_some h
  obtain ⟨hw1, hw2⟩ := hw
  subst hw2
  rw [← hw1] at h
  dsimp only [xb] at h
  have hP : va_P (dC, dI) vwCl (w_L_tax cy a0 b0 gg gvn gdn o) H := hP
  have hD : va_D A (w_L_tax cy a0 b0 gg gvn gdn o) := hD
  refine lv_i2l hx hb dL_tax_7 rfl ?_
  refine va_last hx hb hK hP hD hS 7 2 rfl rfl (ix_in (by decide : ix (0 : Int32) 1)) dL_tax_8 (fun H locs hP hD hS => ?_)
  have hP : va_P (dC, dI) vwCl (w_L_tax cy a0 b0 gg gvn gdn (vp_updL o (0 : Int32).toNatClampNeg r.toInt64)) H := hP
  have hD : va_D A (w_L_tax cy a0 b0 gg gvn gdn (vp_updL o (0 : Int32).toNatClampNeg r.toInt64)) := hD
  refine lv_goto (tgt := 15) hx hb dL_tax_9 (by decide) ?_
  refine lv_iconst (v := (0 : Int32)) hx hb dL_tax_15 (by decide) ?_
  exact W.iret (v := (0 : Int32)) hx hb hr (fun t ht hW => by rw [hqq]; have hh := Option.some.inj h; exact ⟨⟨(0 : Int32), (v.2, vp_updL o (0 : Int32).toNatClampNeg r.toInt64), rfl, ⟨fst_of hh, snd_of hh⟩, by rw [ht]; exact hP, va_K.moved hW.alike hK⟩, hS.F ht⟩) hS.2.2 dL_tax_16

abbrev w_L_sum (cy : Nat → ClassId) (a0 : Nat → Nat) (b0 : Nat) (gg : Int32 × Int32 × Int32 × Int32 × Int32 × Int32) (gvn : Int32 × Int32 × (Nat → Int32) × (Nat → Int32) × (Nat → Int32) × (Nat → Int32) × (Nat → Int32)) (gdn : Int32 × Int32 × (Nat → Int32) × (Nat → Int32) × (Nat → Int32) × (Nat → Int32)) (gcs : Int32 × Int32 × (Nat → Int32)) (o : Nat → Int64) : va_W := [(a0 0, .inr (10, [.ref (a0 1), .int (gg.1), .int (gg.2.1), .int (gg.2.2.1), .int (gg.2.2.2.1), .int (gg.2.2.2.2.1), .ref (a0 2), .ref (a0 17), .ref (a0 32), .int (gg.2.2.2.2.2), .ref (a0 47), .ref (a0 48), .ref (a0 49), .ref (a0 50), .ref (a0 68), .ref (a0 78), .ref (a0 80)])), (a0 2, .inr (7, [.int (gvn.1), .int (gvn.2.1), .ref (a0 3), .ref (a0 8), .ref (a0 12), .ref (a0 13), .ref (a0 14), .ref (a0 15), .ref (a0 16)])), (a0 3, .inr (2, [.int (gdn.1), .int (gdn.2.1), .ref (a0 4), .ref (a0 5), .ref (a0 6), .ref (a0 7)])), (a0 4, .inl (cy 1, 10, .inl (gdn.2.2.1))), (a0 5, .inl (cy 1, 10, .inl (gdn.2.2.2.1))), (a0 6, .inl (cy 1, 10, .inl (gdn.2.2.2.2.1))), (a0 7, .inl (cy 1, 50, .inl (gdn.2.2.2.2.2))), (a0 12, .inl (cy 1, 5, .inl (gvn.2.2.1))), (a0 13, .inl (cy 1, 5, .inl (gvn.2.2.2.1))), (a0 14, .inl (cy 1, 5, .inl (gvn.2.2.2.2.1))), (a0 15, .inl (cy 1, 5, .inl (gvn.2.2.2.2.2.1))), (a0 16, .inl (cy 1, 5, .inl (gvn.2.2.2.2.2.2))), (a0 78, .inr (0, [.int (gcs.1), .int (gcs.2.1), .ref (a0 79)])), (a0 79, .inl (cy 1, 6, .inl (gcs.2.2))), (b0, .inl (cy 2, 1, .inr (.inl (o))))]
abbrev rm_L_sum : Room := { frames := 8, cells := 3, slots := 18, locals := 138 }
def p_L_sum (gvn : Int32 × Int32 × (Nat → Int32) × (Nat → Int32) × (Nat → Int32) × (Nat → Int32) × (Nat → Int32)) (gdn : Int32 × Int32 × (Nat → Int32) × (Nat → Int32) × (Nat → Int32) × (Nat → Int32)) (gcs : Int32 × Int32 × (Nat → Int32)) (x1 : Int32) (x2 : Int32) (x3 : Int32) (o : Nat → Int64) : Option (Int32 × ((Int32 × Int32 × (Nat → Int32))) × (Nat → Int64)) := ((p_X12_sum gvn gdn gcs x1 x2 x3).bind fun v => xb v.1 (fun r => some ((0 : Int32), v.2, vp_updL o (0 : Int32).toNatClampNeg r.toInt64)) (fun k => if k = 1 then some ((1 : Int32), v.2, o) else if k = 2 then some ((2 : Int32), v.2, o) else none))
set_option maxHeartbeats 1000000 in
set_option maxRecDepth 100000 in
theorem c_L_sum (l : Launch) (dC : Nat → ClassId) (dI : Nat → Nat → Nat) (cy : Nat → ClassId) (z : Nat → Nat) (hl9 : l.stackTraces = false) (a0 : Nat → Nat) (b0 : Nat) (gg : Int32 × Int32 × Int32 × Int32 × Int32 × Int32) (gvn : Int32 × Int32 × (Nat → Int32) × (Nat → Int32) × (Nat → Int32) × (Nat → Int32) × (Nat → Int32)) (gdn : Int32 × Int32 × (Nat → Int32) × (Nat → Int32) × (Nat → Int32) × (Nat → Int32)) (gcs : Int32 × Int32 × (Nat → Int32)) (x1 : Int32) (x2 : Int32) (x3 : Int32) (o : Nat → Int64) (sz : Nat) (R0 : Int32 × ((Int32 × Int32 × (Nat → Int32))) × (Nat → Int64)) (h : p_L_sum gvn gdn gcs x1 x2 x3 o = some R0) : Met l yL_sum wsL_sum rm_L_sum (va_Pc [.ref (a0 0), .int x1, .int x2, .int x3, .ref b0] (prL dC dI cy z (w_L_sum cy a0 b0 gg gvn gdn gcs o) sz)) (va_Qi (fun (r : Int32) (u : ((Int32 × Int32 × (Nat → Int32))) × (Nat → Int64)) => r = R0.1 ∧ u = R0.2) (fun u t => poC dC dI cy (w_L_sum cy a0 b0 gg gvn gdn u.1 u.2) t) (va_A (w_L_sum cy a0 b0 gg gvn gdn gcs o) sz)) 3 18 (va_A (w_L_sum cy a0 b0 gg gvn gdn gcs o) sz) := by
  refine va_MetW (cc := cL_sum) (maxL := 6) (ret := (some .int)) (hh := [(0, 12, 15, 21), (0, 12, 19, 13)]) (by decide) rfl ?_
  intro p e s m aa below meth c s₁ B hml hv
  obtain ⟨haa, ⟨⟨hsz, hP, hK, hD0⟩, hX⟩, hN⟩ := hv
  have hx := B.exec
  have hb := B.bytes
  have hr := B.returns
  have hts := atoms_spec (ws := wsL_sum) B.pre
  have htb : c.exceptionTable.toList = tableOf [(0, 12, 15, 21), (0, 12, 19, 13)] := vx_table B (hts _ List.mem_cons_self)
  have hown : s.vm.findClass RL = some m.cls := findClass_of_methodNamed B.named
  have hlocks := B.notSynchronized
  subst hsz
  have hD := hD0.self (sz := s.heap.size)
  obtain ⟨qq, hqq⟩ : ∃ qq, qq = (va_Qi (fun (r : Int32) (u : ((Int32 × Int32 × (Nat → Int32))) × (Nat → Int64)) => r = R0.1 ∧ u = R0.2) (fun u t => poC dC dI cy (w_L_sum cy a0 b0 gg gvn gdn u.1 u.2) t) (va_A (w_L_sum cy a0 b0 gg gvn gdn gcs o) s.heap.size)) := ⟨_, rfl⟩
  rw [← hqq]
  generalize hAe : va_A (w_L_sum cy a0 b0 gg gvn gdn gcs o) s.heap.size = A at hD hqq hX ⊢
  have hA : ∀ q : Nat, s.heap.size ≤ q → A q := fun q h => by rw [← hAe]; exact Or.inr h
  have hS : va_S A s.heap s.heap [] := va_S.rf
  have hl := lv_entry ([.ref (a0 0), .int x1, .int x2, .int x3, .ref b0]) (n := 6) (Nat.le_of_ble_eq_true rfl)
  have hE : entryFrame m aa 6 = F0 m 0 ((lg_sl ([.ref (a0 0), .int x1, .int x2, .int x3, .ref b0]) ++ List.replicate (6 - (lg_sl ([.ref (a0 0), .int x1, .int x2, .int x3, .ref b0])).length) Slot.unset).toArray) [] := by rw [haa]; exact lg_entry_eq m _ 6
  refine W.eq hE ?_
  generalize (lg_sl ([.ref (a0 0), .int x1, .int x2, .int x3, .ref b0]) ++ List.replicate (6 - (lg_sl ([.ref (a0 0), .int x1, .int x2, .int x3, .ref b0])).length) Slot.unset).toArray = ls at hl ⊢
  have hl : lv_has ls 6 [(0, .ref (a0 0)), (1, .int x1), (2, .int x2), (3, .int x3), (4, .ref b0)] := hl
  change W p l e rm_L_sum s m aa below meth c s.heap [] 0 0 (MQ below qq aa s 3 18 A) (F0 m 0 ls [])
  have lk21 := hts (.classLink RL 21 "java/util/NoSuchElementException") (by decide +kernel)
  have lk13 := hts (.classLink RL 13 "java/lang/IllegalArgumentException") (by decide +kernel)
  obtain ⟨H, hH⟩ : ∃ H : Heap, H = s.heap := ⟨_, rfl⟩
  obtain ⟨locs, hlocs⟩ : ∃ locs : List Loc, locs = [] := ⟨_, rfl⟩
  have hS : va_S A s.heap H locs := by rw [hH, hlocs]; exact hS
  rw [← hH] at hP
  suffices hg : W p l e rm_L_sum s m aa below meth c H locs 0 0 (MQ below qq aa s 3 18 A) (F0 m 0 ls []) by subst hH; subst hlocs; exact hg
  unfold p_L_sum at h
  obtain ⟨v, hv, h⟩ := ok_bind h
  refine lv_aload hx hb dL_sum_0 (lv_at hl 4 rfl) ?_
  refine lv_iconst (v := (0 : Int32)) hx hb dL_sum_2 (by decide) ?_
  refine lv_aload_n hx hb dL_sum_3 rfl (lv_at hl 0 rfl) ?_
  refine lv_iload_n hx hb dL_sum_4 rfl (lv_at hl 1 rfl) ?_
  refine lv_iload_n hx hb dL_sum_5 rfl (lv_at hl 2 rfl) ?_
  refine lv_iload_n hx hb dL_sum_6 rfl (lv_at hl 3 rfl) ?_
  refine cx_vi (w2 := fun (u : (Int32 × Int32 × (Nat → Int32))) => w_L_sum cy a0 b0 gg gvn gdn u o) (w2x := fun (u : (Int32 × Int32 × (Nat → Int32))) => w_L_sum cy a0 b0 gg gvn gdn u o) (As := [.int x1, .int x2, .int x3]) (rest := [.int (0 : Int32), .ref b0]) ⟨hx, hb, hml, hown, hts⟩ (c_X12_sum l dC dI cy z hl9 a0 gg gvn gdn gcs x1 x2 x3 H.size v hv) (cwV 3 hts gL_sum_X12_sum rfl rfl rfl (by decide +kernel) ⟨Nat.le_of_ble_eq_true rfl, Nat.le_of_ble_eq_true rfl⟩) (va_recv hK hP (ci := 10) (q0 := 0) rfl rfl) cl_blindS (cl_preS hK hP hD hS hA hX [0, 1, 2, 3, 4, 5, 6, 7, 8, 9, 10, 11, 12, 13] (by decide) rfl) hP hD hS hA [0, 1, 2, 3, 4, 5, 6, 7, 8, 9, 10, 11, 12, 13] rfl rfl hl.1 rfl (lv_room (Nat.le_of_ble_eq_true rfl)) dL_sum_7 ⟨Nat.le_of_ble_eq_true rfl, Nat.le_of_ble_eq_true rfl⟩ (cells' := 3) (slots' := 18) ⟨rfl, rfl⟩ (fun _ => updM [0, 1, 2, 3, 4, 5, 6, 7, 8, 9, 10, 11, 12, 13] [14] [(b0, .inl (cy 2, 1, .inr (.inl (o))))] 15 rfl rfl rfl rfl rfl (by decide +kernel) (by decide +kernel) rfl) (fun _ => updM [0, 1, 2, 3, 4, 5, 6, 7, 8, 9, 10, 11, 12, 13] [14] [(b0, .inl (cy 2, 1, .inr (.inl (o))))] 15 rfl rfl rfl rfl rfl (by decide +kernel) (by decide +kernel) rfl) (fun E ce q9 u H locs hw hE hP hD hS hc1 hc2 hc3 => ?_) (fun r u H locs hw hP hD hS => ?_)
  · subst hw
    have hP : va_P (dC, dI) vwCl (w_L_sum cy a0 b0 gg gvn gdn v.2 o) H := hP
    have hD : va_D A (w_L_sum cy a0 b0 gg gvn gdn v.2 o) := hD
    rcases hE with ⟨rfl, hE⟩ | ⟨rfl, hE⟩
    · rw [hE] at h
      dsimp only [xb] at h
      rw [if_pos rfl] at h
      refine vx_catch (name := "java/util/NoSuchElementException") hown [] (⟨0, 12, 15, 21⟩ : ExceptionTableEntry) [(⟨0, 12, 19, 13⟩ : ExceptionTableEntry)] htb (fun z9 hz9 => by cases hz9) rfl (by decide) lk21 (va_Nw.use rfl hX.2.2.2.2.1) hc1 hc2 hc3 ?_
      refine lv_astore (lv' := [(5, .ref q9), (0, .ref (a0 0)), (1, .int x1), (2, .int x2), (3, .int x3), (4, .ref b0)]) hx hb dL_sum_15 hl (by decide) rfl (fun ls hl => ?_)
      refine lv_iconst (v := (1 : Int32)) hx hb dL_sum_17 (by decide) ?_
      exact W.iret (v := (1 : Int32)) hx hb hr (fun t ht hW => by rw [hqq]; have hh := Option.some.inj h; exact ⟨⟨(1 : Int32), (v.2, o), rfl, ⟨fst_of hh, snd_of hh⟩, by rw [ht]; exact hP, va_K.moved hW.alike hK⟩, hS.F ht⟩) hS.2.2 dL_sum_18
    · rw [hE] at h
      dsimp only [xb] at h
      rw [if_neg (by decide), if_pos rfl] at h
      refine vx_catch (name := "java/lang/IllegalArgumentException") hown [(⟨0, 12, 15, 21⟩ : ExceptionTableEntry)] (⟨0, 12, 19, 13⟩ : ExceptionTableEntry) [] htb (fun z9 hz9 => by cases List.mem_singleton.mp hz9; exact Or.inr ⟨by decide, "java/util/NoSuchElementException", lk21, hN⟩) rfl (by decide) lk13 (va_Nw.use rfl hX.2.2.2.2.2.1) hc1 hc2 hc3 ?_
      refine lv_astore (lv' := [(5, .ref q9), (0, .ref (a0 0)), (1, .int x1), (2, .int x2), (3, .int x3), (4, .ref b0)]) hx hb dL_sum_19 hl (by decide) rfl (fun ls hl => ?_)
      refine lv_iconst (v := (2 : Int32)) hx hb dL_sum_21 (by decide) ?_
      exact W.iret (v := (2 : Int32)) hx hb hr (fun t ht hW => by rw [hqq]; have hh := Option.some.inj h; exact ⟨⟨(2 : Int32), (v.2, o), rfl, ⟨fst_of hh, snd_of hh⟩, by rw [ht]; exact hP, va_K.moved hW.alike hK⟩, hS.F ht⟩) hS.2.2 dL_sum_22
  obtain ⟨hw1, hw2⟩ := hw
  subst hw2
  rw [← hw1] at h
  dsimp only [xb] at h
  have hP : va_P (dC, dI) vwCl (w_L_sum cy a0 b0 gg gvn gdn v.2 o) H := hP
  have hD : va_D A (w_L_sum cy a0 b0 gg gvn gdn v.2 o) := hD
  refine lv_i2l hx hb dL_sum_10 rfl ?_
  refine va_last hx hb hK hP hD hS 14 2 rfl rfl (ix_in (by decide : ix (0 : Int32) 1)) dL_sum_11 (fun H locs hP hD hS => ?_)
  have hP : va_P (dC, dI) vwCl (w_L_sum cy a0 b0 gg gvn gdn v.2 (vp_updL o (0 : Int32).toNatClampNeg r.toInt64)) H := hP
  have hD : va_D A (w_L_sum cy a0 b0 gg gvn gdn v.2 (vp_updL o (0 : Int32).toNatClampNeg r.toInt64)) := hD
  refine lv_goto (tgt := 23) hx hb dL_sum_12 (by decide) ?_
  refine lv_iconst (v := (0 : Int32)) hx hb dL_sum_23 (by decide) ?_
  exact W.iret (v := (0 : Int32)) hx hb hr (fun t ht hW => by rw [hqq]; have hh := Option.some.inj h; exact ⟨⟨(0 : Int32), (v.2, vp_updL o (0 : Int32).toNatClampNeg r.toInt64), rfl, ⟨fst_of hh, snd_of hh⟩, by rw [ht]; exact hP, va_K.moved hW.alike hK⟩, hS.F ht⟩) hS.2.2 dL_sum_24
