/-! constructors: new arrays of the known array classes; grids -/
theorem aoa_kind {vm vm' : Vm} (h : vm.Alike vm') (c : ClassId) : (vm'.classes[c]?).map Class.kind = (vm.classes[c]?).map Class.kind := by
  cases hc : vm.classes[c]? with
  | some k =>
    obtain ⟨k', h1, h2⟩ := h.2.2 c k hc
    rw [h1, h2]
    rfl
  | none =>
    have h3 : vm.classes.size ≤ c := Array.getElem?_eq_none_iff.mp hc
    rw [Array.getElem?_eq_none_iff.mpr (by rw [h.2.1]; exact h3)]
def poI (dC : Nat → ClassId) (dI : Nat → Nat → Nat) (cy : Nat → ClassId) (A0 : Nat → Prop) (w1 : va_W) (t : State) : Prop := va_P (dC, dI) vwCl w1 t.heap ∧ va_K (dC, dI) vwCl (tyA cy) t ∧ va_D A0 w1
theorem vp_ext {c : ClassId} {n : Nat} {f g : Nat → Option Nat} (h : ∀ j, j < n → f j = g j) : vp_cell c (n, .inr (.inr (.inr (.inr f)))) = vp_cell c (n, .inr (.inr (.inr (.inr g)))) := by
  rw [vp_cell_q, vp_cell_q]
  unfold arrV
  have e : (fun j : Fin n => va_rf (f j.val)) = (fun j : Fin n => va_rf (g j.val)) := funext fun j => by rw [h j.val j.isLt]
  rw [e]
theorem va_P_grid {D : va_G} {cl : List vw_C} {ws w2 : va_W} {a n : Nat} {c : ClassId} {f g : Nat → Option Nat} {H : Heap} (hP : va_P D cl (ws ++ (a, .inl (c, n, .inr (.inr (.inr (.inr f))))) :: w2) H) (h : ∀ j, j < n → f j = g j) : va_P D cl (ws ++ (a, .inl (c, n, .inr (.inr (.inr (.inr g))))) :: w2) H := by
  intro k q hq
  rcases Nat.lt_trichotomy k ws.length with hk | hk | hk
  · rw [List.getElem?_append_left hk] at hq
    exact hP k q (by rw [List.getElem?_append_left hk]; exact hq)
  · subst hk
    rw [List.getElem?_append_right (Nat.le_refl _), Nat.sub_self] at hq
    have e : q = (a, .inl (c, n, .inr (.inr (.inr (.inr g))))) := (Option.some.inj hq).symm
    subst e
    have h1 := hP ws.length _ (by rw [List.getElem?_append_right (Nat.le_refl _), Nat.sub_self]; rfl)
    show H[a]? = some (vp_cell c (n, .inr (.inr (.inr (.inr g)))))
    rw [← vp_ext h]
    exact h1
  · have hle : ws.length ≤ k := Nat.le_of_lt hk
    rw [List.getElem?_append_right hle] at hq
    obtain ⟨j, hj⟩ : ∃ j, k - ws.length = j + 1 := ⟨k - ws.length - 1, by omega⟩
    rw [hj] at hq
    exact hP k q (by rw [List.getElem?_append_right hle, hj]; exact hq)
section INI
variable {p : Program} {l : Launch} {e : Env} {R : Room} {s : State} {m : MethodId} {args : Array Value} {below : List Frame} {meth : Method} {c : Code} {H : Heap} {locs : List Loc} {cells slots : Nat} {Q : State → Prop}
variable {cc : ByteArray} {pc : Nat} {ls : Array Slot} {rest : List Value} {dC : Nat → ClassId} {dI : Nat → Nat → Nat} {cy : Nat → ClassId} {A : Nat → Prop} {ws : va_W} {cells' slots' : Nat}
set_option maxHeartbeats 100000 in
theorem nw_i (hexec : p.tables.exec = Jvm.exec) (hb : c.code = cc) (harr : (Cond.arrayClass .int).before args s = true) (hK : va_K (dC, dI) vwCl (tyA cy) s) (hP : va_P (dC, dI) vwCl ws H) (hD : va_D A ws) (hS : va_S A s.heap H locs) (hA : ∀ q, s.heap.size ≤ q → A q) {n : Int32} (N' : Nat) (hn : ¬ n < 0) (hN : n.toNatClampNeg = N') (hbytes : N' * componentBytes .int ≤ 536870912) (hcells : cells + 1 ≤ R.cells) (hslots : slots + N' ≤ R.slots) (hcc : cells + 1 = cells' ∧ slots + N' = slots') (hdg : decode cc pc = .ok (.newarray .int, 2))
    (kk : ∀ (q : Nat) (H1 : Heap), va_P (dC, dI) vwCl (ws ++ [(q, .inl (cy 1, N', .inl (fun _ => 0)))]) H1 → va_D A (ws ++ [(q, .inl (cy 1, N', .inl (fun _ => 0)))]) → va_S A s.heap H1 locs → W p l e R s m args below meth c H1 locs cells' slots' Q (F0 m (pc + 2) ls (.ref q :: rest))) : W p l e R s m args below meth c H locs cells slots Q (F0 m pc ls (.int n :: rest)) := by
  obtain ⟨rfl, rfl⟩ := hcc
  refine va_newa (atype := .int) (ty := .int) (a0 := (N', .inl (fun _ => 0))) hexec hb harr rfl hK hP hD hS hA (fun cA => rfl) hn hN hbytes hcells hslots hdg (fun q cA H1 hK1 hP1 hD1 hS1 => ?_)
  have h1 : s.vm.findClass ("[" ++ FieldType.int.toString) = some cA := (hK1.2 5 (cA, .int) rfl).2
  have h2 : s.vm.findClass ("[" ++ FieldType.int.toString) = some (cy 1) := (hK.2 1 (cy 1, .int) rfl).2
  have e9 : cA = cy 1 := Option.some.inj (h1.symm.trans h2)
  subst e9
  exact kk q H1 hP1 hD1 hS1
set_option maxHeartbeats 100000 in
theorem nw_b (hexec : p.tables.exec = Jvm.exec) (hb : c.code = cc) (harr : (Cond.arrayClass .byte).before args s = true) (hK : va_K (dC, dI) vwCl (tyA cy) s) (hP : va_P (dC, dI) vwCl ws H) (hD : va_D A ws) (hS : va_S A s.heap H locs) (hA : ∀ q, s.heap.size ≤ q → A q) {n : Int32} (N' : Nat) (hn : ¬ n < 0) (hN : n.toNatClampNeg = N') (hbytes : N' * componentBytes .byte ≤ 536870912) (hcells : cells + 1 ≤ R.cells) (hslots : slots + N' ≤ R.slots) (hcc : cells + 1 = cells' ∧ slots + N' = slots') (hdg : decode cc pc = .ok (.newarray .byte, 2))
    (kk : ∀ (q : Nat) (H1 : Heap), va_P (dC, dI) vwCl (ws ++ [(q, .inl (cy 0, N', .inl (fun _ => 0)))]) H1 → va_D A (ws ++ [(q, .inl (cy 0, N', .inl (fun _ => 0)))]) → va_S A s.heap H1 locs → W p l e R s m args below meth c H1 locs cells' slots' Q (F0 m (pc + 2) ls (.ref q :: rest))) : W p l e R s m args below meth c H locs cells slots Q (F0 m pc ls (.int n :: rest)) := by
  obtain ⟨rfl, rfl⟩ := hcc
  refine va_newa (atype := .byte) (ty := .byte) (a0 := (N', .inl (fun _ => 0))) hexec hb harr rfl hK hP hD hS hA (fun cA => rfl) hn hN hbytes hcells hslots hdg (fun q cA H1 hK1 hP1 hD1 hS1 => ?_)
  have h1 : s.vm.findClass ("[" ++ FieldType.byte.toString) = some cA := (hK1.2 5 (cA, .byte) rfl).2
  have h2 : s.vm.findClass ("[" ++ FieldType.byte.toString) = some (cy 0) := (hK.2 0 (cy 0, .byte) rfl).2
  have e9 : cA = cy 0 := Option.some.inj (h1.symm.trans h2)
  subst e9
  exact kk q H1 hP1 hD1 hS1
set_option maxHeartbeats 100000 in
theorem nw_j (hexec : p.tables.exec = Jvm.exec) (hb : c.code = cc) (harr : (Cond.arrayClass .long).before args s = true) (hK : va_K (dC, dI) vwCl (tyA cy) s) (hP : va_P (dC, dI) vwCl ws H) (hD : va_D A ws) (hS : va_S A s.heap H locs) (hA : ∀ q, s.heap.size ≤ q → A q) {n : Int32} (N' : Nat) (hn : ¬ n < 0) (hN : n.toNatClampNeg = N') (hbytes : N' * componentBytes .long ≤ 536870912) (hcells : cells + 1 ≤ R.cells) (hslots : slots + N' ≤ R.slots) (hcc : cells + 1 = cells' ∧ slots + N' = slots') (hdg : decode cc pc = .ok (.newarray .long, 2))
    (kk : ∀ (q : Nat) (H1 : Heap), va_P (dC, dI) vwCl (ws ++ [(q, .inl (cy 2, N', .inr (.inl (fun _ => 0))))]) H1 → va_D A (ws ++ [(q, .inl (cy 2, N', .inr (.inl (fun _ => 0))))]) → va_S A s.heap H1 locs → W p l e R s m args below meth c H1 locs cells' slots' Q (F0 m (pc + 2) ls (.ref q :: rest))) : W p l e R s m args below meth c H locs cells slots Q (F0 m pc ls (.int n :: rest)) := by
  obtain ⟨rfl, rfl⟩ := hcc
  refine va_newa (atype := .long) (ty := .long) (a0 := (N', .inr (.inl (fun _ => 0)))) hexec hb harr rfl hK hP hD hS hA (fun cA => rfl) hn hN hbytes hcells hslots hdg (fun q cA H1 hK1 hP1 hD1 hS1 => ?_)
  have h1 : s.vm.findClass ("[" ++ FieldType.long.toString) = some cA := (hK1.2 5 (cA, .long) rfl).2
  have h2 : s.vm.findClass ("[" ++ FieldType.long.toString) = some (cy 2) := (hK.2 2 (cy 2, .long) rfl).2
  have e9 : cA = cy 2 := Option.some.inj (h1.symm.trans h2)
  subst e9
  exact kk q H1 hP1 hD1 hS1
end INI
theorem aoa_find {vm vm' : Vm} (h : vm.Alike vm') (f : Class → Bool) (hf : ∀ k k' : Class, k.kind = k'.kind → f k = f k') : vm'.classes.findIdx? f = vm.classes.findIdx? f := by
  have hz := h.2.1
  have hk : ∀ (i : Nat) (h1 : i < vm'.classes.size) (h2 : i < vm.classes.size), f vm'.classes[i] = f vm.classes[i] := by
    intro i h1 h2
    apply hf
    have := aoa_kind h i
    rw [Array.getElem?_eq_getElem h1, Array.getElem?_eq_getElem h2] at this
    exact Option.some.inj this
  have hm : vm'.classes.map f = vm.classes.map f := by
    apply Array.ext
    · simp [hz]
    · intro i h1 h2
      simp only [Array.getElem_map]
      exact hk i (by simpa using h1) (by simpa using h2)
  have e1 : ∀ a : Array Class, a.findIdx? f = (a.map f).findIdx? id := by
    intro a
    rw [Array.findIdx?_map]
    rfl
  rw [e1, e1, hm]
theorem aoa_map {vm vm' : Vm} (h : vm.Alike vm') (c : ClassId) (f : Kind → Bool) : (vm'.classes[c]?).map (fun k => f k.kind) = (vm.classes[c]?).map (fun k => f k.kind) := by
  have hk := congrArg (Option.map f) (aoa_kind h c)
  rw [Option.map_map, Option.map_map] at hk
  exact hk
theorem va_AOA.warm {ty : FieldType} {s U : State} (hW : s.WarmedH U.vm) (h : va_AOA ty s) : va_AOA ty U := by
  have ha := hW.alike
  unfold va_AOA Cond.before Cond.holds at h ⊢
  simp only [Cond.value] at h ⊢
  refine Eq.trans ?_ h
  simp only [ha.findClass]
  congr 1
  congr 1
  funext comp
  rw [aoa_find ha _ (fun k k' e => by rw [e])]
  congr 1
  funext c
  exact aoa_map ha c (fun kd => match kd with
    | Kind.array _ t => decide (t = ty.array) && decide (s.vm.findClass ("[" ++ ty.array.toString) = some c)
    | _ => false)
/-- a start that makes arrays of arrays -/
def prI (dC : Nat → ClassId) (dI : Nat → Nat → Nat) (cy : Nat → ClassId) (ws : va_W) (sz : Nat) (U : State) : Prop := prC dC dI cy ws sz U ∧ va_AOA .int U ∧ va_AOA .long U
def prSI (dC : Nat → ClassId) (dI : Nat → Nat → Nat) (cy : Nat → ClassId) (z : Nat → Nat) (ws : va_W) (sz : Nat) (U : State) : Prop := prS dC dI cy z ws sz U ∧ va_AOA .int U ∧ va_AOA .long U
section INJ
variable {p : Program} {l : Launch} {e : Env} {R : Room} {s : State} {m : MethodId} {args : Array Value} {below : List Frame} {meth : Method} {c : Code} {H : Heap} {locs : List Loc} {cells slots : Nat} {Q : State → Prop}
variable {cc : ByteArray} {pc : Nat} {ls : Array Slot} {rest : List Value} {dC : Nat → ClassId} {dI : Nat → Nat → Nat} {cy : Nat → ClassId} {z : Nat → Nat} {A : Nat → Prop} {ws wc : va_W} {cells' slots' : Nat} {sz : Nat} {av : List Value}
theorem cl_blindI : FrameBlind (va_Pc av (prI dC dI cy wc sz)) := fun a U g mk q => ⟨(cl_blind a U g mk ⟨q.1, q.2.1⟩).1, (cl_blind a U g mk ⟨q.1, q.2.1⟩).2, q.2.2⟩
theorem cl_preI (hK : va_K (dC, dI) vwCl (tyA cy) s) (hP : va_P (dC, dI) vwCl ws H) (hD : va_D A ws) (hi : va_AOA .int s) (hj : va_AOA .long s) (is : List Nat) (hnd : va_nd is = true) (hC : is.map (fun i => ws[i]?) = wc.map some) : ∀ U : State, U.heap = H → s.WarmedH U.vm → va_Pc av (prI dC dI cy wc H.size) av.toArray U := fun U hU hW =>
  ⟨rfl, (cl_pre (av := av) hK hP hD is hnd hC U hU hW).2, hi.warm hW, hj.warm hW⟩
theorem cl_blindSI : FrameBlind (va_Pc av (prSI dC dI cy z wc sz)) := fun a U g mk q => ⟨(cl_blindS a U g mk ⟨q.1, q.2.1⟩).1, (cl_blindS a U g mk ⟨q.1, q.2.1⟩).2, q.2.2⟩
theorem cl_preSI (hK : va_K (dC, dI) vwCl (tyA cy) s) (hP : va_P (dC, dI) vwCl ws H) (hD : va_D A ws) (hS : va_S A s.heap H locs) (hA : ∀ q, s.heap.size ≤ q → A q) (hX : Sx z A s) (hi : va_AOA .int s) (hj : va_AOA .long s) (is : List Nat) (hnd : va_nd is = true) (hC : is.map (fun i => ws[i]?) = wc.map some) : ∀ U : State, U.heap = H → s.WarmedH U.vm → va_Pc av (prSI dC dI cy z wc H.size) av.toArray U := fun U hU hW =>
  ⟨rfl, (cl_preS (av := av) hK hP hD hS hA hX is hnd hC U hU hW).2, hi.warm hW, hj.warm hW⟩
theorem pl_rows {l : List Nat} {f : Nat → va_E} {v : va_E} : va_pl ([] ++ l) (vr_up f l v) = l.map (fun a => (a, v)) := by
  rw [List.nil_append]
  unfold va_pl
  exact List.map_congr_left fun a ha => by rw [vr_up_in ha]
set_option maxHeartbeats 200000 in
theorem nw_gi (hexec : p.tables.exec = Jvm.exec) (hb : c.code = cc) {own : String} {index : Nat} (hown : s.vm.findClass own = some m.cls) (hclink : (Cond.classLink own index "[[I").before args s = true) (hover : va_AOA .int s) (harr : (Cond.arrayClass .int).before args s = true) (hK : va_K (dC, dI) vwCl (tyA cy) s) (hP : va_P (dC, dI) vwCl ws H) (hD : va_D A ws) (hS : va_S A s.heap H locs) (hA : ∀ q, s.heap.size ≤ q → A q) {n k : Int32} (N' K' : Nat) (hn : ¬ n < 0) (hk : ¬ k < 0) (hN : n.toNatClampNeg = N') (hM : k.toNatClampNeg = K') (hb1 : N' * 4 ≤ 536870912) (hb2 : K' * componentBytes .int ≤ 536870912) (hb3 : K' ≤ 536870912) (hcells : cells + (1 + N') ≤ R.cells) (hslots : slots + (N' + N' * K') ≤ R.slots) (hcc : cells + 1 + N' = cells' ∧ slots + N' + N' * K' = slots') (hdg : decode cc pc = .ok (.multianewarray index 2, 4))
    (kk : ∀ (q : Nat) (r : Nat → Nat) (H1 : Heap), va_P (dC, dI) vwCl ((ws ++ [(q, .inl (cy 3, N', .inr (.inr (.inr (.inr (fun i => if i < N' then some (r i) else none))))))]) ++ ((List.range N').map r).map (fun a => (a, .inl (cy 1, K', .inl (fun _ => 0))))) H1 → va_D A ((ws ++ [(q, .inl (cy 3, N', .inr (.inr (.inr (.inr (fun i => if i < N' then some (r i) else none))))))]) ++ ((List.range N').map r).map (fun a => (a, .inl (cy 1, K', .inl (fun _ => 0))))) → va_S A s.heap H1 locs → W p l e R s m args below meth c H1 locs cells' slots' Q (F0 m (pc + 4) ls (.ref q :: rest))) : W p l e R s m args below meth c H locs cells slots Q (F0 m pc ls (.int k :: .int n :: rest)) := by
  obtain ⟨rfl, rfl⟩ := hcc
  have hP0 : va_P (dC, dI) vwCl (ws ++ va_pl [] (fun _ => .inl (cy 0, 0, .inl (fun _ => 0)))) H := by rw [show va_pl [] (fun _ => (.inl (cy 0, 0, .inl (fun _ => 0)) : va_E)) = [] from rfl, List.append_nil]; exact hP
  have hD0 : va_D A (ws ++ va_pl [] (fun _ => .inl (cy 0, 0, .inl (fun _ => 0)))) := by rw [show va_pl [] (fun _ => (.inl (cy 0, 0, .inl (fun _ => 0)) : va_E)) = [] from rfl, List.append_nil]; exact hD
  have hcy : s.vm.findClass (FieldType.array .int).toString = some (cy 1) := (hK.2 1 (cy 1, .int) rfl).2
  refine va_mna (ty := .int) (z := (K', .inl (fun _ => 0))) hexec hb hown hclink hover harr hcy hK hP0 hD0 hS hA hn hk hN hM hb1 hb2 hb3 rfl rfl hcells hslots (fun c9 => arrV_new c9 K' _) hdg (fun q r cA H1 _ _ hK1 hP1 hD1 hS1 => ?_)
  have h1 : s.vm.findClass ("[" ++ (FieldType.array .int).toString) = some cA := (hK1.2 5 (cA, .array .int) rfl).2
  have h2 : s.vm.findClass ("[" ++ (FieldType.array .int).toString) = some (cy 3) := (hK.2 3 (cy 3, .array .int) rfl).2
  have e9 : cA = cy 3 := Option.some.inj (h1.symm.trans h2)
  subst e9
  rw [pl_rows] at hP1 hD1
  exact kk q r H1 hP1 hD1 hS1
set_option maxHeartbeats 200000 in
theorem nw_gj (hexec : p.tables.exec = Jvm.exec) (hb : c.code = cc) {own : String} {index : Nat} (hown : s.vm.findClass own = some m.cls) (hclink : (Cond.classLink own index "[[J").before args s = true) (hover : va_AOA .long s) (harr : (Cond.arrayClass .long).before args s = true) (hK : va_K (dC, dI) vwCl (tyA cy) s) (hP : va_P (dC, dI) vwCl ws H) (hD : va_D A ws) (hS : va_S A s.heap H locs) (hA : ∀ q, s.heap.size ≤ q → A q) {n k : Int32} (N' K' : Nat) (hn : ¬ n < 0) (hk : ¬ k < 0) (hN : n.toNatClampNeg = N') (hM : k.toNatClampNeg = K') (hb1 : N' * 4 ≤ 536870912) (hb2 : K' * componentBytes .long ≤ 536870912) (hb3 : K' ≤ 536870912) (hcells : cells + (1 + N') ≤ R.cells) (hslots : slots + (N' + N' * K') ≤ R.slots) (hcc : cells + 1 + N' = cells' ∧ slots + N' + N' * K' = slots') (hdg : decode cc pc = .ok (.multianewarray index 2, 4))
    (kk : ∀ (q : Nat) (r : Nat → Nat) (H1 : Heap), va_P (dC, dI) vwCl ((ws ++ [(q, .inl (cy 4, N', .inr (.inr (.inr (.inr (fun i => if i < N' then some (r i) else none))))))]) ++ ((List.range N').map r).map (fun a => (a, .inl (cy 2, K', .inr (.inl (fun _ => 0)))))) H1 → va_D A ((ws ++ [(q, .inl (cy 4, N', .inr (.inr (.inr (.inr (fun i => if i < N' then some (r i) else none))))))]) ++ ((List.range N').map r).map (fun a => (a, .inl (cy 2, K', .inr (.inl (fun _ => 0)))))) → va_S A s.heap H1 locs → W p l e R s m args below meth c H1 locs cells' slots' Q (F0 m (pc + 4) ls (.ref q :: rest))) : W p l e R s m args below meth c H locs cells slots Q (F0 m pc ls (.int k :: .int n :: rest)) := by
  obtain ⟨rfl, rfl⟩ := hcc
  have hP0 : va_P (dC, dI) vwCl (ws ++ va_pl [] (fun _ => .inl (cy 0, 0, .inl (fun _ => 0)))) H := by rw [show va_pl [] (fun _ => (.inl (cy 0, 0, .inl (fun _ => 0)) : va_E)) = [] from rfl, List.append_nil]; exact hP
  have hD0 : va_D A (ws ++ va_pl [] (fun _ => .inl (cy 0, 0, .inl (fun _ => 0)))) := by rw [show va_pl [] (fun _ => (.inl (cy 0, 0, .inl (fun _ => 0)) : va_E)) = [] from rfl, List.append_nil]; exact hD
  have hcy : s.vm.findClass (FieldType.array .long).toString = some (cy 2) := (hK.2 2 (cy 2, .long) rfl).2
  refine va_mna (ty := .long) (z := (K', .inr (.inl (fun _ => 0)))) hexec hb hown hclink hover harr hcy hK hP0 hD0 hS hA hn hk hN hM hb1 hb2 hb3 rfl rfl hcells hslots (fun c9 => arrV_new c9 K' _) hdg (fun q r cA H1 _ _ hK1 hP1 hD1 hS1 => ?_)
  have h1 : s.vm.findClass ("[" ++ (FieldType.array .long).toString) = some cA := (hK1.2 5 (cA, .array .long) rfl).2
  have h2 : s.vm.findClass ("[" ++ (FieldType.array .long).toString) = some (cy 4) := (hK.2 4 (cy 4, .array .long) rfl).2
  have e9 : cA = cy 4 := Option.some.inj (h1.symm.trans h2)
  subst e9
  rw [pl_rows] at hP1 hD1
  exact kk q r H1 hP1 hD1 hS1
end INJ
