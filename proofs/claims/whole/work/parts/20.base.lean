/-! what all contracts share: the pure guards, the worlds of a call -/
/-- an index that lies in a row of n places -/
theorem ix_in {i : Int32} {n : Nat} (h : ix i n) : vp_in i n := vp_in_iff.mpr h
theorem ok_if {α : Type} {c : Prop} [Decidable c] {a : Option α} {r : α} (h : (if c then a else none) = some r) : c ∧ a = some r := by
  by_cases hc : c
  · rw [if_pos hc] at h; exact ⟨hc, h⟩
  · rw [if_neg hc] at h; cases h
theorem ok_bind {α β : Type} {o : Option α} {f : α → Option β} {r : β} (h : o.bind f = some r) : ∃ v, o = some v ∧ f v = some r := Option.bind_eq_some_iff.mp h
theorem no_some {α : Type} {P : Prop} {r : α} (h : (none : Option α) = some r) : P := by cases h
/-- 0 or 1: what a boolean holds -/
theorem isZ_nar {v : Int32} (h : isZ v) : narrow .boolean (.int v) = .int v := by rcases h with rfl | rfl <;> rfl
theorem isZ_fit {v : Int32} (h : isZ v) : fits .boolean (.int v) = true := by rcases h with rfl | rfl <;> rfl
abbrev tyA (cy : Nat → ClassId) : List (ClassId × FieldType) := [(cy 0, .byte), (cy 1, .int), (cy 2, .long), (cy 3, .array .int), (cy 4, .array .long)]
/-- a method's start: the world ws, in a heap of sz cells -/
def prC (dC : Nat → ClassId) (dI : Nat → Nat → Nat) (cy : Nat → ClassId) (ws : va_W) (sz : Nat) (U : State) : Prop := U.heap.size = sz ∧ va_P (dC, dI) vwCl ws U.heap ∧ va_K (dC, dI) vwCl (tyA cy) U ∧ va_D (fun _ => True) ws
/-- its end: the world w1 -/
def poC (dC : Nat → ClassId) (dI : Nat → Nat → Nat) (cy : Nat → ClassId) (w1 : va_W) (t : State) : Prop := va_P (dC, dI) vwCl w1 t.heap ∧ va_K (dC, dI) vwCl (tyA cy) t
theorem va_D_fst {A : Nat → Prop} {ws w2 : va_W} (hD : va_D A ws) (hF : w2.map Prod.fst = ws.map Prod.fst) : va_D A w2 := by
  have at' : ∀ (k : Nat) (q : Nat × va_E), w2[k]? = some q → ∃ e : va_E, ws[k]? = some (q.1, e) := by
    intro k q hq
    have h1 : (w2.map Prod.fst)[k]? = some q.1 := by rw [List.getElem?_map, hq]; rfl
    rw [hF, List.getElem?_map] at h1
    cases hw : ws[k]? with
    | none => rw [hw] at h1; cases h1
    | some z => rw [hw] at h1; have h2 : z.1 = q.1 := Option.some.inj h1; exact ⟨z.2, by rw [← h2]⟩
  refine ⟨fun i j a b ha hb hab => ?_, fun k q hq => ?_⟩
  · obtain ⟨e1, h1⟩ := at' i a ha
    obtain ⟨e2, h2⟩ := at' j b hb
    exact hD.1 i j _ _ h1 h2 hab
  · obtain ⟨e1, h1⟩ := at' k q hq
    exact hD.2 k (q.1, e1) h1
/-- what a call makes of the caller's world ws, the callee's part wc of it having become w1 -/
def UpdW (ws wc w1 w2 : va_W) : Prop := ∀ (D : va_G) (A : Nat → Prop) (H H1 : Heap), va_P D vwCl ws H → va_D A ws → (∀ q : Nat, q < H.size → ¬ va_A wc H.size q → H1[q]? = H[q]?) → va_P D vwCl w1 H1 → va_P D vwCl w2 H1 ∧ va_D A w2
theorem upd_at {ws wc : va_W} {is : List Nat} (hC : is.map (fun i => ws[i]?) = wc.map some) {j : Nat} {q : Nat × va_E} (hj : wc[j]? = some q) : ∃ i : Nat, is[j]? = some i ∧ ws[i]? = some q := by
  have h1 : (is.map (fun i => ws[i]?))[j]? = some (some q) := by rw [hC, List.getElem?_map, hj]; rfl
  rw [List.getElem?_map] at h1
  cases hi : is[j]? with
  | none => rw [hi] at h1; cases h1
  | some i => rw [hi] at h1; exact ⟨i, rfl, Option.some.inj h1⟩
/-- a callee that leaves its part as it was -/
theorem updR {ws wc : va_W} (is : List Nat) (hC : is.map (fun i => ws[i]?) = wc.map some) : UpdW ws wc wc ws := by
  intro D A H H1 hP hD hk hP1
  refine ⟨fun k q hq => ?_, hD⟩
  by_cases hin : va_A wc H.size q.1
  · rcases hin with ⟨j, e, hj⟩ | h
    · obtain ⟨i, h1, h2⟩ := upd_at hC hj
      have hki := hD.1 k i q (q.1, e) hq h2 rfl
      subst hki
      have he : q = (q.1, e) := Option.some.inj (hq.symm.trans h2)
      rw [he]
      exact hP1 j _ hj
    · exact absurd (hP k q hq).lt (Nat.not_lt.mpr h)
  · exact (hP k q hq).kept (hk q.1 (hP k q hq).lt hin)
/-- a callee that changes its part, at the places is; isR: the other places -/
theorem updM {ws wc w1 w2 : va_W} (is isR : List Nat) (wr : va_W) (n : Nat) (hC : is.map (fun i => ws[i]?) = wc.map some) (h1 : is.map (fun i => w2[i]?) = w1.map some) (h2a : isR.map (fun i => w2[i]?) = wr.map some) (h2b : isR.map (fun i => ws[i]?) = wr.map some) (hn : w2.length = n) (hc : (List.range n).all (fun k => is.contains k || isR.contains k) = true) (hd : is.all (fun i => !isR.contains i) = true) (hF : w2.map Prod.fst = ws.map Prod.fst) : UpdW ws wc w1 w2 := by
  have h2 := h2a.trans h2b.symm
  intro D A H H1 hP hD hk hP1
  refine ⟨fun k q hq => ?_, va_D_fst hD hF⟩
  have hkn : k < n := by rw [← hn]; exact (List.getElem?_eq_some_iff.mp hq).1
  have hk2 := List.all_eq_true.mp hc k (List.mem_range.mpr hkn)
  rcases Bool.or_eq_true _ _ |>.mp hk2 with h | h
  · have hm : k ∈ is := by simpa using h
    obtain ⟨j, hj⟩ := List.getElem?_of_mem hm
    have h3 : (is.map (fun i => w2[i]?))[j]? = some (some q) := by rw [List.getElem?_map, hj]; exact congrArg some hq
    rw [h1, List.getElem?_map] at h3
    cases hw : w1[j]? with
    | none => rw [hw] at h3; cases h3
    | some x => rw [hw] at h3; have h4 : x = q := Option.some.inj (Option.some.inj h3); subst h4; exact hP1 j x hw
  · have hm : k ∈ isR := by simpa using h
    obtain ⟨j, hj⟩ := List.getElem?_of_mem hm
    have h3 : (isR.map (fun i => w2[i]?))[j]? = some (some q) := by rw [List.getElem?_map, hj]; exact congrArg some hq
    rw [h2, List.getElem?_map, hj] at h3
    have hw : ws[k]? = some q := Option.some.inj h3
    refine (hP k q hw).kept (hk q.1 (hP k q hw).lt fun hin => ?_)
    rcases hin with ⟨j2, e, hj2⟩ | h
    · obtain ⟨i, h5, h6⟩ := upd_at hC hj2
      have hki := hD.1 k i q (q.1, e) hw h6 rfl
      subst hki
      have h7 := List.all_eq_true.mp hd k (List.mem_of_getElem? h5)
      simp [hm] at h7
    · exact absurd (hP k q hw).lt (Nat.not_lt.mpr h)
section CLB
variable {p : Program} {l : Launch} {e : Env} {R : Room} {s : State} {m : MethodId} {args : Array Value} {below : List Frame} {meth : Method} {c : Code} {H : Heap} {locs : List Loc} {cells slots : Nat} {Q : State → Prop}
variable {y : MethodName} {bytes cc : ByteArray} {maxL nL mc ms n index : Nat} {ret : Option FieldType} {wsy : List Cond} {rm : Room} {Ts : List Cond} {own C : String} {b : Addr} {As rest st0 : List Value} {pc : Nat} {ls : Array Slot}
variable {dC : Nat → ClassId} {dI : Nat → Nat → Nat} {cy : Nat → ClassId} {ws wc : va_W} {A : Nat → Prop} {σ : Type} {w1 w2 : σ → va_W}
theorem cl_blind {sz : Nat} {av : List Value} : FrameBlind (va_Pc av (prC dC dI cy wc sz)) := fun a U g mk q => by
  obtain ⟨q0, q1, qP, qK, qD⟩ := q
  exact ⟨q0, q1, qP, va_K.moved (u := U) (U := U.calling g mk a) (Vm.Alike.refl U.vm) qK, qD⟩
theorem cl_sub (hP : va_P (dC, dI) vwCl ws H) (is : List Nat) (hC : is.map (fun i => ws[i]?) = wc.map some) : va_P (dC, dI) vwCl wc H := fun k q hq => by
  have h1 : (is.map (fun i => ws[i]?))[k]? = some (some q) := by rw [hC, List.getElem?_map, hq]; rfl
  rw [List.getElem?_map] at h1
  cases hi : is[k]? with
  | none => rw [hi] at h1; cases h1
  | some i => rw [hi] at h1; exact hP i q (Option.some.inj h1)
theorem cl_pre {av : List Value} (hK : va_K (dC, dI) vwCl (tyA cy) s) (hP : va_P (dC, dI) vwCl ws H) (hD : va_D A ws) (is : List Nat) (hnd : va_nd is = true) (hC : is.map (fun i => ws[i]?) = wc.map some) : ∀ U : State, U.heap = H → s.WarmedH U.vm → va_Pc av (prC dC dI cy wc H.size) av.toArray U := fun U hU hW =>
  ⟨rfl, by rw [hU], by rw [hU]; exact cl_sub hP is hC, va_K.moved hW.alike hK, (hD.sub is hnd hC).weaken (fun _ _ _ _ => trivial)⟩
end CLB

section CLB
variable {p : Program} {l : Launch} {e : Env} {R : Room} {s : State} {m : MethodId} {args : Array Value} {below : List Frame} {meth : Method} {c : Code} {H : Heap} {locs : List Loc} {cells slots : Nat} {Q : State → Prop}
variable {y : MethodName} {bytes cc : ByteArray} {maxL nL mc ms n index : Nat} {ret : Option FieldType} {wsy : List Cond} {rm : Room} {Ts : List Cond} {own C : String} {b : Addr} {As rest st0 : List Value} {pc : Nat} {ls : Array Slot}
variable {dC : Nat → ClassId} {dI : Nat → Nat → Nat} {cy : Nat → ClassId} {ws wc : va_W} {A : Nat → Prop} {σ σx : Type} {w1 w2 : σ → va_W} {w1x w2x : σx → va_W} {PP : State → Prop} {cells' slots' : Nat}
theorem cl_vi {post : Int32 → σ → Prop} (S0 : CallFix p m c cc nL s args Ts own) (hM : Met l y wsy rm (va_Pc (.ref b :: As) PP) (va_Qi post (fun u t => poC dC dI cy (w1 u) t) (va_A wc H.size)) mc ms (va_A wc H.size)) (cw : CallW R s args own C index y bytes maxL ret wsy rm mc ms n) (hrecv : ∃ cellB : Cell, H[b]? = some cellB ∧ cellB.vm.isStatics = false ∧ s.vm.findClass C = some cellB.cls) (hbl : FrameBlind (va_Pc (.ref b :: As) PP)) (hpre : ∀ U : State, U.heap = H → s.WarmedH U.vm → va_Pc (.ref b :: As) PP (Value.ref b :: As).toArray U)
    (hP : va_P (dC, dI) vwCl ws H) (hD : va_D A ws) (hS : va_S A s.heap H locs) (hA : ∀ q, s.heap.size ≤ q → A q) (is : List Nat) (hC : is.map (fun i => ws[i]?) = wc.map some) (hn : As.length = n) (hls : ls.size = nL) (hst : st0 = As.reverse ++ .ref b :: rest) (hroom : 2 * (F0 m pc ls st0).monitorRoom + (rest.map fun v => v.category).sum ≤ 8) (hdg : decode cc pc = .ok (.invokevirtual index, 3)) (hf : cells + mc ≤ R.cells ∧ slots + ms ≤ R.slots) (hcc : cells + mc = cells' ∧ slots + ms = slots')
    (hU : ∀ u, UpdW ws wc (w1 u) (w2 u))
    (kk : ∀ (r : Int32) (u : σ) (H1 : Heap) (locs1 : List Loc), post r u → va_P (dC, dI) vwCl (w2 u) H1 → va_D A (w2 u) → va_S A s.heap H1 locs1 → W p l e R s m args below meth c H1 locs1 cells' slots' Q (F0 m (pc + 3) ls (.int r :: rest))) : W p l e R s m args below meth c H locs cells slots Q (F0 m pc ls st0) := by
  obtain ⟨rfl, rfl⟩ := hcc
  have hFc := va_free (wc := wc) hD hS hA is hC
  refine va_calli (va_runV (As := As) (rest := rest) S0 hM cw ⟨hbl, hrecv, hpre⟩ rfl hn hls hst hroom hdg hf) hS (fun q _ h => hFc q h) hFc (fun r u t H1 locs ht hvm hw hB hz1 hk1 hS => ?_)
  obtain ⟨hP1, hK1⟩ := hB
  rw [ht] at hP1
  obtain ⟨hP, hD⟩ := hU u _ _ _ _ hP hD hk1 hP1
  exact kk r u H1 locs hw hP hD hS
theorem cx_vi {post : Int32 → σ → Prop} {px : σx → Prop} {bx : String → Prop} (S0 : CallFix p m c cc nL s args Ts own) (hM : vx_Met l y wsy rm (va_Pc (.ref b :: As) PP) (va_Qi post (fun u t => poC dC dI cy (w1 u) t) (va_A wc H.size)) (vx_X px (fun E u t => bx E ∧ poC dC dI cy (w1x u) t) (va_A wc H.size)) mc ms (va_A wc H.size)) (cw : CallW R s args own C index y bytes maxL ret wsy rm mc ms n) (hrecv : ∃ cellB : Cell, H[b]? = some cellB ∧ cellB.vm.isStatics = false ∧ s.vm.findClass C = some cellB.cls) (hbl : FrameBlind (va_Pc (.ref b :: As) PP)) (hpre : ∀ U : State, U.heap = H → s.WarmedH U.vm → va_Pc (.ref b :: As) PP (Value.ref b :: As).toArray U)
    (hP : va_P (dC, dI) vwCl ws H) (hD : va_D A ws) (hS : va_S A s.heap H locs) (hA : ∀ q, s.heap.size ≤ q → A q) (is : List Nat) (hC : is.map (fun i => ws[i]?) = wc.map some) (hn : As.length = n) (hls : ls.size = nL) (hst : st0 = As.reverse ++ .ref b :: rest) (hroom : 2 * (F0 m pc ls st0).monitorRoom + (rest.map fun v => v.category).sum ≤ 8) (hdg : decode cc pc = .ok (.invokevirtual index, 3)) (hf : cells + mc ≤ R.cells ∧ slots + ms ≤ R.slots) (hcc : cells + mc = cells' ∧ slots + ms = slots')
    (hU : ∀ u, UpdW ws wc (w1 u) (w2 u))
    (hUx : ∀ u, UpdW ws wc (w1x u) (w2x u))
    (kx : ∀ (E : String) (ce : Cell) (q9 : Addr) (u : σx) (H1 : Heap) (locs1 : List Loc), px u → bx E → va_P (dC, dI) vwCl (w2x u) H1 → va_D A (w2x u) → va_S A s.heap H1 locs1 → H1[q9]? = some ce → ce.vm = .none → s.vm.findClass E = some ce.cls → vx_W p l e R s m args below meth c H1 locs1 cells' slots' Q (F0 m pc ls rest) q9)
    (kk : ∀ (r : Int32) (u : σ) (H1 : Heap) (locs1 : List Loc), post r u → va_P (dC, dI) vwCl (w2 u) H1 → va_D A (w2 u) → va_S A s.heap H1 locs1 → W p l e R s m args below meth c H1 locs1 cells' slots' Q (F0 m (pc + 3) ls (.int r :: rest))) : W p l e R s m args below meth c H locs cells slots Q (F0 m pc ls st0) := by
  obtain ⟨rfl, rfl⟩ := hcc
  have hFc := va_free (wc := wc) hD hS hA is hC
  refine vx_calli (vx_runV (As := As) (rest := rest) S0 hM cw ⟨hbl, hrecv, hpre⟩ rfl hn hls hst hroom hdg hf) hS (fun q _ h => hFc q h) hFc (fun q _ h => hFc q h) (fun E ce q9 u t H1 locs ht hvm hw hB hz1 hk1 hS hc1 hc2 hc3 => ?_) (fun r u t H1 locs ht hvm hw hB hz1 hk1 hS => ?_)
  · obtain ⟨hE, hP1, hK1⟩ := hB
    rw [ht] at hP1
    obtain ⟨hP, hD⟩ := hUx u _ _ _ _ hP hD hk1 hP1
    exact kx E ce q9 u H1 locs hw hE hP hD hS hc1 hc2 hc3
  · obtain ⟨hP1, hK1⟩ := hB
    rw [ht] at hP1
    obtain ⟨hP, hD⟩ := hU u _ _ _ _ hP hD hk1 hP1
    exact kk r u H1 locs hw hP hD hS
theorem cl_vl {post : Int64 → σ → Prop} (S0 : CallFix p m c cc nL s args Ts own) (hM : Met l y wsy rm (va_Pc (.ref b :: As) PP) (va_Ql post (fun u t => poC dC dI cy (w1 u) t) (va_A wc H.size)) mc ms (va_A wc H.size)) (cw : CallW R s args own C index y bytes maxL ret wsy rm mc ms n) (hrecv : ∃ cellB : Cell, H[b]? = some cellB ∧ cellB.vm.isStatics = false ∧ s.vm.findClass C = some cellB.cls) (hbl : FrameBlind (va_Pc (.ref b :: As) PP)) (hpre : ∀ U : State, U.heap = H → s.WarmedH U.vm → va_Pc (.ref b :: As) PP (Value.ref b :: As).toArray U)
    (hP : va_P (dC, dI) vwCl ws H) (hD : va_D A ws) (hS : va_S A s.heap H locs) (hA : ∀ q, s.heap.size ≤ q → A q) (is : List Nat) (hC : is.map (fun i => ws[i]?) = wc.map some) (hn : As.length = n) (hls : ls.size = nL) (hst : st0 = As.reverse ++ .ref b :: rest) (hroom : 2 * (F0 m pc ls st0).monitorRoom + (rest.map fun v => v.category).sum ≤ 8) (hdg : decode cc pc = .ok (.invokevirtual index, 3)) (hf : cells + mc ≤ R.cells ∧ slots + ms ≤ R.slots) (hcc : cells + mc = cells' ∧ slots + ms = slots')
    (hU : ∀ u, UpdW ws wc (w1 u) (w2 u))
    (kk : ∀ (r : Int64) (u : σ) (H1 : Heap) (locs1 : List Loc), post r u → va_P (dC, dI) vwCl (w2 u) H1 → va_D A (w2 u) → va_S A s.heap H1 locs1 → W p l e R s m args below meth c H1 locs1 cells' slots' Q (F0 m (pc + 3) ls (.long r :: rest))) : W p l e R s m args below meth c H locs cells slots Q (F0 m pc ls st0) := by
  obtain ⟨rfl, rfl⟩ := hcc
  have hFc := va_free (wc := wc) hD hS hA is hC
  refine va_calll (va_runV (As := As) (rest := rest) S0 hM cw ⟨hbl, hrecv, hpre⟩ rfl hn hls hst hroom hdg hf) hS (fun q _ h => hFc q h) hFc (fun r u t H1 locs ht hvm hw hB hz1 hk1 hS => ?_)
  obtain ⟨hP1, hK1⟩ := hB
  rw [ht] at hP1
  obtain ⟨hP, hD⟩ := hU u _ _ _ _ hP hD hk1 hP1
  exact kk r u H1 locs hw hP hD hS
theorem cx_vl {post : Int64 → σ → Prop} {px : σx → Prop} {bx : String → Prop} (S0 : CallFix p m c cc nL s args Ts own) (hM : vx_Met l y wsy rm (va_Pc (.ref b :: As) PP) (va_Ql post (fun u t => poC dC dI cy (w1 u) t) (va_A wc H.size)) (vx_X px (fun E u t => bx E ∧ poC dC dI cy (w1x u) t) (va_A wc H.size)) mc ms (va_A wc H.size)) (cw : CallW R s args own C index y bytes maxL ret wsy rm mc ms n) (hrecv : ∃ cellB : Cell, H[b]? = some cellB ∧ cellB.vm.isStatics = false ∧ s.vm.findClass C = some cellB.cls) (hbl : FrameBlind (va_Pc (.ref b :: As) PP)) (hpre : ∀ U : State, U.heap = H → s.WarmedH U.vm → va_Pc (.ref b :: As) PP (Value.ref b :: As).toArray U)
    (hP : va_P (dC, dI) vwCl ws H) (hD : va_D A ws) (hS : va_S A s.heap H locs) (hA : ∀ q, s.heap.size ≤ q → A q) (is : List Nat) (hC : is.map (fun i => ws[i]?) = wc.map some) (hn : As.length = n) (hls : ls.size = nL) (hst : st0 = As.reverse ++ .ref b :: rest) (hroom : 2 * (F0 m pc ls st0).monitorRoom + (rest.map fun v => v.category).sum ≤ 8) (hdg : decode cc pc = .ok (.invokevirtual index, 3)) (hf : cells + mc ≤ R.cells ∧ slots + ms ≤ R.slots) (hcc : cells + mc = cells' ∧ slots + ms = slots')
    (hU : ∀ u, UpdW ws wc (w1 u) (w2 u))
    (hUx : ∀ u, UpdW ws wc (w1x u) (w2x u))
    (kx : ∀ (E : String) (ce : Cell) (q9 : Addr) (u : σx) (H1 : Heap) (locs1 : List Loc), px u → bx E → va_P (dC, dI) vwCl (w2x u) H1 → va_D A (w2x u) → va_S A s.heap H1 locs1 → H1[q9]? = some ce → ce.vm = .none → s.vm.findClass E = some ce.cls → vx_W p l e R s m args below meth c H1 locs1 cells' slots' Q (F0 m pc ls rest) q9)
    (kk : ∀ (r : Int64) (u : σ) (H1 : Heap) (locs1 : List Loc), post r u → va_P (dC, dI) vwCl (w2 u) H1 → va_D A (w2 u) → va_S A s.heap H1 locs1 → W p l e R s m args below meth c H1 locs1 cells' slots' Q (F0 m (pc + 3) ls (.long r :: rest))) : W p l e R s m args below meth c H locs cells slots Q (F0 m pc ls st0) := by
  obtain ⟨rfl, rfl⟩ := hcc
  have hFc := va_free (wc := wc) hD hS hA is hC
  refine vx_calll (vx_runV (As := As) (rest := rest) S0 hM cw ⟨hbl, hrecv, hpre⟩ rfl hn hls hst hroom hdg hf) hS (fun q _ h => hFc q h) hFc (fun q _ h => hFc q h) (fun E ce q9 u t H1 locs ht hvm hw hB hz1 hk1 hS hc1 hc2 hc3 => ?_) (fun r u t H1 locs ht hvm hw hB hz1 hk1 hS => ?_)
  · obtain ⟨hE, hP1, hK1⟩ := hB
    rw [ht] at hP1
    obtain ⟨hP, hD⟩ := hUx u _ _ _ _ hP hD hk1 hP1
    exact kx E ce q9 u H1 locs hw hE hP hD hS hc1 hc2 hc3
  · obtain ⟨hP1, hK1⟩ := hB
    rw [ht] at hP1
    obtain ⟨hP, hD⟩ := hU u _ _ _ _ hP hD hk1 hP1
    exact kk r u H1 locs hw hP hD hS
theorem cl_vv {post : σ → Prop} (S0 : CallFix p m c cc nL s args Ts own) (hM : Met l y wsy rm (va_Pc (.ref b :: As) PP) (va_Qv post (fun u t => poC dC dI cy (w1 u) t) (va_A wc H.size)) mc ms (va_A wc H.size)) (cw : CallW R s args own C index y bytes maxL ret wsy rm mc ms n) (hrecv : ∃ cellB : Cell, H[b]? = some cellB ∧ cellB.vm.isStatics = false ∧ s.vm.findClass C = some cellB.cls) (hbl : FrameBlind (va_Pc (.ref b :: As) PP)) (hpre : ∀ U : State, U.heap = H → s.WarmedH U.vm → va_Pc (.ref b :: As) PP (Value.ref b :: As).toArray U)
    (hP : va_P (dC, dI) vwCl ws H) (hD : va_D A ws) (hS : va_S A s.heap H locs) (hA : ∀ q, s.heap.size ≤ q → A q) (is : List Nat) (hC : is.map (fun i => ws[i]?) = wc.map some) (hn : As.length = n) (hls : ls.size = nL) (hst : st0 = As.reverse ++ .ref b :: rest) (hroom : 2 * (F0 m pc ls st0).monitorRoom + (rest.map fun v => v.category).sum ≤ 8) (hdg : decode cc pc = .ok (.invokevirtual index, 3)) (hf : cells + mc ≤ R.cells ∧ slots + ms ≤ R.slots) (hcc : cells + mc = cells' ∧ slots + ms = slots')
    (hU : ∀ u, UpdW ws wc (w1 u) (w2 u))
    (kk : ∀ (u : σ) (H1 : Heap) (locs1 : List Loc), post u → va_P (dC, dI) vwCl (w2 u) H1 → va_D A (w2 u) → va_S A s.heap H1 locs1 → W p l e R s m args below meth c H1 locs1 cells' slots' Q (F0 m (pc + 3) ls rest)) : W p l e R s m args below meth c H locs cells slots Q (F0 m pc ls st0) := by
  obtain ⟨rfl, rfl⟩ := hcc
  have hFc := va_free (wc := wc) hD hS hA is hC
  refine va_callv (va_runV (As := As) (rest := rest) S0 hM cw ⟨hbl, hrecv, hpre⟩ rfl hn hls hst hroom hdg hf) hS (fun q _ h => hFc q h) hFc (fun u t H1 locs ht hvm hw hB hz1 hk1 hS => ?_)
  obtain ⟨hP1, hK1⟩ := hB
  rw [ht] at hP1
  obtain ⟨hP, hD⟩ := hU u _ _ _ _ hP hD hk1 hP1
  exact kk u H1 locs hw hP hD hS
theorem cx_vv {post : σ → Prop} {px : σx → Prop} {bx : String → Prop} (S0 : CallFix p m c cc nL s args Ts own) (hM : vx_Met l y wsy rm (va_Pc (.ref b :: As) PP) (va_Qv post (fun u t => poC dC dI cy (w1 u) t) (va_A wc H.size)) (vx_X px (fun E u t => bx E ∧ poC dC dI cy (w1x u) t) (va_A wc H.size)) mc ms (va_A wc H.size)) (cw : CallW R s args own C index y bytes maxL ret wsy rm mc ms n) (hrecv : ∃ cellB : Cell, H[b]? = some cellB ∧ cellB.vm.isStatics = false ∧ s.vm.findClass C = some cellB.cls) (hbl : FrameBlind (va_Pc (.ref b :: As) PP)) (hpre : ∀ U : State, U.heap = H → s.WarmedH U.vm → va_Pc (.ref b :: As) PP (Value.ref b :: As).toArray U)
    (hP : va_P (dC, dI) vwCl ws H) (hD : va_D A ws) (hS : va_S A s.heap H locs) (hA : ∀ q, s.heap.size ≤ q → A q) (is : List Nat) (hC : is.map (fun i => ws[i]?) = wc.map some) (hn : As.length = n) (hls : ls.size = nL) (hst : st0 = As.reverse ++ .ref b :: rest) (hroom : 2 * (F0 m pc ls st0).monitorRoom + (rest.map fun v => v.category).sum ≤ 8) (hdg : decode cc pc = .ok (.invokevirtual index, 3)) (hf : cells + mc ≤ R.cells ∧ slots + ms ≤ R.slots) (hcc : cells + mc = cells' ∧ slots + ms = slots')
    (hU : ∀ u, UpdW ws wc (w1 u) (w2 u))
    (hUx : ∀ u, UpdW ws wc (w1x u) (w2x u))
    (kx : ∀ (E : String) (ce : Cell) (q9 : Addr) (u : σx) (H1 : Heap) (locs1 : List Loc), px u → bx E → va_P (dC, dI) vwCl (w2x u) H1 → va_D A (w2x u) → va_S A s.heap H1 locs1 → H1[q9]? = some ce → ce.vm = .none → s.vm.findClass E = some ce.cls → vx_W p l e R s m args below meth c H1 locs1 cells' slots' Q (F0 m pc ls rest) q9)
    (kk : ∀ (u : σ) (H1 : Heap) (locs1 : List Loc), post u → va_P (dC, dI) vwCl (w2 u) H1 → va_D A (w2 u) → va_S A s.heap H1 locs1 → W p l e R s m args below meth c H1 locs1 cells' slots' Q (F0 m (pc + 3) ls rest)) : W p l e R s m args below meth c H locs cells slots Q (F0 m pc ls st0) := by
  obtain ⟨rfl, rfl⟩ := hcc
  have hFc := va_free (wc := wc) hD hS hA is hC
  refine vx_callv (vx_runV (As := As) (rest := rest) S0 hM cw ⟨hbl, hrecv, hpre⟩ rfl hn hls hst hroom hdg hf) hS (fun q _ h => hFc q h) hFc (fun q _ h => hFc q h) (fun E ce q9 u t H1 locs ht hvm hw hB hz1 hk1 hS hc1 hc2 hc3 => ?_) (fun u t H1 locs ht hvm hw hB hz1 hk1 hS => ?_)
  · obtain ⟨hE, hP1, hK1⟩ := hB
    rw [ht] at hP1
    obtain ⟨hP, hD⟩ := hUx u _ _ _ _ hP hD hk1 hP1
    exact kx E ce q9 u H1 locs hw hE hP hD hS hc1 hc2 hc3
  · obtain ⟨hP1, hK1⟩ := hB
    rw [ht] at hP1
    obtain ⟨hP, hD⟩ := hU u _ _ _ _ hP hD hk1 hP1
    exact kk u H1 locs hw hP hD hS
theorem cl_si {post : Int32 → σ → Prop} (S0 : CallFix p m c cc nL s args Ts own) (hM : Met l y wsy rm (va_Pc As PP) (va_Qi post (fun u t => poC dC dI cy (w1 u) t) (va_A wc H.size)) mc ms (va_A wc H.size)) (cw : CallB R s args own index y bytes maxL ret wsy rm mc ms n ∧ (Cond.static y).before args s = true) (hbl : FrameBlind (va_Pc As PP)) (hpre : ∀ U : State, U.heap = H → s.WarmedH U.vm → va_Pc As PP As.toArray U)
    (hP : va_P (dC, dI) vwCl ws H) (hD : va_D A ws) (hS : va_S A s.heap H locs) (hA : ∀ q, s.heap.size ≤ q → A q) (is : List Nat) (hC : is.map (fun i => ws[i]?) = wc.map some) (hn : As.length = n) (hls : ls.size = nL) (hst : st0 = As.reverse ++ rest) (hroom : 2 * (F0 m pc ls st0).monitorRoom + (rest.map fun v => v.category).sum ≤ 8) (hdg : decode cc pc = .ok (.invokestatic index, 3)) (hf : cells + mc ≤ R.cells ∧ slots + ms ≤ R.slots) (hcc : cells + mc = cells' ∧ slots + ms = slots')
    (hU : ∀ u, UpdW ws wc (w1 u) (w2 u))
    (kk : ∀ (r : Int32) (u : σ) (H1 : Heap) (locs1 : List Loc), post r u → va_P (dC, dI) vwCl (w2 u) H1 → va_D A (w2 u) → va_S A s.heap H1 locs1 → W p l e R s m args below meth c H1 locs1 cells' slots' Q (F0 m (pc + 3) ls (.int r :: rest))) : W p l e R s m args below meth c H locs cells slots Q (F0 m pc ls st0) := by
  obtain ⟨rfl, rfl⟩ := hcc
  have hFc := va_free (wc := wc) hD hS hA is hC
  refine va_calli (va_runS (As := As) (rest := rest) S0 hM cw ⟨hbl, hpre⟩ rfl hn hls hst hroom hdg hf) hS (fun q _ h => hFc q h) hFc (fun r u t H1 locs ht hvm hw hB hz1 hk1 hS => ?_)
  obtain ⟨hP1, hK1⟩ := hB
  rw [ht] at hP1
  obtain ⟨hP, hD⟩ := hU u _ _ _ _ hP hD hk1 hP1
  exact kk r u H1 locs hw hP hD hS
theorem cx_si {post : Int32 → σ → Prop} {px : σx → Prop} {bx : String → Prop} (S0 : CallFix p m c cc nL s args Ts own) (hM : vx_Met l y wsy rm (va_Pc As PP) (va_Qi post (fun u t => poC dC dI cy (w1 u) t) (va_A wc H.size)) (vx_X px (fun E u t => bx E ∧ poC dC dI cy (w1x u) t) (va_A wc H.size)) mc ms (va_A wc H.size)) (cw : CallB R s args own index y bytes maxL ret wsy rm mc ms n ∧ (Cond.static y).before args s = true) (hbl : FrameBlind (va_Pc As PP)) (hpre : ∀ U : State, U.heap = H → s.WarmedH U.vm → va_Pc As PP As.toArray U)
    (hP : va_P (dC, dI) vwCl ws H) (hD : va_D A ws) (hS : va_S A s.heap H locs) (hA : ∀ q, s.heap.size ≤ q → A q) (is : List Nat) (hC : is.map (fun i => ws[i]?) = wc.map some) (hn : As.length = n) (hls : ls.size = nL) (hst : st0 = As.reverse ++ rest) (hroom : 2 * (F0 m pc ls st0).monitorRoom + (rest.map fun v => v.category).sum ≤ 8) (hdg : decode cc pc = .ok (.invokestatic index, 3)) (hf : cells + mc ≤ R.cells ∧ slots + ms ≤ R.slots) (hcc : cells + mc = cells' ∧ slots + ms = slots')
    (hU : ∀ u, UpdW ws wc (w1 u) (w2 u))
    (hUx : ∀ u, UpdW ws wc (w1x u) (w2x u))
    (kx : ∀ (E : String) (ce : Cell) (q9 : Addr) (u : σx) (H1 : Heap) (locs1 : List Loc), px u → bx E → va_P (dC, dI) vwCl (w2x u) H1 → va_D A (w2x u) → va_S A s.heap H1 locs1 → H1[q9]? = some ce → ce.vm = .none → s.vm.findClass E = some ce.cls → vx_W p l e R s m args below meth c H1 locs1 cells' slots' Q (F0 m pc ls rest) q9)
    (kk : ∀ (r : Int32) (u : σ) (H1 : Heap) (locs1 : List Loc), post r u → va_P (dC, dI) vwCl (w2 u) H1 → va_D A (w2 u) → va_S A s.heap H1 locs1 → W p l e R s m args below meth c H1 locs1 cells' slots' Q (F0 m (pc + 3) ls (.int r :: rest))) : W p l e R s m args below meth c H locs cells slots Q (F0 m pc ls st0) := by
  obtain ⟨rfl, rfl⟩ := hcc
  have hFc := va_free (wc := wc) hD hS hA is hC
  refine vx_calli (vx_runS (As := As) (rest := rest) S0 hM cw ⟨hbl, hpre⟩ rfl hn hls hst hroom hdg hf) hS (fun q _ h => hFc q h) hFc (fun q _ h => hFc q h) (fun E ce q9 u t H1 locs ht hvm hw hB hz1 hk1 hS hc1 hc2 hc3 => ?_) (fun r u t H1 locs ht hvm hw hB hz1 hk1 hS => ?_)
  · obtain ⟨hE, hP1, hK1⟩ := hB
    rw [ht] at hP1
    obtain ⟨hP, hD⟩ := hUx u _ _ _ _ hP hD hk1 hP1
    exact kx E ce q9 u H1 locs hw hE hP hD hS hc1 hc2 hc3
  · obtain ⟨hP1, hK1⟩ := hB
    rw [ht] at hP1
    obtain ⟨hP, hD⟩ := hU u _ _ _ _ hP hD hk1 hP1
    exact kk r u H1 locs hw hP hD hS
theorem cl_sl {post : Int64 → σ → Prop} (S0 : CallFix p m c cc nL s args Ts own) (hM : Met l y wsy rm (va_Pc As PP) (va_Ql post (fun u t => poC dC dI cy (w1 u) t) (va_A wc H.size)) mc ms (va_A wc H.size)) (cw : CallB R s args own index y bytes maxL ret wsy rm mc ms n ∧ (Cond.static y).before args s = true) (hbl : FrameBlind (va_Pc As PP)) (hpre : ∀ U : State, U.heap = H → s.WarmedH U.vm → va_Pc As PP As.toArray U)
    (hP : va_P (dC, dI) vwCl ws H) (hD : va_D A ws) (hS : va_S A s.heap H locs) (hA : ∀ q, s.heap.size ≤ q → A q) (is : List Nat) (hC : is.map (fun i => ws[i]?) = wc.map some) (hn : As.length = n) (hls : ls.size = nL) (hst : st0 = As.reverse ++ rest) (hroom : 2 * (F0 m pc ls st0).monitorRoom + (rest.map fun v => v.category).sum ≤ 8) (hdg : decode cc pc = .ok (.invokestatic index, 3)) (hf : cells + mc ≤ R.cells ∧ slots + ms ≤ R.slots) (hcc : cells + mc = cells' ∧ slots + ms = slots')
    (hU : ∀ u, UpdW ws wc (w1 u) (w2 u))
    (kk : ∀ (r : Int64) (u : σ) (H1 : Heap) (locs1 : List Loc), post r u → va_P (dC, dI) vwCl (w2 u) H1 → va_D A (w2 u) → va_S A s.heap H1 locs1 → W p l e R s m args below meth c H1 locs1 cells' slots' Q (F0 m (pc + 3) ls (.long r :: rest))) : W p l e R s m args below meth c H locs cells slots Q (F0 m pc ls st0) := by
  obtain ⟨rfl, rfl⟩ := hcc
  have hFc := va_free (wc := wc) hD hS hA is hC
  refine va_calll (va_runS (As := As) (rest := rest) S0 hM cw ⟨hbl, hpre⟩ rfl hn hls hst hroom hdg hf) hS (fun q _ h => hFc q h) hFc (fun r u t H1 locs ht hvm hw hB hz1 hk1 hS => ?_)
  obtain ⟨hP1, hK1⟩ := hB
  rw [ht] at hP1
  obtain ⟨hP, hD⟩ := hU u _ _ _ _ hP hD hk1 hP1
  exact kk r u H1 locs hw hP hD hS
theorem cx_sl {post : Int64 → σ → Prop} {px : σx → Prop} {bx : String → Prop} (S0 : CallFix p m c cc nL s args Ts own) (hM : vx_Met l y wsy rm (va_Pc As PP) (va_Ql post (fun u t => poC dC dI cy (w1 u) t) (va_A wc H.size)) (vx_X px (fun E u t => bx E ∧ poC dC dI cy (w1x u) t) (va_A wc H.size)) mc ms (va_A wc H.size)) (cw : CallB R s args own index y bytes maxL ret wsy rm mc ms n ∧ (Cond.static y).before args s = true) (hbl : FrameBlind (va_Pc As PP)) (hpre : ∀ U : State, U.heap = H → s.WarmedH U.vm → va_Pc As PP As.toArray U)
    (hP : va_P (dC, dI) vwCl ws H) (hD : va_D A ws) (hS : va_S A s.heap H locs) (hA : ∀ q, s.heap.size ≤ q → A q) (is : List Nat) (hC : is.map (fun i => ws[i]?) = wc.map some) (hn : As.length = n) (hls : ls.size = nL) (hst : st0 = As.reverse ++ rest) (hroom : 2 * (F0 m pc ls st0).monitorRoom + (rest.map fun v => v.category).sum ≤ 8) (hdg : decode cc pc = .ok (.invokestatic index, 3)) (hf : cells + mc ≤ R.cells ∧ slots + ms ≤ R.slots) (hcc : cells + mc = cells' ∧ slots + ms = slots')
    (hU : ∀ u, UpdW ws wc (w1 u) (w2 u))
    (hUx : ∀ u, UpdW ws wc (w1x u) (w2x u))
    (kx : ∀ (E : String) (ce : Cell) (q9 : Addr) (u : σx) (H1 : Heap) (locs1 : List Loc), px u → bx E → va_P (dC, dI) vwCl (w2x u) H1 → va_D A (w2x u) → va_S A s.heap H1 locs1 → H1[q9]? = some ce → ce.vm = .none → s.vm.findClass E = some ce.cls → vx_W p l e R s m args below meth c H1 locs1 cells' slots' Q (F0 m pc ls rest) q9)
    (kk : ∀ (r : Int64) (u : σ) (H1 : Heap) (locs1 : List Loc), post r u → va_P (dC, dI) vwCl (w2 u) H1 → va_D A (w2 u) → va_S A s.heap H1 locs1 → W p l e R s m args below meth c H1 locs1 cells' slots' Q (F0 m (pc + 3) ls (.long r :: rest))) : W p l e R s m args below meth c H locs cells slots Q (F0 m pc ls st0) := by
  obtain ⟨rfl, rfl⟩ := hcc
  have hFc := va_free (wc := wc) hD hS hA is hC
  refine vx_calll (vx_runS (As := As) (rest := rest) S0 hM cw ⟨hbl, hpre⟩ rfl hn hls hst hroom hdg hf) hS (fun q _ h => hFc q h) hFc (fun q _ h => hFc q h) (fun E ce q9 u t H1 locs ht hvm hw hB hz1 hk1 hS hc1 hc2 hc3 => ?_) (fun r u t H1 locs ht hvm hw hB hz1 hk1 hS => ?_)
  · obtain ⟨hE, hP1, hK1⟩ := hB
    rw [ht] at hP1
    obtain ⟨hP, hD⟩ := hUx u _ _ _ _ hP hD hk1 hP1
    exact kx E ce q9 u H1 locs hw hE hP hD hS hc1 hc2 hc3
  · obtain ⟨hP1, hK1⟩ := hB
    rw [ht] at hP1
    obtain ⟨hP, hD⟩ := hU u _ _ _ _ hP hD hk1 hP1
    exact kk r u H1 locs hw hP hD hS
theorem cl_sv {post : σ → Prop} (S0 : CallFix p m c cc nL s args Ts own) (hM : Met l y wsy rm (va_Pc As PP) (va_Qv post (fun u t => poC dC dI cy (w1 u) t) (va_A wc H.size)) mc ms (va_A wc H.size)) (cw : CallB R s args own index y bytes maxL ret wsy rm mc ms n ∧ (Cond.static y).before args s = true) (hbl : FrameBlind (va_Pc As PP)) (hpre : ∀ U : State, U.heap = H → s.WarmedH U.vm → va_Pc As PP As.toArray U)
    (hP : va_P (dC, dI) vwCl ws H) (hD : va_D A ws) (hS : va_S A s.heap H locs) (hA : ∀ q, s.heap.size ≤ q → A q) (is : List Nat) (hC : is.map (fun i => ws[i]?) = wc.map some) (hn : As.length = n) (hls : ls.size = nL) (hst : st0 = As.reverse ++ rest) (hroom : 2 * (F0 m pc ls st0).monitorRoom + (rest.map fun v => v.category).sum ≤ 8) (hdg : decode cc pc = .ok (.invokestatic index, 3)) (hf : cells + mc ≤ R.cells ∧ slots + ms ≤ R.slots) (hcc : cells + mc = cells' ∧ slots + ms = slots')
    (hU : ∀ u, UpdW ws wc (w1 u) (w2 u))
    (kk : ∀ (u : σ) (H1 : Heap) (locs1 : List Loc), post u → va_P (dC, dI) vwCl (w2 u) H1 → va_D A (w2 u) → va_S A s.heap H1 locs1 → W p l e R s m args below meth c H1 locs1 cells' slots' Q (F0 m (pc + 3) ls rest)) : W p l e R s m args below meth c H locs cells slots Q (F0 m pc ls st0) := by
  obtain ⟨rfl, rfl⟩ := hcc
  have hFc := va_free (wc := wc) hD hS hA is hC
  refine va_callv (va_runS (As := As) (rest := rest) S0 hM cw ⟨hbl, hpre⟩ rfl hn hls hst hroom hdg hf) hS (fun q _ h => hFc q h) hFc (fun u t H1 locs ht hvm hw hB hz1 hk1 hS => ?_)
  obtain ⟨hP1, hK1⟩ := hB
  rw [ht] at hP1
  obtain ⟨hP, hD⟩ := hU u _ _ _ _ hP hD hk1 hP1
  exact kk u H1 locs hw hP hD hS
theorem cx_sv {post : σ → Prop} {px : σx → Prop} {bx : String → Prop} (S0 : CallFix p m c cc nL s args Ts own) (hM : vx_Met l y wsy rm (va_Pc As PP) (va_Qv post (fun u t => poC dC dI cy (w1 u) t) (va_A wc H.size)) (vx_X px (fun E u t => bx E ∧ poC dC dI cy (w1x u) t) (va_A wc H.size)) mc ms (va_A wc H.size)) (cw : CallB R s args own index y bytes maxL ret wsy rm mc ms n ∧ (Cond.static y).before args s = true) (hbl : FrameBlind (va_Pc As PP)) (hpre : ∀ U : State, U.heap = H → s.WarmedH U.vm → va_Pc As PP As.toArray U)
    (hP : va_P (dC, dI) vwCl ws H) (hD : va_D A ws) (hS : va_S A s.heap H locs) (hA : ∀ q, s.heap.size ≤ q → A q) (is : List Nat) (hC : is.map (fun i => ws[i]?) = wc.map some) (hn : As.length = n) (hls : ls.size = nL) (hst : st0 = As.reverse ++ rest) (hroom : 2 * (F0 m pc ls st0).monitorRoom + (rest.map fun v => v.category).sum ≤ 8) (hdg : decode cc pc = .ok (.invokestatic index, 3)) (hf : cells + mc ≤ R.cells ∧ slots + ms ≤ R.slots) (hcc : cells + mc = cells' ∧ slots + ms = slots')
    (hU : ∀ u, UpdW ws wc (w1 u) (w2 u))
    (hUx : ∀ u, UpdW ws wc (w1x u) (w2x u))
    (kx : ∀ (E : String) (ce : Cell) (q9 : Addr) (u : σx) (H1 : Heap) (locs1 : List Loc), px u → bx E → va_P (dC, dI) vwCl (w2x u) H1 → va_D A (w2x u) → va_S A s.heap H1 locs1 → H1[q9]? = some ce → ce.vm = .none → s.vm.findClass E = some ce.cls → vx_W p l e R s m args below meth c H1 locs1 cells' slots' Q (F0 m pc ls rest) q9)
    (kk : ∀ (u : σ) (H1 : Heap) (locs1 : List Loc), post u → va_P (dC, dI) vwCl (w2 u) H1 → va_D A (w2 u) → va_S A s.heap H1 locs1 → W p l e R s m args below meth c H1 locs1 cells' slots' Q (F0 m (pc + 3) ls rest)) : W p l e R s m args below meth c H locs cells slots Q (F0 m pc ls st0) := by
  obtain ⟨rfl, rfl⟩ := hcc
  have hFc := va_free (wc := wc) hD hS hA is hC
  refine vx_callv (vx_runS (As := As) (rest := rest) S0 hM cw ⟨hbl, hpre⟩ rfl hn hls hst hroom hdg hf) hS (fun q _ h => hFc q h) hFc (fun q _ h => hFc q h) (fun E ce q9 u t H1 locs ht hvm hw hB hz1 hk1 hS hc1 hc2 hc3 => ?_) (fun u t H1 locs ht hvm hw hB hz1 hk1 hS => ?_)
  · obtain ⟨hE, hP1, hK1⟩ := hB
    rw [ht] at hP1
    obtain ⟨hP, hD⟩ := hUx u _ _ _ _ hP hD hk1 hP1
    exact kx E ce q9 u H1 locs hw hE hP hD hS hc1 hc2 hc3
  · obtain ⟨hP1, hK1⟩ := hB
    rw [ht] at hP1
    obtain ⟨hP, hD⟩ := hU u _ _ _ _ hP hD hk1 hP1
    exact kk u H1 locs hw hP hD hS
theorem cl_ui {x : MethodName} {owner : String} {post : Int32 → σ → Prop} (S0 : CallFix p m c cc nL s args Ts own) (hM : Met l y wsy rm (va_Pc (.ref b :: As) PP) (va_Qi post (fun u t => poC dC dI cy (w1 u) t) (va_A wc H.size)) mc ms (va_A wc H.size)) (cw : va_CU R s args own C owner index x y bytes maxL ret wsy rm mc ms n) (hrecv : ∃ cellB : Cell, H[b]? = some cellB ∧ cellB.vm.isStatics = false ∧ s.vm.findClass C = some cellB.cls) (hbl : FrameBlind (va_Pc (.ref b :: As) PP)) (hpre : ∀ U : State, U.heap = H → s.WarmedH U.vm → va_Pc (.ref b :: As) PP (Value.ref b :: As).toArray U)
    (hP : va_P (dC, dI) vwCl ws H) (hD : va_D A ws) (hS : va_S A s.heap H locs) (hA : ∀ q, s.heap.size ≤ q → A q) (is : List Nat) (hC : is.map (fun i => ws[i]?) = wc.map some) (hn : As.length = n) (hls : ls.size = nL) (hst : st0 = As.reverse ++ .ref b :: rest) (hroom : 2 * (F0 m pc ls st0).monitorRoom + (rest.map fun v => v.category).sum ≤ 8) (hdg : decode cc pc = .ok (.invokevirtual index, 3)) (hf : cells + mc ≤ R.cells ∧ slots + ms ≤ R.slots) (hcc : cells + mc = cells' ∧ slots + ms = slots')
    (hU : ∀ u, UpdW ws wc (w1 u) (w2 u))
    (kk : ∀ (r : Int32) (u : σ) (H1 : Heap) (locs1 : List Loc), post r u → va_P (dC, dI) vwCl (w2 u) H1 → va_D A (w2 u) → va_S A s.heap H1 locs1 → W p l e R s m args below meth c H1 locs1 cells' slots' Q (F0 m (pc + 3) ls (.int r :: rest))) : W p l e R s m args below meth c H locs cells slots Q (F0 m pc ls st0) := by
  obtain ⟨rfl, rfl⟩ := hcc
  have hFc := va_free (wc := wc) hD hS hA is hC
  refine va_calli (va_runU (As := As) (rest := rest) S0 hM cw ⟨hbl, hrecv, hpre⟩ rfl hn hls hst hroom hdg hf) hS (fun q _ h => hFc q h) hFc (fun r u t H1 locs ht hvm hw hB hz1 hk1 hS => ?_)
  obtain ⟨hP1, hK1⟩ := hB
  rw [ht] at hP1
  obtain ⟨hP, hD⟩ := hU u _ _ _ _ hP hD hk1 hP1
  exact kk r u H1 locs hw hP hD hS
end CLB
theorem ix_lt {i : Int32} {n : Nat} (h : ix i n) : i.toNatClampNeg < n := Nat.not_le.mp fun q => ix_in h (Or.inr q)
theorem lt5 {P : Nat → Prop} {i : Nat} (h : i < 5) (h0 : P 0) (h1 : P 1) (h2 : P 2) (h3 : P 3) (h4 : P 4) : P i := by
  rcases (show i = 0 ∨ i = 1 ∨ i = 2 ∨ i = 3 ∨ i = 4 by omega) with rfl | rfl | rfl | rfl | rfl <;> assumption
theorem lt10 {P : Nat → Prop} {i : Nat} (h : i < 10) (h0 : P 0) (h1 : P 1) (h2 : P 2) (h3 : P 3) (h4 : P 4) (h5 : P 5) (h6 : P 6) (h7 : P 7) (h8 : P 8) (h9 : P 9) : P i := by
  rcases (show i = 0 ∨ i = 1 ∨ i = 2 ∨ i = 3 ∨ i = 4 ∨ i = 5 ∨ i = 6 ∨ i = 7 ∨ i = 8 ∨ i = 9 by omega) with rfl | rfl | rfl | rfl | rfl | rfl | rfl | rfl | rfl | rfl <;> assumption
theorem tab_out {x : Int32} {lo hi : Int} (h : ∀ k : Int, lo ≤ k → k ≤ hi → x.toInt = k → False) : x.toInt < lo ∨ hi < x.toInt := by
  rcases Int.lt_or_le x.toInt lo with h1 | h1
  · exact Or.inl h1
  · rcases Int.lt_or_le hi x.toInt with h2 | h2
    · exact Or.inr h2
    · exact (h _ h1 h2 rfl).elim
section CLG
variable {p : Program} {l : Launch} {e : Env} {R : Room} {s : State} {m : MethodId} {args : Array Value} {below : List Frame} {meth : Method} {c : Code} {H : Heap} {locs : List Loc} {cells slots : Nat} {Q : State → Prop}
variable {cc : ByteArray} {pc : Nat} {ls : Array Slot} {rest : List Value} {D : va_G} {cl : List vw_C} {A : Nat → Prop} {a : Nat} {tys : List (ClassId × FieldType)} {ws : va_W} {H0 : Heap}
/-- a row of an array of arrays -/
theorem va_aldA (hexec : p.tables.exec = Jvm.exec) (hb : c.code = cc) (hK : va_K D cl tys s) (hP : va_P D cl ws H) (q0 t0 : Nat) {cA : ClassId} {ty : FieldType} {n : Nat} {f : Nat → Option Nat} (ha : ws[q0]? = some (a, .inl (cA, n, .inr (.inr (.inr (.inr f)))))) (ht : tys[t0]? = some (cA, .array ty)) {i : Int32} (hin : vp_in i n) (hdg : decode cc pc = .ok (.aaload, 1))
    (kk : W p l e R s m args below meth c H locs cells slots Q (F0 m (pc + 1) ls (va_rf (f i.toNatClampNeg) :: rest))) : W p l e R s m args below meth c H locs cells slots Q (F0 m pc ls (.int i :: .ref a :: rest)) := by
  have hlt : i.toNatClampNeg < n := Nat.not_le.mp fun q => hin (Or.inr q)
  exact W.aald (v := va_rf (f i.toNatClampNeg)) (ty := .array ty) hexec hb (hP q0 _ ha) ((hK.2 t0 _ ht).1 n (fun j => va_rf (f j))) rfl (fun q => by cases q) (by show ¬ (i < 0 ∨ (arrV _ _ _).slots.size ≤ _); rw [arrV_size]; exact hin) (by show (arrV _ _ _).slots[_]? = _; rw [arrV_read _ _ hlt]) rfl rfl hdg kk
end CLG
theorem fst_of {α β : Type} {a : α} {b : β} {r : α × β} (h : (a, b) = r) : a = r.1 := by rw [← h]
theorem snd_of {α β : Type} {a : α} {b : β} {r : α × β} (h : (a, b) = r) : b = r.2 := by rw [← h]
