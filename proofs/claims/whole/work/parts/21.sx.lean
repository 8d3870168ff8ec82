/-! what stands ready outside the world: texts, the kinds of days, what a throw needs -/
def exE {α : Type} (E : String) (v : α ⊕ Nat) : Prop := (E = "java/util/NoSuchElementException" ∧ v = .inr 1) ∨ (E = "java/lang/IllegalArgumentException" ∧ v = .inr 2)
theorem exE_1 {α : Type} {v : α ⊕ Nat} (h : v = .inr 1) : exE "java/util/NoSuchElementException" v := Or.inl ⟨rfl, h⟩
theorem exE_2 {α : Type} {v : α ⊕ Nat} (h : v = .inr 2) : exE "java/lang/IllegalArgumentException" v := Or.inr ⟨rfl, h⟩
/-- behind a call that may have thrown -/
theorem exE_pass {α β M : Type} {E : String} {v : α ⊕ Nat} {f : α → Option ((β ⊕ Nat) × M)} {mods : M} {R0 : (β ⊕ Nat) × M} (hE : exE E v) (h : xb v f (fun k => some (Sum.inr k, mods)) = some R0) : exE E R0.1 ∧ R0.2 = mods := by
  rcases hE with ⟨h1, rfl⟩ | ⟨h1, rfl⟩
  · have h2 := Option.some.inj h
    subst h2
    exact ⟨Or.inl ⟨h1, rfl⟩, rfl⟩
  · have h2 := Option.some.inj h
    subst h2
    exact ⟨Or.inr ⟨h1, rfl⟩, rfl⟩
theorem ex_po {dC : Nat → ClassId} {dI : Nat → Nat → Nat} {cy : Nat → ClassId} {ws : va_W} {H : Heap} {s t : State} (hP : va_P (dC, dI) vwCl ws H) (hK : va_K (dC, dI) vwCl (tyA cy) s) (h1 : s.vm.Alike t.vm) (h3 : ∀ q : Nat, q < H.size → t.heap[q]? = H[q]?) : poC dC dI cy ws t := ⟨hP.kept (fun k q hq => h3 _ (hP k q hq).lt), va_K.moved h1 hK⟩
theorem ex_F {A : Nat → Prop} {H : Heap} {s t : State} {locs : List Loc} (hS : va_S A s.heap H locs) (h2 : H.size ≤ t.heap.size) (h3 : ∀ q : Nat, q < H.size → t.heap[q]? = H[q]?) : va_F A s t := ⟨Nat.le_trans hS.1 h2, fun q hq hA => (h3 q (Nat.lt_of_lt_of_le hq hS.1)).trans (hS.2.1 q hq hA)⟩
def exTexts : List (Nat × String) := [(163, "no such count"), (197, "nothing such is told of an owner"), (215, "nothing such is told of a door"), (247, "no row rests"), (254, "no such debt"), (257, "no such bases"), (327, "no such day"), (343, "no figures can be added in such a base"), (354, "no such figure"), (358, "the tape has not so many bytes"), (363, "no such owner"), (365, "no such door"), (367, "nothing such is told"), (369, "no such base"), (371, "no such tenths")]
def wdTexts : List (Nat × String × Nat) := [(49, "owner", 0), (58, "door", 1), (63, "law", 2), (91, "hides", 3), (116, "void", 4), (120, "due", 5), (122, "greatest", 6)]
def dayN : List String := ["BORN", "EATEN", "LENT", "HIDDEN", "CENSUS", "RUB", "WRITE", "SWAP"]
def dayF : List (String × String × String × List Int32) := [("java/lang/Enum", "ordinal", "I", [0, 1, 2, 3, 4, 5, 6, 7]), ("GoatDoors$Day", "owners", "I", [1, 1, 2, 1, 0, 0, 2, 0]), ("GoatDoors$Day", "doors", "I", [0, 0, 0, 0, 0, 1, 0, 2]), ("GoatDoors$Day", "leastNumber", "I", [1, 1, 1, 0, -1, -1, -1, -1]), ("GoatDoors$Day", "row", "Z", [0, 0, 0, 0, 0, 0, 1, 0])]
/-- the words and the kinds of days -/
def Sw (z : Nat → Nat) (A : Nat → Prop) (U : State) (H : Heap) : Prop :=
  vk_S 15 wLen wByt (fun i => z i) (fun i => z (100 + i)) A U H ∧ (∀ q ∈ wdTexts, vk_R RX10 q.1 q.2.1 (z q.2.2) U) ∧
  va_Ec "GoatDoors$Day" "GoatDoors$Day" "LGoatDoors$Day;" dayN dayF (fun i => z (200 + i)) A U H ∧
  (∀ i : Nat, i < 8 → va_OF "GoatDoors$Day" "word" "Ljava/lang/String;" (.ref (z (7 + i))) (z (200 + i)) A U H) ∧
  va_Z "GoatDoors" "DAY_KINDS" "[LGoatDoors$Day;" (.ref (z 300)) A U H ∧ va_T (.object "GoatDoors$Day") (z 300) 8 (fun j => .ref (z (200 + j))) A U H ∧
  va_Z "GoatDoors$1" "$SwitchMap$GoatDoors$Day" "[I" (.ref (z 301)) A U H ∧ va_T .int (z 301) 8 (fun j => .int (nI (j + 1))) A U H ∧
  va_Z "java/lang/String" "COMPACT_STRINGS" "Z" (.int 1) A U H ∧ va_Zq "jdk/internal/util/Preconditions" "SIOOBE_FORMATTER" "Ljava/util/function/BiFunction;" A U H
def exD : List String := ["java/lang/RuntimeException", "java/lang/Exception", Bundle.tN]
theorem nw_decl {x : MethodName} {s U : State} (hW : s.WarmedH U.vm) (h : va_Nw (.declares x) s) : va_Nw (.declares x) U := va_tabs rfl (rfl : (s.setVm U.vm).vm = U.vm) (by rw [Cond.declares_setVm hW.alike]; exact h)
/-- all of it -/
def Sx (z : Nat → Nat) (A : Nat → Prop) (U : State) : Prop :=
  (∀ q ∈ exTexts, vk_R RX12 q.1 q.2 (z (400 + q.1)) U) ∧ vx_Zq Bundle.tN "UNASSIGNED_STACK" Bundle.steD A U U.heap ∧ vx_Zq Bundle.tN "SUPPRESSED_SENTINEL" Bundle.listD A U U.heap ∧ Sw z A U U.heap ∧ va_Nw (.castable "java/util/NoSuchElementException" "java/util/NoSuchElementException") U ∧ va_Nw (.castable "java/lang/IllegalArgumentException" "java/lang/IllegalArgumentException") U ∧ (∀ Y ∈ exD, va_Nw (.declares (Bundle.initS Y)) U) ∧ va_Nw (.fieldLinkNest RX3 84 "GoatDoors" "DAY_KINDS" "[LGoatDoors$Day;" "GoatDoors") U
theorem Sx.tx {z : Nat → Nat} {A : Nat → Prop} {U : State} (h : Sx z A U) (k : Nat) (t : String) (hm : (k, t) ∈ exTexts) : vk_R RX12 k t (z (400 + k)) U := h.1 (k, t) hm
theorem Sx.us {z : Nat → Nat} {A : Nat → Prop} {U : State} (h : Sx z A U) : vx_Zq Bundle.tN "UNASSIGNED_STACK" Bundle.steD A U U.heap := h.2.1
theorem Sx.ss {z : Nat → Nat} {A : Nat → Prop} {U : State} (h : Sx z A U) : vx_Zq Bundle.tN "SUPPRESSED_SENTINEL" Bundle.listD A U U.heap := h.2.2.1
theorem Sw.moved {z : Nat → Nat} {A : Nat → Prop} {u U : State} {H : Heap} (hvm : u.vm.Alike U.vm) (hr : ∀ {k : Nat} {t : String} {a : Nat}, vk_R RX10 k t a u → vk_R RX10 k t a U) (h : Sw z A u H) : Sw z A U H := by
  obtain ⟨h1, h2, h3, h4, h5, h6, h7, h8, h9, h10⟩ := h
  exact ⟨h1.moved hvm, fun q hq => hr (h2 q hq), h3.moved hvm, fun i hi => (h4 i hi).moved hvm, h5.moved hvm, h6.moved hvm, h7.moved hvm, h8.moved hvm, h9.moved hvm, h10.moved hvm⟩
theorem Sw.kept {z : Nat → Nat} {A : Nat → Prop} {U : State} {H H1 : Heap} (h : Sw z A U H) (hq : ∀ a : Nat, a < H.size → ¬ A a → H1[a]? = H[a]?) : Sw z A U H1 := by
  obtain ⟨h1, h2, h3, h4, h5, h6, h7, h8, h9, h10⟩ := h
  exact ⟨h1.kept hq, h2, h3.kept hq, fun i hi => (h4 i hi).kept hq, h5.kept hq, h6.kept hq, h7.kept hq, h8.kept hq, h9.kept hq, h10.kept hq⟩
theorem Sw.narrow {z : Nat → Nat} {A B : Nat → Prop} {U : State} {H : Heap} (h : Sw z A U H) (hAB : ∀ q, B q → A q) : Sw z B U H := by
  obtain ⟨h1, h2, h3, h4, h5, h6, h7, h8, h9, h10⟩ := h
  exact ⟨h1.narrow hAB, h2, h3.narrow hAB, fun i hi => (h4 i hi).narrow hAB, h5.narrow hAB, h6.narrow hAB, h7.narrow hAB, h8.narrow hAB, h9.narrow hAB, h10.narrow hAB⟩
theorem Sx.call {z : Nat → Nat} {A B : Nat → Prop} {s U : State} {H : Heap} {locs : List Loc} (h : Sx z A s) (hS : va_S A s.heap H locs) (hAB : ∀ q, B q → A q) (hU : U.heap = H) (hW : s.WarmedH U.vm) : Sx z B U := by
  obtain ⟨h1, h2, h3, h4, h5, h6, h7, h8⟩ := h
  refine ⟨fun q hq => (h1 q hq).warm hW, ?_, ?_, ?_, va_Nw.warmC hW h5, va_Nw.warmC hW h6, fun Y hY => nw_decl hW (h7 Y hY), va_Nw.warmF hW h8⟩
  · rw [hU]; exact ((h2.kept hS.2.1).narrow hAB).moved hW.alike
  · rw [hU]; exact ((h3.kept hS.2.1).narrow hAB).moved hW.alike
  · rw [hU]; exact ((h4.kept hS.2.1).narrow hAB).moved hW.alike (fun h => h.warm hW)
theorem va_Nw_calling {C T : String} {U : State} {g : JFrame} {mk : MethodId} {a : Array Value} (h : va_Nw (.castable C T) U) : va_Nw (.castable C T) (U.calling g mk a) := h
theorem Sx.calling {z : Nat → Nat} {A : Nat → Prop} {U : State} {g : JFrame} {mk : MethodId} {a : Array Value} (h : Sx z A U) : Sx z A (U.calling g mk a) := by
  obtain ⟨h1, h2, h3, h4, h5, h6, h7, h8⟩ := h
  exact ⟨fun q hq => (h1 q hq).same rfl, h2.moved (Vm.Alike.refl U.vm), h3.moved (Vm.Alike.refl U.vm), h4.moved (Vm.Alike.refl U.vm) (fun h => h.same rfl), va_Nw_calling h5, va_Nw_calling h6, fun Y hY => h7 Y hY, h8⟩
/-- a start with that -/
def prS (dC : Nat → ClassId) (dI : Nat → Nat → Nat) (cy : Nat → ClassId) (z : Nat → Nat) (ws : va_W) (sz : Nat) (U : State) : Prop := prC dC dI cy ws sz U ∧ Sx z (va_A ws sz) U
theorem cl_blindS {dC : Nat → ClassId} {dI : Nat → Nat → Nat} {cy : Nat → ClassId} {z : Nat → Nat} {wc : va_W} {sz : Nat} {av : List Value} : FrameBlind (va_Pc av (prS dC dI cy z wc sz)) := fun a U g mk q => by
  obtain ⟨q0, ⟨q1, qP, qK, qD⟩, qX⟩ := q
  exact ⟨q0, ⟨q1, qP, va_K.moved (u := U) (U := U.calling g mk a) (Vm.Alike.refl U.vm) qK, qD⟩, qX.calling⟩
theorem cl_preS {dC : Nat → ClassId} {dI : Nat → Nat → Nat} {cy : Nat → ClassId} {z : Nat → Nat} {s : State} {H : Heap} {locs : List Loc} {A : Nat → Prop} {ws wc : va_W} {av : List Value} (hK : va_K (dC, dI) vwCl (tyA cy) s) (hP : va_P (dC, dI) vwCl ws H) (hD : va_D A ws) (hS : va_S A s.heap H locs) (hA : ∀ q, s.heap.size ≤ q → A q) (hX : Sx z A s) (is : List Nat) (hnd : va_nd is = true) (hC : is.map (fun i => ws[i]?) = wc.map some) : ∀ U : State, U.heap = H → s.WarmedH U.vm → va_Pc av (prS dC dI cy z wc H.size) av.toArray U := fun U hU hW =>
  ⟨rfl, (cl_pre (av := av) hK hP hD is hnd hC U hU hW).2, hX.call hS (va_free (wc := wc) hD hS hA is hC) hU hW⟩
def exN : List String := ["java/lang/RuntimeException", "java/lang/Exception"]
theorem ex_at165 {aa : Array Value} {s : State} {z : Nat → Nat} {A : Nat → Prop} (h1 : ∀ w ∈ (vx_atS RX12 165 "java/util/NoSuchElementException" ["java/lang/RuntimeException", "java/lang/Exception"]).filter goodWord, w.before aa s = true) (hX : Sx z A s) : ∀ w ∈ vx_atS RX12 165 "java/util/NoSuchElementException" ["java/lang/RuntimeException", "java/lang/Exception"], w.before aa s = true := vx_hat (B := [.castable "java/util/NoSuchElementException" "java/util/NoSuchElementException", .declares (Bundle.initS "java/lang/RuntimeException"), .declares (Bundle.initS "java/lang/Exception"), .declares (Bundle.initS Bundle.tN)]) h1 (by decide +kernel) (vx_c (va_Nw.use rfl hX.2.2.2.2.1) (vx_c (va_Nw.use rfl (hX.2.2.2.2.2.2.1 "java/lang/RuntimeException" (by decide))) (vx_c (va_Nw.use rfl (hX.2.2.2.2.2.2.1 "java/lang/Exception" (by decide))) (vx_c (va_Nw.use rfl (hX.2.2.2.2.2.2.1 Bundle.tN (by decide))) vx_n))))
theorem ex_at256 {aa : Array Value} {s : State} {z : Nat → Nat} {A : Nat → Prop} (h1 : ∀ w ∈ (vx_atS RX12 256 "java/lang/IllegalArgumentException" ["java/lang/RuntimeException", "java/lang/Exception"]).filter goodWord, w.before aa s = true) (hX : Sx z A s) : ∀ w ∈ vx_atS RX12 256 "java/lang/IllegalArgumentException" ["java/lang/RuntimeException", "java/lang/Exception"], w.before aa s = true := vx_hat (B := [.castable "java/lang/IllegalArgumentException" "java/lang/IllegalArgumentException", .declares (Bundle.initS "java/lang/RuntimeException"), .declares (Bundle.initS "java/lang/Exception"), .declares (Bundle.initS Bundle.tN)]) h1 (by decide +kernel) (vx_c (va_Nw.use rfl hX.2.2.2.2.2.1) (vx_c (va_Nw.use rfl (hX.2.2.2.2.2.2.1 "java/lang/RuntimeException" (by decide))) (vx_c (va_Nw.use rfl (hX.2.2.2.2.2.2.1 "java/lang/Exception" (by decide))) (vx_c (va_Nw.use rfl (hX.2.2.2.2.2.2.1 Bundle.tN (by decide))) vx_n))))
