/-! glue: the first contents, the wrappers' answers, the operations that change what is kept -/
theorem inv0 : Inv (0, -1, 0, 0, 0, 0) (0, 0, (fun _ => 0), (fun _ => 0), (fun _ => 0), (fun _ => 0), (fun _ => 0)) (0, 0, (fun _ => 0), (fun _ => 0), (fun _ => 0), (fun _ => 0)) (0, (fun _ => 0), (fun _ => 0), (fun _ => 0)) (0, 0, (fun _ => 0), (fun _ => 0), (fun _ => 0), (fun _ => 0), (fun _ => 0)) (0, 0, (fun _ => 0), (fun _ => 0), (fun _ => 0), (fun _ => 0)) (0, (fun _ => 0), (fun _ => 0), (fun _ => 0)) (fun _ => 0) (0, 0, 0, (fun _ => 0), (fun _ => 0), (fun _ => 0), (fun _ => 0), (fun _ => 0), (fun _ => 0), (fun _ => 0), (fun _ => 0), (fun _ => 0)) (fun _ => 0) 0 (0, -1) (fun _ => 0) (0, (fun _ => 0)) (0, 0, 0, (fun _ => 0), (fun _ => 0), (fun _ => 0), (fun _ => 0), (fun _ => 0), (fun _ => 0), (fun _ => 0), (fun _ => 0), (fun _ => 0)) := by
  have hH : ∀ d, dH ((0, 0, (fun _ => 0), (fun _ _ => 0), (fun _ => 0), (fun _ => 0)) : MD) d = false := fun d => by simp [dH, dB]
  refine ⟨((0, 0, fun _ => 0, fun _ => 0, fun _ => 0, fun _ _ => 0), (0, 0, fun _ => 0, fun _ _ => 0, fun _ => 0, fun _ => 0), (0, fun _ => 0, fun _ => 0, fun _ => 0)), 0, ⟨⟨rfl, rfl, fun i hi => absurd hi (Nat.not_lt_zero i)⟩, ⟨rfl, rfl, fun d _ h => absurd h (by rw [hH d]; decide)⟩, ⟨rfl, fun r hr => absurd hr (Nat.not_lt_zero r)⟩⟩, ⟨⟨rfl, rfl, fun i hi => absurd hi (Nat.not_lt_zero i), fun i j _ _ => rfl⟩, ⟨rfl, fun d _ => ⟨by rw [hH d]; rfl, fun h => absurd h (by rw [hH d]; decide)⟩⟩, ⟨rfl, fun r hr => absurd hr (Nat.not_lt_zero r)⟩⟩, ⟨⟨Nat.zero_le _, Nat.zero_le _, Nat.zero_le _, fun i hi => absurd hi (Nat.not_lt_zero i)⟩, ⟨Nat.zero_le _, by decide, fun d _ h => absurd h (by rw [hH d]; decide)⟩, ⟨Nat.zero_le _, fun r hr => absurd hr (Nat.not_lt_zero r)⟩⟩, Nat.zero_le _, rfl, rfl, fun j hj => absurd hj (Nat.not_lt_zero j), rfl, rfl, rfl, rfl, Or.inl ⟨rfl, rfl⟩⟩
theorem updL_self (o : Nat → Int64) (v : Int64) : vp_updL o (0 : Int32).toNatClampNeg v (0 : Int32).toNatClampNeg = v := by
  unfold vp_updL
  simp
theorem agI {M : Type} {m : M} {v : Int32 ⊕ Nat} {r t : Int32} (o : Nat → Int64) (h : Ag1 2 v r t) : ∃ o1, xb v (fun r => some ((0 : Int32), m, vp_updL o (0 : Int32).toNatClampNeg r.toInt64)) (fun k => if k = 1 then none else if k = 2 then some ((1 : Int32), m, o) else none) = some (t, m, o1) ∧ (t = 0 → o1 (0 : Int32).toNatClampNeg = r.toInt64) := by
  rcases h with ⟨rfl, rfl⟩ | ⟨rfl, rfl⟩
  · exact ⟨_, rfl, fun _ => updL_self o _⟩
  · exact ⟨_, rfl, fun h => absurd h (by decide)⟩
theorem ag1 {M : Type} {m : M} {v : Int32 ⊕ Nat} {r t : Int32} (o : Nat → Int64) (h : Ag1 1 v r t) : ∃ o1, xb v (fun r => some ((0 : Int32), m, vp_updL o (0 : Int32).toNatClampNeg r.toInt64)) (fun k => if k = 1 then some ((1 : Int32), m, o) else if k = 2 then none else none) = some (t, m, o1) ∧ (t = 0 → o1 (0 : Int32).toNatClampNeg = r.toInt64) := by
  rcases h with ⟨rfl, rfl⟩ | ⟨rfl, rfl⟩
  · exact ⟨_, rfl, fun _ => updL_self o _⟩
  · exact ⟨_, rfl, fun h => absurd h (by decide)⟩
theorem ag2 {M : Type} {m : M} {v : Int32 ⊕ Nat} {r t : Int32} (o : Nat → Int64) (h : Ag2 v r t) : ∃ o1, xb v (fun r => some ((0 : Int32), m, vp_updL o (0 : Int32).toNatClampNeg r.toInt64)) (fun k => if k = 1 then some ((1 : Int32), m, o) else if k = 2 then some ((2 : Int32), m, o) else none) = some (t, m, o1) ∧ (t = 0 → o1 (0 : Int32).toNatClampNeg = r.toInt64) := by
  rcases h with ⟨rfl, rfl⟩ | ⟨rfl, rfl⟩ | ⟨rfl, rfl⟩
  · exact ⟨_, rfl, fun _ => updL_self o _⟩
  · exact ⟨_, rfl, fun h => absurd h (by decide)⟩
  · exact ⟨_, rfl, fun h => absurd h (by decide)⟩
section GLUE
variable {gg : TG} {gvn : TV} {gdn : TD} {gcn : TR} {gvk : TV} {gdk : TD} {gck : TR} {gtx : TA} {kvm : TM} {ktt : TA} {ktd : Int32} {kfl : Int32 × Int32} {krf : TA} {krc : TRm} {kim : TM}
theorem s_feed (hI : Inv gg gvn gdn gcn gvk gdk gck gtx kvm ktt ktd kfl krf krc kim) (kth x1 x2 x3 x4 x5 : Int32) : ∃ r gg1 gtx1 ktt1 ktd1, p_X12_feed gg gtx x1 x2 x3 x4 x5 = some (r, gg1, gtx1) ∧ p_X13_feed kth ktt ktd x1 x2 x3 x4 x5 = some (r, 0, ktt1, ktd1) ∧ Inv gg1 gvn gdn gcn gvk gdk gck gtx1 kvm ktt1 ktd1 kfl krf krc kim := by
  obtain ⟨S, n, hc, hr, ho, hn, h1, h2, h3, h4, h5, h6, h7, h8⟩ := hI
  obtain ⟨r, m, gg1, gtx1, ktt1, e1, e2, e3, e4, e5, e6⟩ := q_feed hn h1 h3 kth x1 x2 x3 x4 x5
  refine ⟨r, gg1, gtx1, ktt1, nI m, e1, by rw [h2]; exact e2, S, m, hc, hr, ho, e3, e4, rfl, e6, by rw [e5]; exact h4, by rw [e5]; exact h5, by rw [e5]; exact h6, by rw [e5]; exact h7, ?_⟩
  unfold Img at h8 ⊢
  rw [e5]; exact h8
theorem s_lose (hI : Inv gg gvn gdn gcn gvk gdk gck gtx kvm ktt ktd kfl krf krc kim) (kth : Int32) : ∃ r gcn1 krc1, p_X12_lose gcn = some (r, gcn1) ∧ p_X13_lose kth krc = some (r, 0, krc1) ∧ Inv gg gvn gdn gcn1 gvk gdk gck gtx kvm ktt ktd kfl krf krc1 kim := by
  obtain ⟨S, n, hc, hr, ho, hn, h1, h2, h3, h4, h5, h6, h7, h8⟩ := hI
  obtain ⟨r, gcn1, krc1, e1, e2, R, e3, e4, e5⟩ := q_lose hc.2.2 hr.2.2 ho.2.2 kth
  exact ⟨r, gcn1, krc1, e1, e2, (S.1, S.2.1, R), n, ⟨hc.1, hc.2.1, e3⟩, ⟨hr.1, hr.2.1, e4⟩, ⟨ho.1, ho.2.1, e5⟩, hn, h1, h2, h3, h4, h5, h6, h7, h8⟩
theorem s_receipt (hI : Inv gg gvn gdn gcn gvk gdk gck gtx kvm ktt ktd kfl krf krc kim) (kth x1 x2 x3 : Int32) : ∃ r gg1 gcn1 krf1 krc1, p_X12_receipt gg gcn x1 x2 x3 = some (r, gg1, gcn1) ∧ p_X13_receipt kth krf krc x1 x2 x3 = some (r, 0, krf1, krc1) ∧ Inv gg1 gvn gdn gcn1 gvk gdk gck gtx kvm ktt ktd kfl krf1 krc1 kim := by
  obtain ⟨S, n, hc, hr, ho, hn, h1, h2, h3, h4, h5, h6, h7, h8⟩ := hI
  obtain ⟨r, gg1, gcn1, krf1, krc1, e1, e2, ⟨f1, f2, f3, f4, f5, f6, f7, f8⟩, R, e3, e4, e5⟩ := q_receipt hc.2.2 hr.2.2 ho.2.2 h7 kth x1 x2 x3
  refine ⟨r, gg1, gcn1, krf1, krc1, e1, e2, (S.1, S.2.1, R), n, ⟨hc.1, hc.2.1, e3⟩, ⟨hr.1, hr.2.1, e4⟩, ⟨ho.1, ho.2.1, e5⟩, hn, f1.trans h1, h2, h3, f2.trans h4, (f3.trans h5).trans f6.symm, (f4.trans h6).trans f7.symm, f8, ?_⟩
  unfold Img at h8 ⊢
  rw [f5]; exact h8
theorem s_image (hI : Inv gg gvn gdn gcn gvk gdk gck gtx kvm ktt ktd kfl krf krc kim) (kth : Int32) : ∃ gg1 gvk1 gdk1 gck1 kim1, p_X12_image gg gvn gdn gcn gvk gdk gck = some (gg1, gvk1, gdk1, gck1) ∧ p_X13_image kth kvm krc kim = some (0, kim1) ∧ Inv gg1 gvn gdn gcn gvk1 gdk1 gck1 gtx kvm ktt ktd kfl krf krc kim1 := by
  obtain ⟨S, n, hc, hr, ho, hn, h1, h2, h3, h4, h5, h6, h7, h8⟩ := hI
  obtain ⟨gvk1, gdk1, gck1, kim1, e1, e2, e3, e4, e5⟩ := q_image (gg := gg) (gvk := gvk) (gdk := gdk) (gck := gck) (gim := kim) hc hr ho kth
  exact ⟨_, gvk1, gdk1, gck1, kim1, e1, e2, S, n, hc, hr, ho, hn, h1, h2, h3, h4, h5, h6, h7, Or.inr ⟨rfl, e3, S, e4, e5, ho⟩⟩
theorem s_restore (hI : Inv gg gvn gdn gcn gvk gdk gck gtx kvm ktt ktd kfl krf krc kim) (kth : Int32) : ∃ r gvn1 gdn1 gcn1 kvm1 krc1, p_X12_restore gg gvn gdn gcn gvk gdk gck = some (r, gvn1, gdn1, gcn1) ∧ p_X13_restore kth kvm krc kim = some (r, 0, kvm1, krc1) ∧ Inv gg gvn1 gdn1 gcn1 gvk gdk gck gtx kvm1 ktt ktd kfl krf krc1 kim := by
  obtain ⟨S, n, hc, hr, ho, hn, h1, h2, h3, h4, h5, h6, h7, h8⟩ := hI
  rcases h8 with ⟨g0, i0⟩ | ⟨g1, i1, S1, c1, r1, o1⟩
  · obtain ⟨e1, e2⟩ := q_restore0 (gvn := gvn) (gdn := gdn) (gcn := gcn) (gvk := gvk) (gdk := gdk) (gck := gck) (gvm := kvm) (grc := krc) g0 i0 kth
    exact ⟨_, _, _, _, _, _, e1, e2, S, n, hc, hr, ho, hn, h1, h2, h3, h4, h5, h6, h7, Or.inl ⟨g0, i0⟩⟩
  · obtain ⟨gvn1, gdn1, gcn1, kvm1, krc1, e1, e2, e3, e4, e5, e6, e7⟩ := q_restore (gvn := gvn) (gdn := gdn) (gcn := gcn) (grc := krc) g1 i1 c1 r1 o1 kth
    refine ⟨_, _, _, _, _, _, e1, e2, S1, n, e6, e7, o1, hn, h1, h2, h3, h4, h5, h6, h7, Or.inr ⟨g1, i1, S1, c1, ?_, o1⟩⟩
    have h9 : IMm kvm1 kim = IMm kvm kim := by unfold IMm; rw [e3, e4, e5]
    rw [h9]; exact r1
end GLUE
