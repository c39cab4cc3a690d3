/-! MACHINE: the class, new: its layout, and the empty market in it (whole's part, without the law's own cell and without the reference) -/
def rX (x : Nat) (u : uX) : List (Nat × (Nat × Nat)) := ((x, (x, 1)) :: ((rF u.1.1 u.1.2 ++ rF u.2.1.1 u.2.1.2) ++ [(u.2.2.1, (x, 702)), (u.2.2.2.1, (x, 600)), (u.2.2.2.2, (x, 609))]))
theorem rX_fst {c1 c3 c4 c5 : ClassId} {x : Nat} {u : uX} : (rX x u).map Prod.fst = (wX c1 c3 c4 c5 x u).map Prod.fst := by
  unfold rX wX wT
  simp only [List.map_cons, List.map_append, rF_fst (c1 := c1) (c3 := c3) (c4 := c4) (c5 := c5), List.map_nil, List.append_assoc, List.cons_append, List.nil_append]
theorem x_new {A : Nat → Prop} {c1 c2 c3 c4 c5 : ClassId} {D : va_G} {s v : Nat → Nat} {x : Nat} {u : uX} (hne : c1 ≠ c2) (hne5 : c5 ≠ c4) (hu : uFok u.1.2 ∧ uFok u.2.1.2) (h : va_D A (wX c1 c3 c4 c5 x u)) :
    (∀ q ∈ wX c1 c3 c4 c5 x u, eOk c1 c2 c3 c4 c5 q.2 ∧ rOk c2 c4 (wX c1 c3 c4 c5 x u) q.2) ∧ gK (nG c1 c2 c3 c4 c5 D s v (wX c1 c3 c4 c5 x u)) x = 8 ∧
    ∃ ρ : Nat → Nat × Nat, cLY (nG c1 c2 c3 c4 c5 D s v (wX c1 c3 c4 c5 x u)) ρ x ∧ cR (nG c1 c2 c3 c4 c5 D s v (wX c1 c3 c4 c5 x u)) ρ x (nM (wX c1 c3 c4 c5 x u)) [] T0 (fun _ => 0) (fun _ _ => 0) 0 (fun _ => 0) := by
  obtain ⟨⟨f1, u1⟩, ⟨f2, u2⟩, tp, ut⟩ := u
  have hd := h
  obtain ⟨hk1, hk2⟩ := hu
  generalize hW : wX c1 c3 c4 c5 x ((f1, u1), (f2, u2), tp, ut) = W at h ⊢
  have e0 : W = (x, .inr (7, [.ref f1, .ref f2, .ref tp])) :: ((wCF c1 c3 c4 c5 f1 u1 ++ wCF c1 c3 c4 c5 f2 u2) ++ wT c1 tp ut) := hW.symm
  have m0 : (x, .inr (7, [.ref f1, .ref f2, .ref tp])) ∈ W := by rw [e0]; exact List.mem_cons_self
  have mF1 : ∀ q ∈ wCF c1 c3 c4 c5 f1 u1, q ∈ W := fun q hq => by rw [e0]; exact List.mem_cons_of_mem _ (List.mem_append_left _ (List.mem_append_left _ hq))
  have mF2 : ∀ q ∈ wCF c1 c3 c4 c5 f2 u2, q ∈ W := fun q hq => by rw [e0]; exact List.mem_cons_of_mem _ (List.mem_append_left _ (List.mem_append_right _ hq))
  have mT : ∀ q ∈ wT c1 tp ut, q ∈ W := fun q hq => by rw [e0]; exact List.mem_cons_of_mem _ (List.mem_append_right _ hq)
  have t0 := List.forall_mem_append.mp mT
  have mt : (tp, .inr (6, fsX6 (.ref ut.1) (.ref ut.2))) ∈ W := t0.1 _ List.mem_cons_self
  have t1 := List.forall_mem_cons.mp t0.2
  have mb : (ut.1, .inl (c1, (500, .inl (fun _ => 0)))) ∈ W := t1.1
  have mn : (ut.2, .inl (c1, (3, .inl (fun _ => 0)))) ∈ W := t1.2 _ List.mem_cons_self
  have fm1 := flM_of mF1
  have fm2 := flM_of mF2
  have hd1 : va_D A ((wCF c1 c3 c4 c5 f1 u1 ++ wCF c1 c3 c4 c5 f2 u2) ++ wT c1 tp ut) := by
    rw [e0] at h
    exact va_D.r (X := [(x, .inr (7, [.ref f1, .ref f2, .ref tp]))]) h
  have hb : ∀ {f : Nat} {u : uF}, va_D A (wCF c1 c3 c4 c5 f u) → va_D A (wCB c1 c4 u.1.1 u.1.2) := fun {f u} hh => ((va_D.r (X := [(f, _)]) hh).l.l.l.l : va_D A (wCB c1 c4 u.1.1 u.1.2))
  have hb1 := hb hd1.l.l
  have hb2 := hb hd1.l.r
  have ok1 := fl_ok (c2 := c2) hne hne5 fm1
  have ok2 := fl_ok (c2 := c2) hne hne5 fm2
  have ndW := h.nd
  obtain ⟨ρ, hρ⟩ := n_role (L := rX x ((f1, u1), (f2, u2), tp, ut)) (by rw [rX_fst (c1 := c1) (c3 := c3) (c4 := c4) (c5 := c5)]; exact hd.nd)
  have r0 := List.forall_mem_cons.mp hρ
  have r1 := List.forall_mem_append.mp r0.2
  have r2 := List.forall_mem_append.mp r1.1
  have r3 := List.forall_mem_cons.mp r1.2
  have r4 := List.forall_mem_cons.mp r3.2
  refine ⟨?_, nG_K h m0, ρ, ⟨?_, ?_, ?_, ?_, ?_, ?_, ?_, ?_⟩, ⟨?_, ?_, ?_⟩⟩
  · have key : ∀ q ∈ (x, .inr (7, [.ref f1, .ref f2, .ref tp])) :: ((wCF c1 c3 c4 c5 f1 u1 ++ wCF c1 c3 c4 c5 f2 u2) ++ wT c1 tp ut), eOk c1 c2 c3 c4 c5 q.2 ∧ rOk c2 c4 W q.2 := by
      refine List.forall_mem_cons.mpr ⟨⟨⟨by decide, rfl⟩, rOk_obj (l := [(8, 700, 3), (8, 701, 3), (8, 702, 7)]) (by decide +kernel) ?_⟩, List.forall_mem_append.mpr ⟨List.forall_mem_append.mpr ⟨ok1, ok2⟩, ?_⟩⟩
      · exact List.forall_mem_cons.mpr ⟨⟨_, fm1.1, rfl⟩, List.forall_mem_cons.mpr ⟨⟨_, fm2.1, rfl⟩, List.forall_mem_cons.mpr ⟨⟨_, mt, rfl⟩, fun _ h => absurd h List.not_mem_nil⟩⟩⟩
      · refine List.forall_mem_append.mpr ⟨List.forall_mem_cons.mpr ⟨⟨⟨by decide, rfl⟩, rOk_obj (l := [(7, 600, 1500), (7, 609, 1003)]) (by decide +kernel) ?_⟩, fun _ h => absurd h List.not_mem_nil⟩, List.forall_mem_cons.mpr ⟨⟨⟨by decide, Or.inl rfl⟩, rOk_arr⟩, List.forall_mem_cons.mpr ⟨⟨⟨by decide, Or.inl rfl⟩, rOk_arr⟩, fun _ h => absurd h List.not_mem_nil⟩⟩⟩
        exact List.forall_mem_cons.mpr ⟨⟨_, mb, kInt hne⟩, List.forall_mem_cons.mpr ⟨⟨_, mn, kInt hne⟩, fun _ h => absurd h List.not_mem_nil⟩⟩
    intro q hq
    exact key q (by rw [← e0]; exact hq)
  · rw [show gR (nG c1 c2 c3 c4 c5 D s v W) 700 x = f1 from nG_R h m0 700]; exact fl_lay h fm1 r2.1
  · rw [show gR (nG c1 c2 c3 c4 c5 D s v W) 701 x = f2 from nG_R h m0 701]; exact fl_lay h fm2 r2.2
  · rw [show gR (nG c1 c2 c3 c4 c5 D s v W) 700 x = f1 from nG_R h m0 700, show gR (nG c1 c2 c3 c4 c5 D s v W) 701 x = f2 from nG_R h m0 701]
    intro e
    have n1 := hd1.l.nd
    rw [List.map_append, List.nodup_append] at n1
    exact n1.2.2 f1 List.mem_cons_self f2 List.mem_cons_self e
  · rw [show gR (nG c1 c2 c3 c4 c5 D s v W) 700 x = f1 from nG_R h m0 700]
    rw [e0, List.map_cons, List.nodup_cons] at ndW
    intro e
    exact ndW.1 (by rw [e, List.map_append, List.map_append]; exact List.mem_append_left _ (List.mem_append_left _ List.mem_cons_self))
  · rw [show gR (nG c1 c2 c3 c4 c5 D s v W) 701 x = f2 from nG_R h m0 701]
    rw [e0, List.map_cons, List.nodup_cons] at ndW
    intro e
    exact ndW.1 (by rw [e, List.map_append, List.map_append]; exact List.mem_append_left _ (List.mem_append_right _ List.mem_cons_self))
  · rw [show gR (nG c1 c2 c3 c4 c5 D s v W) 702 x = tp from nG_R h m0 702]; exact r3.1
  · rw [show gR (nG c1 c2 c3 c4 c5 D s v W) 702 x = tp from nG_R h m0 702, show gR (nG c1 c2 c3 c4 c5 D s v W) 600 tp = ut.1 from nG_R h mt 600]; exact r4.1
  · rw [show gR (nG c1 c2 c3 c4 c5 D s v W) 702 x = tp from nG_R h m0 702, show gR (nG c1 c2 c3 c4 c5 D s v W) 609 tp = ut.2 from nG_R h mt 609]; exact r4.2 _ List.mem_cons_self
  · rw [show gR (nG c1 c2 c3 c4 c5 D s v W) 700 x = f1 from nG_R h m0 700]; exact fl_new hne h fm1 hb1 hk1 r2.1
  · rw [show gR (nG c1 c2 c3 c4 c5 D s v W) 701 x = f2 from nG_R h m0 701]
    obtain ⟨o1, o2, o3⟩ := fl_rows (c2 := c2) (D := D) (s := s) (v := v) hne h fm2 hb2 hk2 r2.2 _ _ rfl rfl
    exact ⟨_, _, o1, o2, o3⟩
  · rw [show gR (nG c1 c2 c3 c4 c5 D s v W) 702 x = tp from nG_R h m0 702]
    exact ⟨by rw [nM_I h mt]; rfl, by decide, fun j hj => absurd hj (Nat.not_lt_zero _)⟩
