/-! MACHINE: the class and the reference, new: their layouts, and the empty market in both -/
/-- the law's own cell of one long: it lies in the class's world, and means nothing there -/
abbrev lo1 (c3 : ClassId) : va_E := .inl (c3, (1, .inr (.inl (fun _ => 0))))
def wXo (c1 c3 c4 c5 : ClassId) (x : Nat) (u : uX) (o : Nat) : va_W := wX c1 c3 c4 c5 x u ++ [(o, lo1 c3)]
def rX (x : Nat) (u : uX) (o : Nat) : List (Nat × (Nat × Nat)) := ((x, (x, 1)) :: ((rF u.1.1 u.1.2 ++ rF u.2.1.1 u.2.1.2) ++ [(u.2.2.1, (x, 702)), (u.2.2.2.1, (x, 600)), (u.2.2.2.2, (x, 609))])) ++ [(o, (o, 999))]
theorem rX_fst {c1 c3 c4 c5 : ClassId} {x : Nat} {u : uX} {o : Nat} : (rX x u o).map Prod.fst = (wXo c1 c3 c4 c5 x u o).map Prod.fst := by
  unfold rX wXo wX wT
  simp only [List.map_cons, List.map_append, rF_fst (c1 := c1) (c3 := c3) (c4 := c4) (c5 := c5), List.map_nil, List.append_assoc, List.cons_append, List.nil_append]
theorem x_new {A : Nat → Prop} {c1 c2 c3 c4 c5 : ClassId} {D : va_G} {s v : Nat → Nat} {x o : Nat} {u : uX} (hne : c1 ≠ c2) (hne5 : c5 ≠ c4) (hu : uFok u.1.2 ∧ uFok u.2.1.2) (h : va_D A (wXo c1 c3 c4 c5 x u o)) :
    (∀ q ∈ wXo c1 c3 c4 c5 x u o, eOk c1 c2 c3 c4 c5 q.2 ∧ rOk c2 c4 (wXo c1 c3 c4 c5 x u o) q.2) ∧ gK (nG c1 c2 c3 c4 c5 D s v (wXo c1 c3 c4 c5 x u o)) x = 8 ∧
    ∃ ρ : Nat → Nat × Nat, cLY (nG c1 c2 c3 c4 c5 D s v (wXo c1 c3 c4 c5 x u o)) ρ x ∧ cR (nG c1 c2 c3 c4 c5 D s v (wXo c1 c3 c4 c5 x u o)) ρ x (nM (wXo c1 c3 c4 c5 x u o)) [] T0 (fun _ => 0) (fun _ _ => 0) 0 (fun _ => 0) ∧ gK (nG c1 c2 c3 c4 c5 D s v (wXo c1 c3 c4 c5 x u o)) o = 3001 ∧ (ρ o).1 = o ∧ o ≠ gR (nG c1 c2 c3 c4 c5 D s v (wXo c1 c3 c4 c5 x u o)) 700 x ∧ o ≠ gR (nG c1 c2 c3 c4 c5 D s v (wXo c1 c3 c4 c5 x u o)) 701 x ∧ o ≠ x := by
  obtain ⟨⟨f1, u1⟩, ⟨f2, u2⟩, tp, ut⟩ := u
  have hd := h
  obtain ⟨hk1, hk2⟩ := hu
  generalize hW : wXo c1 c3 c4 c5 x ((f1, u1), (f2, u2), tp, ut) o = W at h ⊢
  have e0 : W = (x, .inr (7, [.ref f1, .ref f2, .ref tp])) :: (((wCF c1 c3 c4 c5 f1 u1 ++ wCF c1 c3 c4 c5 f2 u2) ++ wT c1 tp ut) ++ [(o, lo1 c3)]) := hW.symm
  have m0 : (x, .inr (7, [.ref f1, .ref f2, .ref tp])) ∈ W := by rw [e0]; exact List.mem_cons_self
  have mF1 : ∀ q ∈ wCF c1 c3 c4 c5 f1 u1, q ∈ W := fun q hq => by rw [e0]; exact List.mem_cons_of_mem _ (List.mem_append_left _ (List.mem_append_left _ (List.mem_append_left _ hq)))
  have mF2 : ∀ q ∈ wCF c1 c3 c4 c5 f2 u2, q ∈ W := fun q hq => by rw [e0]; exact List.mem_cons_of_mem _ (List.mem_append_left _ (List.mem_append_left _ (List.mem_append_right _ hq)))
  have mT : ∀ q ∈ wT c1 tp ut, q ∈ W := fun q hq => by rw [e0]; exact List.mem_cons_of_mem _ (List.mem_append_left _ (List.mem_append_right _ hq))
  have mo : (o, lo1 c3) ∈ W := by rw [e0]; exact List.mem_cons_of_mem _ (List.mem_append_right _ List.mem_cons_self)
  have t0 := List.forall_mem_append.mp mT
  have mt : (tp, .inr (6, fsX6 (.ref ut.1) (.ref ut.2))) ∈ W := t0.1 _ List.mem_cons_self
  have t1 := List.forall_mem_cons.mp t0.2
  have mb : (ut.1, .inl (c1, (500, .inl (fun _ => 0)))) ∈ W := t1.1
  have mn : (ut.2, .inl (c1, (3, .inl (fun _ => 0)))) ∈ W := t1.2 _ List.mem_cons_self
  have fm1 := flM_of mF1
  have fm2 := flM_of mF2
  have hd1 : va_D A ((wCF c1 c3 c4 c5 f1 u1 ++ wCF c1 c3 c4 c5 f2 u2) ++ wT c1 tp ut) := by
    rw [e0] at h
    exact (va_D.r (X := [(x, .inr (7, [.ref f1, .ref f2, .ref tp]))]) h).l
  have hb : ∀ {f : Nat} {u : uF}, va_D A (wCF c1 c3 c4 c5 f u) → va_D A (wCB c1 c4 u.1.1 u.1.2) := fun {f u} hh => ((va_D.r (X := [(f, _)]) hh).l.l.l.l : va_D A (wCB c1 c4 u.1.1 u.1.2))
  have hb1 := hb hd1.l.l
  have hb2 := hb hd1.l.r
  have ok1 := fl_ok (c2 := c2) hne hne5 fm1
  have ok2 := fl_ok (c2 := c2) hne hne5 fm2
  have ndW := h.nd
  obtain ⟨ρ, hρ⟩ := n_role (L := rX x ((f1, u1), (f2, u2), tp, ut) o) (by rw [rX_fst (c1 := c1) (c3 := c3) (c4 := c4) (c5 := c5)]; exact hd.nd)
  have r00 := List.forall_mem_append.mp hρ
  have ro : ρ o = (o, 999) := r00.2 _ List.mem_cons_self
  have r0 := List.forall_mem_cons.mp r00.1
  have r1 := List.forall_mem_append.mp r0.2
  have r2 := List.forall_mem_append.mp r1.1
  have r3 := List.forall_mem_cons.mp r1.2
  have r4 := List.forall_mem_cons.mp r3.2
  refine ⟨?_, nG_K h m0, ρ, ⟨?_, ?_, ?_, ?_, ?_, ?_, ?_, ?_⟩, ⟨?_, ?_, ?_⟩, nG_K h mo, by rw [ro], ?_, ?_, ?_⟩
  · have key : ∀ q ∈ (x, .inr (7, [.ref f1, .ref f2, .ref tp])) :: (((wCF c1 c3 c4 c5 f1 u1 ++ wCF c1 c3 c4 c5 f2 u2) ++ wT c1 tp ut) ++ [(o, lo1 c3)]), eOk c1 c2 c3 c4 c5 q.2 ∧ rOk c2 c4 W q.2 := by
      refine List.forall_mem_cons.mpr ⟨⟨⟨by decide, rfl⟩, rOk_obj (l := [(8, 700, 3), (8, 701, 3), (8, 702, 7)]) (by decide +kernel) ?_⟩, List.forall_mem_append.mpr ⟨List.forall_mem_append.mpr ⟨List.forall_mem_append.mpr ⟨ok1, ok2⟩, ?_⟩, List.forall_mem_cons.mpr ⟨⟨⟨by decide, rfl⟩, rOk_arr⟩, fun _ h => absurd h List.not_mem_nil⟩⟩⟩
      · exact List.forall_mem_cons.mpr ⟨⟨_, fm1.1, rfl⟩, List.forall_mem_cons.mpr ⟨⟨_, fm2.1, rfl⟩, List.forall_mem_cons.mpr ⟨⟨_, mt, rfl⟩, fun _ h => absurd h List.not_mem_nil⟩⟩⟩
      · refine List.forall_mem_append.mpr ⟨List.forall_mem_cons.mpr ⟨⟨⟨by decide, rfl⟩, rOk_obj (l := [(7, 600, 1500), (7, 609, 1003)]) (by decide +kernel) ?_⟩, fun _ h => absurd h List.not_mem_nil⟩, List.forall_mem_cons.mpr ⟨⟨⟨by decide, Or.inl rfl⟩, rOk_arr⟩, List.forall_mem_cons.mpr ⟨⟨⟨by decide, Or.inl rfl⟩, rOk_arr⟩, fun _ h => absurd h List.not_mem_nil⟩⟩⟩
        exact List.forall_mem_cons.mpr ⟨⟨_, mb, kInt hne⟩, List.forall_mem_cons.mpr ⟨⟨_, mn, kInt hne⟩, fun _ h => absurd h List.not_mem_nil⟩⟩
    intro q hq
    exact key q (by rw [← e0]; exact hq)
  · rw [show gR (nG c1 c2 c3 c4 c5 D s v W) 700 x = f1 from nG_R h m0 700]; exact fl_lay h fm1 r2.1
  · rw [show gR (nG c1 c2 c3 c4 c5 D s v W) 701 x = f2 from nG_R h m0 701]; exact fl_lay h fm2 r2.2
  · rw [show gR (nG c1 c2 c3 c4 c5 D s v W) 700 x = f1 from nG_R h m0 700, show gR (nG c1 c2 c3 c4 c5 D s v W) 701 x = f2 from nG_R h m0 701]
    intro e
    have n1 := hd1.l.nd
    rw [List.map_append, List.nodup_append] at n1
    exact n1.2.2 f1 List.mem_cons_self f2 List.mem_cons_self e
  · rw [show gR (nG c1 c2 c3 c4 c5 D s v W) 700 x = f1 from nG_R h m0 700]
    rw [e0, List.map_cons, List.nodup_cons] at ndW
    intro e
    exact ndW.1 (by rw [e, List.map_append, List.map_append, List.map_append]; exact List.mem_append_left _ (List.mem_append_left _ (List.mem_append_left _ List.mem_cons_self)))
  · rw [show gR (nG c1 c2 c3 c4 c5 D s v W) 701 x = f2 from nG_R h m0 701]
    rw [e0, List.map_cons, List.nodup_cons] at ndW
    intro e
    exact ndW.1 (by rw [e, List.map_append, List.map_append, List.map_append]; exact List.mem_append_left _ (List.mem_append_left _ (List.mem_append_right _ List.mem_cons_self)))
  · rw [show gR (nG c1 c2 c3 c4 c5 D s v W) 702 x = tp from nG_R h m0 702]; exact r3.1
  · rw [show gR (nG c1 c2 c3 c4 c5 D s v W) 702 x = tp from nG_R h m0 702, show gR (nG c1 c2 c3 c4 c5 D s v W) 600 tp = ut.1 from nG_R h mt 600]; exact r4.1
  · rw [show gR (nG c1 c2 c3 c4 c5 D s v W) 702 x = tp from nG_R h m0 702, show gR (nG c1 c2 c3 c4 c5 D s v W) 609 tp = ut.2 from nG_R h mt 609]; exact r4.2 _ List.mem_cons_self
  · rw [show gR (nG c1 c2 c3 c4 c5 D s v W) 700 x = f1 from nG_R h m0 700]; exact fl_new hne h fm1 hb1 hk1 r2.1
  · rw [show gR (nG c1 c2 c3 c4 c5 D s v W) 701 x = f2 from nG_R h m0 701]
    obtain ⟨o1, o2, o3⟩ := fl_rows (c2 := c2) (D := D) (s := s) (v := v) hne h fm2 hb2 hk2 r2.2 _ _ rfl rfl
    exact ⟨_, _, o1, o2, o3⟩
  · rw [show gR (nG c1 c2 c3 c4 c5 D s v W) 702 x = tp from nG_R h m0 702]
    exact ⟨by rw [nM_I h mt]; rfl, by decide, fun j hj => absurd hj (Nat.not_lt_zero _)⟩
  · rw [show gR (nG c1 c2 c3 c4 c5 D s v W) 700 x = f1 from nG_R h m0 700]
    intro e
    have a := r2.1 _ List.mem_cons_self
    have a : ρ f1 = (f1, 1) := a
    rw [← e, ro] at a
    have a : (999 : Nat) = 1 := congrArg Prod.snd a
    exact absurd a (by decide)
  · rw [show gR (nG c1 c2 c3 c4 c5 D s v W) 701 x = f2 from nG_R h m0 701]
    intro e
    have a := r2.2 _ List.mem_cons_self
    have a : ρ f2 = (f2, 1) := a
    rw [← e, ro] at a
    have a : (999 : Nat) = 1 := congrArg Prod.snd a
    exact absurd a (by decide)
  · intro e
    have a : ρ x = (x, 1) := r0.1
    rw [← e, ro] at a
    have a : (999 : Nat) = 1 := congrArg Prod.snd a
    exact absurd a (by decide)
theorem m_new {A : Nat → Prop} {c1 c2 c3 c4 c5 : ClassId} {D : va_G} {s v : Nat → Nat} {m : Nat} {u : Nat → Nat} (hne : c1 ≠ c2) (h : va_D A (wM8b c1 c2 c3 m u)) :
    (∀ q ∈ wM8b c1 c2 c3 m u, eOk c1 c2 c3 c4 c5 q.2 ∧ rOk c2 c4 (wM8b c1 c2 c3 m u) q.2) ∧ gK (nG c1 c2 c3 c4 c5 D s v (wM8b c1 c2 c3 m u)) m = 9 ∧ mL (nG c1 c2 c3 c4 c5 D s v (wM8b c1 c2 c3 m u)) m ∧
    mR (nG c1 c2 c3 c4 c5 D s v (wM8b c1 c2 c3 m u)) m (nM (wM8b c1 c2 c3 m u)) [] T0 (fun _ => 0) (fun _ _ => 0) 0 (fun _ => 0) := by
  have inj : ∀ i j : Nat, i < 11 → j < 11 → u i = u j → i = j := by
    have hat : ∀ i : Nat, i < 11 → ∃ e, (wM8b c1 c2 c3 m u)[i + 1]? = some (u i, e) := by
      intro i hi
      rcases (show i = 0 ∨ i = 1 ∨ i = 2 ∨ i = 3 ∨ i = 4 ∨ i = 5 ∨ i = 6 ∨ i = 7 ∨ i = 8 ∨ i = 9 ∨ i = 10 by omega) with rfl | rfl | rfl | rfl | rfl | rfl | rfl | rfl | rfl | rfl | rfl <;> exact ⟨_, rfl⟩
    intro i j hi hj e
    obtain ⟨a, ha⟩ := hat i hi
    obtain ⟨b, hb⟩ := hat j hj
    have := h.1 _ _ _ _ ha hb e
    omega
  generalize hW : wM8b c1 c2 c3 m u = W at h ⊢
  have e0 : W = (m, .inr (8, fsX8 (fun k => .ref (u k)))) :: (u 0, .inl (c1, 684, .inl xM8)) :: wM8c c1 c2 c3 u := hW.symm
  have hm := List.forall_mem_cons.mp (show ∀ q ∈ (m, .inr (8, fsX8 (fun k => .ref (u k)))) :: (u 0, .inl (c1, 684, .inl xM8)) :: wM8c c1 c2 c3 u, q ∈ W from fun q hq => by rw [e0]; exact hq)
  have a0 := List.forall_mem_cons.mp hm.2
  have a1 := List.forall_mem_cons.mp a0.2
  have a2 := List.forall_mem_cons.mp a1.2
  have a3 := List.forall_mem_cons.mp a2.2
  have a4 := List.forall_mem_cons.mp a3.2
  have a5 := List.forall_mem_cons.mp a4.2
  have a6 := List.forall_mem_cons.mp a5.2
  have a7 := List.forall_mem_cons.mp a6.2
  have a8 := List.forall_mem_cons.mp a7.2
  have a9 := List.forall_mem_cons.mp a8.2
  have a10 := List.forall_mem_cons.mp a9.2
  have r800 : gR (nG c1 c2 c3 c4 c5 D s v W) 800 m = u 0 := nG_R h hm.1 800
  have r802 : gR (nG c1 c2 c3 c4 c5 D s v W) 802 m = u 2 := nG_R h hm.1 802
  have ni : ∀ (n : Nat) (g : Nat → Int32), n < 1000 → eOk c1 c2 c3 c4 c5 (.inl (c1, n, .inl g)) ∧ rOk c2 c4 W (.inl (c1, n, .inl g)) := fun n g hn => ⟨⟨hn, Or.inl rfl⟩, rOk_arr⟩
  have nl : ∀ (n : Nat) (g : Nat → Int64), n < 1000 → eOk c1 c2 c3 c4 c5 (.inl (c3, n, .inr (.inl g))) ∧ rOk c2 c4 W (.inl (c3, n, .inr (.inl g))) := fun n g hn => ⟨⟨hn, rfl⟩, rOk_arr⟩
  refine ⟨?_, nG_K h hm.1, ?_, ⟨?_, fun i k hi => absurd hi (Nat.not_lt_zero _)⟩, ?_, ?_, fun i w hi => absurd hi (by show ¬ (i : Int) < 0; omega), ?_, by decide, fun j hj => absurd hj (Nat.not_lt_zero _)⟩
  · have key : ∀ q ∈ (m, .inr (8, fsX8 (fun k => .ref (u k)))) :: (u 0, .inl (c1, 684, .inl xM8)) :: wM8c c1 c2 c3 u, eOk c1 c2 c3 c4 c5 q.2 ∧ rOk c2 c4 W q.2 := by
      refine List.forall_mem_cons.mpr ⟨⟨⟨by decide, rfl⟩, rOk_obj (l := [(9, 800, 1684), (9, 801, 1684), (9, 802, 3010), (9, 803, 3010), (9, 806, 1070), (9, 807, 1070), (9, 808, 1070), (9, 809, 1070), (9, 810, 1070), (9, 821, 2500), (9, 830, 1650)]) (by decide +kernel) ?_⟩, List.forall_mem_cons.mpr ⟨ni _ _ (by decide), List.forall_mem_cons.mpr ⟨ni _ _ (by decide), List.forall_mem_cons.mpr ⟨nl _ _ (by decide), List.forall_mem_cons.mpr ⟨nl _ _ (by decide), List.forall_mem_cons.mpr ⟨ni _ _ (by decide), List.forall_mem_cons.mpr ⟨ni _ _ (by decide), List.forall_mem_cons.mpr ⟨ni _ _ (by decide), List.forall_mem_cons.mpr ⟨ni _ _ (by decide), List.forall_mem_cons.mpr ⟨ni _ _ (by decide), List.forall_mem_cons.mpr ⟨⟨⟨by decide, Or.inr ⟨rfl, fun _ => (by decide : -128 ≤ (0 : Int32).toInt ∧ (0 : Int32).toInt ≤ 127)⟩⟩, rOk_arr⟩, List.forall_mem_cons.mpr ⟨ni _ _ (by decide), fun _ h => absurd h List.not_mem_nil⟩⟩⟩⟩⟩⟩⟩⟩⟩⟩⟩⟩
      exact List.forall_mem_cons.mpr ⟨⟨_, a0.1, kInt hne⟩, List.forall_mem_cons.mpr ⟨⟨_, a1.1, kInt hne⟩, List.forall_mem_cons.mpr ⟨⟨_, a2.1, rfl⟩, List.forall_mem_cons.mpr ⟨⟨_, a3.1, rfl⟩, List.forall_mem_cons.mpr ⟨⟨_, a4.1, kInt hne⟩, List.forall_mem_cons.mpr ⟨⟨_, a5.1, kInt hne⟩, List.forall_mem_cons.mpr ⟨⟨_, a6.1, kInt hne⟩, List.forall_mem_cons.mpr ⟨⟨_, a7.1, kInt hne⟩, List.forall_mem_cons.mpr ⟨⟨_, a8.1, kInt hne⟩, List.forall_mem_cons.mpr ⟨⟨_, a9.1, kByte⟩, List.forall_mem_cons.mpr ⟨⟨_, a10.1, kInt hne⟩, fun _ h => absurd h List.not_mem_nil⟩⟩⟩⟩⟩⟩⟩⟩⟩⟩⟩
    intro q hq
    exact key q (by rw [← e0]; exact hq)
  · have ix : ∀ f ∈ mArr, gR (nG c1 c2 c3 c4 c5 D s v W) f m = u (mArr.idxOf f) := by
      have q := nG_R (c1 := c1) (c2 := c2) (c3 := c3) (c4 := c4) (c5 := c5) (D := D) (s := s) (v := v) h hm.1
      exact List.forall_mem_cons.mpr ⟨q 800, List.forall_mem_cons.mpr ⟨q 801, List.forall_mem_cons.mpr ⟨q 802, List.forall_mem_cons.mpr ⟨q 803, List.forall_mem_cons.mpr ⟨q 806, List.forall_mem_cons.mpr ⟨q 807, List.forall_mem_cons.mpr ⟨q 808, List.forall_mem_cons.mpr ⟨q 809, List.forall_mem_cons.mpr ⟨q 810, List.forall_mem_cons.mpr ⟨q 821, List.forall_mem_cons.mpr ⟨q 830, fun _ h => absurd h List.not_mem_nil⟩⟩⟩⟩⟩⟩⟩⟩⟩⟩⟩
    have i1 : ∀ f ∈ mArr, mArr.idxOf f < 11 := by decide +kernel
    have i2 : ∀ f ∈ mArr, ∀ g ∈ mArr, mArr.idxOf f = mArr.idxOf g → f = g := by decide +kernel
    intro f hf g hg e
    rw [ix f hf, ix g hg] at e
    exact i2 f hf g hg (inj _ _ (i1 f hf) (i1 g hg) e)
  · rw [r800, nM_A h a0.1]
    show (xM8 5).toInt = 0
    decide +kernel
  · intro j hj h5
    rw [r800, nM_A h a0.1]
    have : ∀ j, j < 24 → j ≠ 5 → (xM8 j).toInt = T0 j := by decide +kernel
    exact this j hj h5
  · intro t ht
    rw [r802, nM_A h a2.1]
    rfl
  · rw [nM_I h hm.1]; rfl
theorem T0_ok : kOk ([], T0, (fun _ => 0), (fun _ _ => 0)) := by
  refine ⟨⟨⟨by decide, fun i hi => absurd hi (Nat.not_lt_zero _)⟩, fun j hj => absurd hj (Nat.not_lt_zero _), fun i j hi hj => absurd hj (Nat.not_lt_zero _), fun j hj => absurd hj (Nat.not_lt_zero _), by decide, by decide, by decide, by decide, by decide, by decide, ?_, by decide⟩, ⟨by decide, by decide, by decide, ?_⟩, ?_⟩
  · intro s hs
    rcases (show s = 0 ∨ s = 1 by omega) with rfl | rfl <;> exact Or.inl (by decide)
  · intro j h1 h2
    show in32 (T0 j)
    rw [show T0 j = 0 from by unfold T0; rw [if_neg (by omega), if_neg (by omega), if_neg (by omega)]]
    exact ⟨by omega, by omega⟩
  · intro t ht
    exact (⟨by decide, by decide⟩ : in64 0)
/-- both new objects hold the empty market -/
theorem pR_new {G7 G8 : qG} {ρ : Nat → Nat × Nat} {x m : Nat} {μ7 μ8 : qM} (h1 : cR G7 ρ x μ7 [] T0 (fun _ => 0) (fun _ _ => 0) 0 (fun _ => 0)) (h2 : mR G8 m μ8 [] T0 (fun _ => 0) (fun _ _ => 0) 0 (fun _ => 0)) : pR G7 ρ x G8 m 0 μ7 μ8 :=
  ⟨([], T0, (fun _ => 0), (fun _ _ => 0)), 0, fun _ => 0, h1, h2, T0_ok, by decide⟩
theorem k_ty {U : State} {c : ClassId} {t1 t2 : FieldType} (h1 : ArrOfT U c t1) (h2 : ArrOfT U c t2) : t1 = t2 := by
  obtain ⟨-, k1, a1, p1, b1⟩ := h1 0 (fun _ => .null)
  obtain ⟨-, k2, a2, p2, b2⟩ := h2 0 (fun _ => .null)
  have e : k1 = k2 := Option.some.inj (a1.symm.trans a2)
  rw [e] at b1
  rw [b1] at b2
  cases b2
  rfl
