/-! MACHINE: the cells of a floor, and what the layout makes of them -/
def T0 : Nat → Int := fun j => if j = 0 then 20 else if j = 1 then 2 else if j = 6 ∨ j = 7 then -1 else 0
section KE
variable {c1 c2 c3 c4 c5 : ClassId} {n : Nat}
theorem kInt (hne : c1 ≠ c2) {g : Nat → Int32} : nKe c2 c4 (.inl (c1, n, .inl g)) = 1000 + n := if_neg hne
theorem kByte {g : Nat → Int32} : nKe c2 c4 (.inl (c2, n, .inl g)) = 2000 + n := if_pos rfl
theorem kOrd {g : Nat → Option Nat} : nKe c2 c4 (.inl (c4, n, .inr (.inr (.inr (.inr g))))) = 4000 + n := if_pos rfl
theorem kRowE (hne5 : c5 ≠ c4) {g : Nat → Option Nat} : nKe c2 c4 (.inl (c5, n, .inr (.inr (.inr (.inr g))))) = 5000 + n := if_neg hne5
end KE
theorem wL_e {c1 c3 c5 : ClassId} {h : Nat} {u : uL} : wL c1 c3 c5 h u = ((((wL3 h (.ref u.1) (.ref u.2.2.1) (.ref u.2.2.2) ++ [(u.1, .inl (c5, 60, .inr (.inr (.inr (.inr (fun i => if i < 60 then some (u.2.1 i) else none))))))]) ++ (List.range 60).map (fun i => (u.2.1 i, er5 c1))) ++ [(u.2.2.1, .inl (c1, (10, .inl (fun _ => 0))))]) ++ [(u.2.2.2, .inl (c3, (10, .inr (.inl (fun _ => 0)))))]) := by
  have e : vr_up (fun _ => er5 c1) (rw60 u.2.1) (er5 c1) = fun _ => er5 c1 := by
    funext a
    unfold vr_up
    split <;> rfl
  show ((((wL3 h (.ref u.1) (.ref u.2.2.1) (.ref u.2.2.2) ++ [(u.1, _)]) ++ va_pl ([] ++ rw60 u.2.1) (vr_up (fun _ => er5 c1) (rw60 u.2.1) (er5 c1))) ++ [(u.2.2.1, _)]) ++ [(u.2.2.2, _)]) = _
  rw [e]
  have e2 : va_pl ([] ++ rw60 u.2.1) (fun _ => er5 c1) = (List.range 60).map (fun i => (u.2.1 i, er5 c1)) := by
    show (List.map u.2.1 (List.range 60)).map (fun a => (a, er5 c1)) = _
    rw [List.map_map]
    rfl
  rw [e2]
abbrev i68e (c1 : ClassId) : va_E := .inl (c1, (68, .inl (fun _ => 0)))
/-- all the cells of a floor are there -/
def flM (c1 c3 c4 c5 : ClassId) (W : va_W) (f : Nat) (u : uF) : Prop :=
  (f, .inr (2, fsX2 (.ref u.1.1) (.ref u.2.1.1) (.ref u.2.2.1.1) (.ref u.2.2.2.1) (.ref u.2.2.2.2) 20 2)) ∈ W ∧
  ((u.1.1, .inr (0, [.ref u.1.2.1, .int 0, .ref u.1.2.2.2.1, .ref u.1.2.2.2.2])) ∈ W ∧ wRow c4 u.1.2.1 u.1.2.2.1 ∈ W ∧ (u.1.2.2.2.1, z2i c1) ∈ W ∧ (u.1.2.2.2.2, z2i c1) ∈ W ∧ ∀ a ∈ u.1.2.2.1, (a, z4) ∈ W) ∧
  ((u.2.1.1, .inr (3, fsX3 (.ref u.2.1.2.1) (.ref u.2.1.2.2.2.1) (.ref u.2.1.2.2.2.2))) ∈ W ∧ (u.2.1.2.1, .inl (c5, 60, .inr (.inr (.inr (.inr (fun i => if i < 60 then some (u.2.1.2.2.1 i) else none)))))) ∈ W ∧ (∀ i, i < 60 → (u.2.1.2.2.1 i, er5 c1) ∈ W) ∧ (u.2.1.2.2.2.1, .inl (c1, (10, .inl (fun _ => 0)))) ∈ W ∧ (u.2.1.2.2.2.2, .inl (c3, (10, .inr (.inl (fun _ => 0))))) ∈ W) ∧
  ((u.2.2.1.1, .inr (5, fsX5 (.ref u.2.2.1.2.1) (.ref u.2.2.1.2.2.1) (.ref u.2.2.1.2.2.2.1) (.ref u.2.2.1.2.2.2.2.1) (.ref u.2.2.1.2.2.2.2.2.1) (.ref u.2.2.1.2.2.2.2.2.2))) ∈ W ∧ (u.2.2.1.2.1, .inl (c4, 68, .inr (.inr (.inr (.inr (fun _ => none)))))) ∈ W ∧ (u.2.2.1.2.2.1, i68e c1) ∈ W ∧ (u.2.2.1.2.2.2.1, i68e c1) ∈ W ∧ (u.2.2.1.2.2.2.2.1, i68e c1) ∈ W ∧ (u.2.2.1.2.2.2.2.2.1, i68e c1) ∈ W ∧ (u.2.2.1.2.2.2.2.2.2, i68e c1) ∈ W) ∧
  (u.2.2.2.1, z1) ∈ W ∧ (u.2.2.2.2, z4) ∈ W
theorem flM_of {c1 c3 c4 c5 : ClassId} {W : va_W} {f : Nat} {u : uF} (h : ∀ q ∈ wCF c1 c3 c4 c5 f u, q ∈ W) : flM c1 c3 c4 c5 W f u := by
  have h0 := List.forall_mem_cons.mp h
  have h1 := List.forall_mem_append.mp h0.2
  have h2 := List.forall_mem_append.mp h1.1
  have h3 := List.forall_mem_append.mp h2.1
  have h4 := List.forall_mem_append.mp h3.1
  have b0 := List.forall_mem_cons.mp h4.1
  have b1 := List.forall_mem_cons.mp b0.2
  have b2 := List.forall_mem_cons.mp b1.2
  have b3 := List.forall_mem_cons.mp b2.2
  have hl := h4.2
  rw [wL_e] at hl
  have l0 := List.forall_mem_append.mp hl
  have l1 := List.forall_mem_append.mp l0.1
  have l2 := List.forall_mem_append.mp l1.1
  have l3 := List.forall_mem_append.mp l2.1
  have s0 := List.forall_mem_append.mp h3.2
  have s1 := List.forall_mem_cons.mp s0.2
  have s2 := List.forall_mem_cons.mp s1.2
  have s3 := List.forall_mem_cons.mp s2.2
  have s4 := List.forall_mem_cons.mp s3.2
  have s5 := List.forall_mem_cons.mp s4.2
  exact ⟨h0.1, ⟨b0.1, b1.1, b2.1, b3.1, fun a ha => b3.2 _ (List.mem_map_of_mem (f := fun a => (a, z4)) ha)⟩, ⟨l3.1 _ List.mem_cons_self, l3.2 _ List.mem_cons_self, fun i hi => l2.2 _ (List.mem_map_of_mem (f := fun i => (u.2.1.2.2.1 i, er5 c1)) (List.mem_range.mpr hi)), l1.2 _ List.mem_cons_self, l0.2 _ List.mem_cons_self⟩, ⟨s0.1 _ List.mem_cons_self, s1.1, s2.1, s3.1, s4.1, s5.1, s5.2 _ List.mem_cons_self⟩, h2.2 _ List.mem_cons_self, h1.2 _ List.mem_cons_self⟩
/-- and they are well made -/
theorem fl_ok {c1 c2 c3 c4 c5 : ClassId} (hne : c1 ≠ c2) (hne5 : c5 ≠ c4) {W : va_W} {f : Nat} {u : uF} (hm : flM c1 c3 c4 c5 W f u) : ∀ q ∈ wCF c1 c3 c4 c5 f u, eOk c1 c2 c3 c4 c5 q.2 ∧ rOk c2 c4 W q.2 := by
  obtain ⟨mf, ⟨mb, mr, mt, mg, mo⟩, ⟨ml, mv, mw, mp, mn⟩, ⟨ms, m0, m1, m2, m3, m4, m5⟩, mc, mk⟩ := hm
  have n4 : eOk c1 c2 c3 c4 c5 z4 ∧ rOk c2 c4 W z4 := ⟨⟨by decide, rfl⟩, rOk_obj (l := []) (by decide +kernel) (fun _ h => absurd h List.not_mem_nil)⟩
  have ni : ∀ (n : Nat) (g : Nat → Int32), n < 1000 → eOk c1 c2 c3 c4 c5 (.inl (c1, n, .inl g)) ∧ rOk c2 c4 W (.inl (c1, n, .inl g)) := fun n g hn => ⟨⟨hn, Or.inl rfl⟩, rOk_arr⟩
  show ∀ q ∈ _ :: ((((wCB c1 c4 u.1.1 u.1.2 ++ wL c1 c3 c5 u.2.1.1 u.2.1.2) ++ wS c1 c4 u.2.2.1.1 u.2.2.1.2) ++ [(u.2.2.2.1, z1)]) ++ [(u.2.2.2.2, z4)]), _
  refine List.forall_mem_cons.mpr ⟨⟨⟨by decide, rfl⟩, rOk_obj (l := [(3, 200, 1), (3, 201, 4), (3, 202, 6), (3, 203, 2), (3, 204, 5)]) (by decide +kernel) ?_⟩, List.forall_mem_append.mpr ⟨List.forall_mem_append.mpr ⟨List.forall_mem_append.mpr ⟨List.forall_mem_append.mpr ⟨?_, ?_⟩, ?_⟩, ?_⟩, ?_⟩⟩
  · exact List.forall_mem_cons.mpr ⟨⟨_, mb, rfl⟩, List.forall_mem_cons.mpr ⟨⟨_, ml, rfl⟩, List.forall_mem_cons.mpr ⟨⟨_, ms, rfl⟩, List.forall_mem_cons.mpr ⟨⟨_, mc, rfl⟩, List.forall_mem_cons.mpr ⟨⟨_, mk, rfl⟩, fun _ h => absurd h List.not_mem_nil⟩⟩⟩⟩⟩
  · refine List.forall_mem_cons.mpr ⟨⟨⟨by decide, rfl⟩, rOk_obj (l := [(1, 0, 4060), (1, 2, 1002), (1, 3, 1002)]) (by decide +kernel) ?_⟩, List.forall_mem_cons.mpr ⟨⟨⟨by decide, Or.inl rfl⟩, rOk_arr⟩, List.forall_mem_cons.mpr ⟨ni _ _ (by decide), List.forall_mem_cons.mpr ⟨ni _ _ (by decide), ?_⟩⟩⟩⟩
    · exact List.forall_mem_cons.mpr ⟨⟨_, mr, kOrd⟩, List.forall_mem_cons.mpr ⟨⟨_, mt, kInt hne⟩, List.forall_mem_cons.mpr ⟨⟨_, mg, kInt hne⟩, fun _ h => absurd h List.not_mem_nil⟩⟩⟩
    · intro q hq
      obtain ⟨a, -, rfl⟩ := List.mem_map.mp hq
      exact n4
  · rw [wL_e]
    refine List.forall_mem_append.mpr ⟨List.forall_mem_append.mpr ⟨List.forall_mem_append.mpr ⟨List.forall_mem_append.mpr ⟨List.forall_mem_cons.mpr ⟨⟨⟨by decide, rfl⟩, rOk_obj (l := [(4, 300, 5060), (4, 305, 1010), (4, 306, 3010)]) (by decide +kernel) ?_⟩, fun _ h => absurd h List.not_mem_nil⟩, List.forall_mem_cons.mpr ⟨⟨⟨by decide, Or.inr rfl⟩, rOk_arr⟩, fun _ h => absurd h List.not_mem_nil⟩⟩, ?_⟩, List.forall_mem_cons.mpr ⟨ni _ _ (by decide), fun _ h => absurd h List.not_mem_nil⟩⟩, List.forall_mem_cons.mpr ⟨⟨⟨by decide, rfl⟩, rOk_arr⟩, fun _ h => absurd h List.not_mem_nil⟩⟩
    · exact List.forall_mem_cons.mpr ⟨⟨_, mv, kRowE hne5⟩, List.forall_mem_cons.mpr ⟨⟨_, mp, kInt hne⟩, List.forall_mem_cons.mpr ⟨⟨_, mn, rfl⟩, fun _ h => absurd h List.not_mem_nil⟩⟩⟩
    · intro q hq
      obtain ⟨a, -, rfl⟩ := List.mem_map.mp hq
      exact ni _ _ (by decide)
  · refine List.forall_mem_append.mpr ⟨List.forall_mem_cons.mpr ⟨⟨⟨by decide, rfl⟩, rOk_obj (l := [(6, 500, 4068), (6, 501, 1068), (6, 502, 1068), (6, 503, 1068), (6, 504, 1068), (6, 505, 1068)]) (by decide +kernel) ?_⟩, fun _ h => absurd h List.not_mem_nil⟩, List.forall_mem_cons.mpr ⟨⟨⟨by decide, Or.inl rfl⟩, rOk_arr⟩, List.forall_mem_cons.mpr ⟨ni _ _ (by decide), List.forall_mem_cons.mpr ⟨ni _ _ (by decide), List.forall_mem_cons.mpr ⟨ni _ _ (by decide), List.forall_mem_cons.mpr ⟨ni _ _ (by decide), List.forall_mem_cons.mpr ⟨ni _ _ (by decide), fun _ h => absurd h List.not_mem_nil⟩⟩⟩⟩⟩⟩⟩
    exact List.forall_mem_cons.mpr ⟨⟨_, m0, kOrd⟩, List.forall_mem_cons.mpr ⟨⟨_, m1, kInt hne⟩, List.forall_mem_cons.mpr ⟨⟨_, m2, kInt hne⟩, List.forall_mem_cons.mpr ⟨⟨_, m3, kInt hne⟩, List.forall_mem_cons.mpr ⟨⟨_, m4, kInt hne⟩, List.forall_mem_cons.mpr ⟨⟨_, m5, kInt hne⟩, fun _ h => absurd h List.not_mem_nil⟩⟩⟩⟩⟩⟩
  · exact List.forall_mem_cons.mpr ⟨⟨⟨by decide, rfl⟩, rOk_obj (l := []) (by decide +kernel) (fun _ h => absurd h List.not_mem_nil)⟩, fun _ h => absurd h List.not_mem_nil⟩
  · exact List.forall_mem_cons.mpr ⟨n4, fun _ h => absurd h List.not_mem_nil⟩
/-- the roles of a floor's cells, in their order -/
def rF (f : Nat) (u : uF) : List (Nat × (Nat × Nat)) := (f, (f, 1)) :: ((((((u.1.1, (f, 200)) :: (u.1.2.1, (f, 10)) :: (u.1.2.2.2.1, (f, 12)) :: (u.1.2.2.2.2, (f, 13)) :: u.1.2.2.1.map (fun a => (a, (f, 1000)))) ++ (((([(u.2.1.1, (f, 201))] ++ [(u.2.1.2.1, (f, 300))]) ++ (List.range 60).map (fun i => (u.2.1.2.2.1 i, (f, 2000 + i)))) ++ [(u.2.1.2.2.2.1, (f, 305))]) ++ [(u.2.1.2.2.2.2, (f, 306))])) ++ ([(u.2.2.1.1, (f, 202))] ++ [(u.2.2.1.2.1, (f, 500)), (u.2.2.1.2.2.1, (f, 501)), (u.2.2.1.2.2.2.1, (f, 502)), (u.2.2.1.2.2.2.2.1, (f, 503)), (u.2.2.1.2.2.2.2.2.1, (f, 504)), (u.2.2.1.2.2.2.2.2.2, (f, 505))])) ++ [(u.2.2.2.1, (f, 203))]) ++ [(u.2.2.2.2, (f, 204))])
theorem rF_fst {c1 c3 c4 c5 : ClassId} {f : Nat} {u : uF} : (rF f u).map Prod.fst = (wCF c1 c3 c4 c5 f u).map Prod.fst := by
  show _ = (_ :: ((((wCB c1 c4 u.1.1 u.1.2 ++ wL c1 c3 c5 u.2.1.1 u.2.1.2) ++ wS c1 c4 u.2.2.1.1 u.2.2.1.2) ++ [(u.2.2.2.1, z1)]) ++ [(u.2.2.2.2, z4)]) : va_W).map Prod.fst
  rw [wL_e]
  unfold rF wCB wS
  simp only [List.map_cons, List.map_append, List.map_map, List.map_nil, Function.comp_def]
section FL
variable {A : Nat → Prop} {c1 c2 c3 c4 c5 : ClassId} {D : va_G} {s v : Nat → Nat} {W : va_W} {f : Nat} {u : uF}
theorem fl_R (h : va_D A W) (hm : flM c1 c3 c4 c5 W f u) : ∀ G, G = nG c1 c2 c3 c4 c5 D s v W → (gR G 200 f = u.1.1 ∧ gR G 201 f = u.2.1.1 ∧ gR G 202 f = u.2.2.1.1 ∧ gR G 203 f = u.2.2.2.1 ∧ gR G 204 f = u.2.2.2.2) ∧
    (gR G 0 u.1.1 = u.1.2.1 ∧ gR G 2 u.1.1 = u.1.2.2.2.1 ∧ gR G 3 u.1.1 = u.1.2.2.2.2) ∧ (gR G 300 u.2.1.1 = u.2.1.2.1 ∧ gR G 305 u.2.1.1 = u.2.1.2.2.2.1 ∧ gR G 306 u.2.1.1 = u.2.1.2.2.2.2) ∧
    gR G 500 u.2.2.1.1 = u.2.2.1.2.1 ∧ gR G 501 u.2.2.1.1 = u.2.2.1.2.2.1 ∧ gR G 502 u.2.2.1.1 = u.2.2.1.2.2.2.1 ∧ gR G 503 u.2.2.1.1 = u.2.2.1.2.2.2.2.1 ∧ gR G 504 u.2.2.1.1 = u.2.2.1.2.2.2.2.2.1 ∧ gR G 505 u.2.2.1.1 = u.2.2.1.2.2.2.2.2.2 := by
  rintro G rfl
  obtain ⟨mf, ⟨mb, mr, mt, mg, mo⟩, ⟨ml, mv, mw, mp, mn⟩, ⟨ms, m0, m1, m2, m3, m4, m5⟩, mc, mk⟩ := hm
  exact ⟨⟨nG_R h mf 200, nG_R h mf 201, nG_R h mf 202, nG_R h mf 203, nG_R h mf 204⟩, ⟨nG_R h mb 0, nG_R h mb 2, nG_R h mb 3⟩, ⟨nG_R h ml 300, nG_R h ml 305, nG_R h ml 306⟩, nG_R h ms 500, nG_R h ms 501, nG_R h ms 502, nG_R h ms 503, nG_R h ms 504, nG_R h ms 505⟩
theorem fl_lay (h : va_D A W) (hm : flM c1 c3 c4 c5 W f u) {ρ : Nat → Nat × Nat} (hr : ∀ q ∈ rF f u, ρ q.1 = q.2) : cLay (nG c1 c2 c3 c4 c5 D s v W) ρ f := by
  obtain ⟨⟨r200, r201, r202, r203, r204⟩, ⟨r0, r2, r3⟩, ⟨r300, r305, r306⟩, r500, r501, r502, r503, r504, r505⟩ := fl_R h hm _ rfl
  have h0 := List.forall_mem_cons.mp hr
  have h1 := List.forall_mem_append.mp h0.2
  have h2 := List.forall_mem_append.mp h1.1
  have h3 := List.forall_mem_append.mp h2.1
  have h4 := List.forall_mem_append.mp h3.1
  have b0 := List.forall_mem_cons.mp h4.1
  have b1 := List.forall_mem_cons.mp b0.2
  have b2 := List.forall_mem_cons.mp b1.2
  have b3 := List.forall_mem_cons.mp b2.2
  have l0 := List.forall_mem_append.mp h4.2
  have l1 := List.forall_mem_append.mp l0.1
  have l2 := List.forall_mem_append.mp l1.1
  have l3 := List.forall_mem_append.mp l2.1
  have s0 := List.forall_mem_append.mp h3.2
  have s1 := List.forall_mem_cons.mp s0.2
  have s2 := List.forall_mem_cons.mp s1.2
  have s3 := List.forall_mem_cons.mp s2.2
  have s4 := List.forall_mem_cons.mp s3.2
  have s5 := List.forall_mem_cons.mp s4.2
  have mm : ∀ {x : Nat × (Nat × Nat)}, x ∈ [x] := List.mem_cons_self
  refine List.forall_mem_cons.mpr ⟨h0.1, List.forall_mem_cons.mpr ⟨?_, List.forall_mem_cons.mpr ⟨?_, List.forall_mem_cons.mpr ⟨?_, List.forall_mem_cons.mpr ⟨?_, List.forall_mem_cons.mpr ⟨?_, List.forall_mem_cons.mpr ⟨?_, List.forall_mem_cons.mpr ⟨?_, List.forall_mem_cons.mpr ⟨?_, List.forall_mem_cons.mpr ⟨?_, List.forall_mem_cons.mpr ⟨?_, List.forall_mem_cons.mpr ⟨?_, List.forall_mem_cons.mpr ⟨?_, List.forall_mem_cons.mpr ⟨?_, List.forall_mem_cons.mpr ⟨?_, List.forall_mem_cons.mpr ⟨?_, List.forall_mem_cons.mpr ⟨?_, List.forall_mem_cons.mpr ⟨?_, fun _ h => absurd h List.not_mem_nil⟩⟩⟩⟩⟩⟩⟩⟩⟩⟩⟩⟩⟩⟩⟩⟩⟩⟩
  · show ρ (gR _ 200 f) = _
    rw [r200]; exact b0.1
  · show ρ (gR _ 201 f) = _
    rw [r201]; exact l3.1 _ mm
  · show ρ (gR _ 202 f) = _
    rw [r202]; exact s0.1 _ mm
  · show ρ (gR _ 203 f) = _
    rw [r203]; exact h2.2 _ mm
  · show ρ (gR _ 204 f) = _
    rw [r204]; exact h1.2 _ mm
  · show ρ (gR _ 0 (gR _ 200 f)) = _
    rw [r200, r0]; exact b1.1
  · show ρ (gR _ 2 (gR _ 200 f)) = _
    rw [r200, r2]; exact b2.1
  · show ρ (gR _ 3 (gR _ 200 f)) = _
    rw [r200, r3]; exact b3.1
  · show ρ (gR _ 300 (gR _ 201 f)) = _
    rw [r201, r300]; exact l3.2 _ mm
  · show ρ (gR _ 305 (gR _ 201 f)) = _
    rw [r201, r305]; exact l1.2 _ mm
  · show ρ (gR _ 306 (gR _ 201 f)) = _
    rw [r201, r306]; exact l0.2 _ mm
  · show ρ (gR _ 500 (gR _ 202 f)) = _
    rw [r202, r500]; exact s1.1
  · show ρ (gR _ 501 (gR _ 202 f)) = _
    rw [r202, r501]; exact s2.1
  · show ρ (gR _ 502 (gR _ 202 f)) = _
    rw [r202, r502]; exact s3.1
  · show ρ (gR _ 503 (gR _ 202 f)) = _
    rw [r202, r503]; exact s4.1
  · show ρ (gR _ 504 (gR _ 202 f)) = _
    rw [r202, r504]; exact s5.1
  · show ρ (gR _ 505 (gR _ 202 f)) = _
    rw [r202, r505]; exact s5.2 _ mm
theorem orders_nd (h : va_D A (wCB c1 c4 u.1.1 u.1.2)) {i j : Nat} {a : Nat} (hi : u.1.2.2.1[i]? = some a) (hj : u.1.2.2.1[j]? = some a) : i = j := by
  have hq : ∀ k : Nat, u.1.2.2.1[k]? = some a → (wCB c1 c4 u.1.1 u.1.2)[k + 4]? = some (a, z4) := by
    intro k hk
    unfold wCB
    rw [List.getElem?_cons_succ, List.getElem?_cons_succ, List.getElem?_cons_succ, List.getElem?_cons_succ, List.getElem?_map, hk]
    rfl
  have := h.1 _ _ _ _ (hq i hi) (hq j hj) rfl
  omega
/-- the orders and the rows of trades of a floor -/
theorem fl_rows (hne : c1 ≠ c2) (h : va_D A W) (hm : flM c1 c3 c4 c5 W f u) (hb : va_D A (wCB c1 c4 u.1.1 u.1.2)) (hk : uFok u) {ρ : Nat → Nat × Nat} (hr : ∀ q ∈ rF f u, ρ q.1 = q.2) : ∀ G μ, G = nG c1 c2 c3 c4 c5 D s v W → μ = nM W →
    (∀ i, i < 60 → gQ μ (gR G 0 (gR G 200 f)) i = some (u.1.2.2.1.getD i 0) ∧ gK G (u.1.2.2.1.getD i 0) = 5 ∧ ρ (u.1.2.2.1.getD i 0) = (f, 1000)) ∧ (∀ i j, i < 60 → j < 60 → u.1.2.2.1.getD i 0 = u.1.2.2.1.getD j 0 → i = j) ∧
    ∀ i, i < 60 → gQ μ (gR G 300 (gR G 201 f)) i = some (u.2.1.2.2.1 i) ∧ gK G (u.2.1.2.2.1 i) = 1005 ∧ ρ (u.2.1.2.2.1 i) = (f, 2000 + i) := by
  rintro G μ rfl rfl
  obtain ⟨⟨r200, r201, r202, r203, r204⟩, ⟨r0, r2, r3⟩, ⟨r300, r305, r306⟩, -⟩ := fl_R (c2 := c2) (D := D) (s := s) (v := v) h hm _ rfl
  obtain ⟨mf, ⟨mb, mr, mt, mg, mo⟩, ⟨ml, mv, mw, mp, mn⟩, ⟨ms, m0, m1, m2, m3, m4, m5⟩, mc, mk⟩ := hm
  have h0 := List.forall_mem_cons.mp hr
  have h1 := List.forall_mem_append.mp h0.2
  have h2 := List.forall_mem_append.mp h1.1
  have h3 := List.forall_mem_append.mp h2.1
  have h4 := List.forall_mem_append.mp h3.1
  have b0 := List.forall_mem_cons.mp h4.1
  have b1 := List.forall_mem_cons.mp b0.2
  have b2 := List.forall_mem_cons.mp b1.2
  have b3 := List.forall_mem_cons.mp b2.2
  have l0 := List.forall_mem_append.mp h4.2
  have l1 := List.forall_mem_append.mp l0.1
  have l2 := List.forall_mem_append.mp l1.1
  have hat : ∀ i, i < 60 → u.1.2.2.1[i]? = some (u.1.2.2.1.getD i 0) := fun i hi => by
    rw [List.getD_eq_getElem?_getD, List.getElem?_eq_getElem (by rw [hk.1]; exact hi)]
    rfl
  refine ⟨fun i hi => ⟨?_, ?_, ?_⟩, fun i j hi hj e => orders_nd hb (hat i hi) (by rw [e]; exact hat j hj), fun i hi => ⟨?_, ?_, ?_⟩⟩
  · rw [r200, r0, nM_Q h mr]
    exact hat i hi
  · rw [nG_K h (mo _ (List.mem_of_getElem? (hat i hi)))]
    rfl
  · exact b3.2 _ (List.mem_map_of_mem (f := fun a => (a, (f, 1000))) (List.mem_of_getElem? (hat i hi)))
  · rw [r201, r300, nM_Q h mv]
    exact if_pos hi
  · rw [nG_K h (mw i hi)]
    exact kInt hne
  · exact l2.2 _ (List.mem_map_of_mem (f := fun i => (u.2.1.2.2.1 i, (f, 2000 + i))) (List.mem_range.mpr hi))
/-- a new floor holds the empty market -/
theorem fl_new (hne : c1 ≠ c2) (h : va_D A W) (hm : flM c1 c3 c4 c5 W f u) (hb : va_D A (wCB c1 c4 u.1.1 u.1.2)) (hk : uFok u) {ρ : Nat → Nat × Nat} (hr : ∀ q ∈ rF f u, ρ q.1 = q.2) : cFl (nG c1 c2 c3 c4 c5 D s v W) ρ f (nM W) [] T0 (fun _ => 0) (fun _ _ => 0) := by
  obtain ⟨o1, o2, o3⟩ := fl_rows (c2 := c2) (D := D) (s := s) (v := v) hne h hm hb hk hr _ _ rfl rfl
  obtain ⟨⟨r200, r201, r202, r203, r204⟩, ⟨r0, r2, r3⟩, ⟨r300, r305, r306⟩, -⟩ := fl_R (c2 := c2) (D := D) (s := s) (v := v) h hm _ rfl
  obtain ⟨mf, ⟨mb, mr, mt, mg, mo⟩, ⟨ml, mv, mw, mp, mn⟩, ⟨ms, m0, m1, m2, m3, m4, m5⟩, mc, mk⟩ := hm
  refine ⟨fun i => u.1.2.2.1.getD i 0, u.2.1.2.2.1, 0, ⟨?_, fun i hi => ⟨(o1 i hi).1, (o1 i hi).2.1⟩, o2, fun i k hi => absurd hi (Nat.not_lt_zero _)⟩, fun i hi => (o1 i hi).2.2, ?_, ⟨?_, ?_, ?_, ?_, ?_, ?_⟩, ⟨?_, ?_, ?_, ?_, by decide⟩, ?_, o3, fun i w hi => absurd hi (by show ¬ (i : Int) < 0; omega)⟩
  · rw [r200, nM_I h mb]; rfl
  · intro k hk
    rw [r200, r2, r3, nM_A h mt, nM_A h mg]
    rcases (show k = 0 ∨ k = 1 by omega) with rfl | rfl <;> exact ⟨rfl, rfl⟩
  · rw [nM_I h mf]; rfl
  · rw [nM_I h mf]; rfl
  · rw [nM_I h mf]; rfl
  · rw [nM_I h mf]; rfl
  · rw [nM_I h mf]; rfl
  · rw [nM_I h mf]; rfl
  · rw [r201, nM_I h ml]; rfl
  · rw [r201, nM_I h ml]; rfl
  · rw [r201, nM_I h ml]; rfl
  · rw [r201, nM_I h ml]; rfl
  · intro t ht
    rw [r201, r305, r306, nM_A h mp, nM_A h mn]
    have e : T0 (14 + t) = 0 := by unfold T0; rw [if_neg (by omega), if_neg (by omega), if_neg (by omega)]
    rw [e]
    exact ⟨rfl, rfl⟩
end FL
