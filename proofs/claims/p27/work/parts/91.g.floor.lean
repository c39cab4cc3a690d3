/-! MACHINE: the constructor of a floor -/
abbrev er5 (c1 : ClassId) : va_E := .inl (c1, (5, .inl (fun _ => 0)))
abbrev uL : Type := Nat × (Nat → Nat) × Nat × Nat
abbrev uS : Type := Nat × Nat × Nat × Nat × Nat × Nat
def wL (c1 c3 c5 : ClassId) (h : Nat) (u : uL) : va_W := wL3b c1 c3 c5 (fun _ => er5 c1) h u
def wS (c1 c4 : ClassId) (h : Nat) (u : uS) : va_W := wS5b c1 c4 h u
abbrev uF : Type := (Nat × uB) × (Nat × uL) × (Nat × uS) × Nat × Nat
abbrev fsX2 (a b c d e : Value) (g z : Int32) : List Value := [a, b, c, d, e, .int g, .int z, .int 0, .int 0, .int 0, .int 0, .int 0]
abbrev wF0 (h0 : Nat) : va_W := [(h0, .inr (2, fsX2 .null .null .null .null .null 0 0))]
abbrev z1 : va_E := .inr (1, [.int 0, .int 0, .int 0])
def wCF (c1 c3 c4 c5 : ClassId) (h0 : Nat) (u : uF) : va_W := (h0, .inr (2, fsX2 (.ref u.1.1) (.ref u.2.1.1) (.ref u.2.2.1.1) (.ref u.2.2.2.1) (.ref u.2.2.2.2) 20 2)) :: ((((wCB c1 c4 u.1.1 u.1.2 ++ wL c1 c3 c5 u.2.1.1 u.2.1.2) ++ wS c1 c4 u.2.2.1.1 u.2.2.1.2) ++ [(u.2.2.2.1, z1)]) ++ [(u.2.2.2.2, z4)])
def uFok (u : uF) : Prop := u.1.2.2.1.length = 60 ∧ ∀ i j, i < 60 → j < 60 → u.2.1.2.2.1 i = u.2.1.2.2.1 j → i = j
def kN (U : State) : Prop := va_AO RX4 U ∧ va_AOA .int U ∧ va_Nw (.methodLinkNest RX0 24 yX4_init "ProRataMarket") U ∧ va_Nw (.methodLinkNest RX2 20 yX3_init "ProRataMarket") U ∧ va_Nw (.methodLinkNest RX2 27 yX5_init "ProRataMarket") U ∧ va_Nw (.methodLinkNest RX2 34 yX1_init "ProRataMarket") U ∧ va_Nw (.methodLinkNest RX2 41 yX4_init "ProRataMarket") U ∧ va_Nw (.methodLinkNest RX7 9 yX2_init "ProRataMarket") U ∧ va_Nw (.methodLinkNest RX7 21 yX6_init "ProRataMarket") U
theorem k_AOA_spec {args : Array Value} {s : State} {t : FieldType} (h : (Cond.arrayOver (.array t)).before args s = true) :
    ∃ comp c k, s.vm.findClass (FieldType.array t).toString = some comp ∧ (s.vm.classes.findIdx? fun (x : Class) => match x.kind with | .array component _ => component == comp | _ => false) = some c ∧ s.vm.classes[c]? = some k ∧ k.kind = .array comp (.array t) ∧ s.vm.findClass ("[" ++ (FieldType.array t).toString) = some c := by
  simp only [Cond.before, Cond.holds, Cond.value, beq_iff_eq] at h
  cases hc : s.vm.findClass (FieldType.array t).toString with
  | none => simp [hc] at h
  | some comp =>
    simp only [hc, Option.bind_some, Option.bind_eq_some_iff, Option.map_eq_some_iff] at h
    obtain ⟨c, hi, k, hk, hb⟩ := h
    obtain ⟨hlt, hp, -⟩ := Array.findIdx?_eq_some_iff_getElem.mp hi
    have hkk : s.vm.classes[c] = k := (Array.getElem?_eq_some_iff.mp hk).2
    rw [hkk] at hp
    cases hkind : k.kind with
    | array component ty =>
      rw [hkind] at hb hp
      simp at hb hp
      exact ⟨comp, c, k, rfl, hi, hk, by rw [hkind, hp, hb.1], hb.2⟩
    | _ => rw [hkind] at hb; simp at hb
theorem va_AOA.moved {u U : State} {ty : FieldType} (hvm : u.vm.Alike U.vm) (h : va_AOA ty u) : va_AOA ty U := by
  obtain ⟨comp, c, k, h1, h2, h3, h4, h5⟩ := k_AOA_spec h
  obtain ⟨k', hk', he⟩ := hvm.2.2 _ _ h3
  have hi : (U.vm.classes.findIdx? fun (x : Class) => match x.kind with | .array component _ => component == comp | _ => false) = some c := by
    have e1 := va_idx_bare U.vm comp
    have e2 := va_idx_bare u.vm comp
    have e3 : U.vm.bare = u.vm.bare := by first | exact hvm.bare_eq | exact hvm.bare_eq.symm
    rw [e3] at e1
    exact (e1.symm.trans e2).trans h2
  have hkind : k'.kind = .array comp (.array ty) := by rw [he]; exact h4
  have f1 : U.vm.findClass (FieldType.array ty).toString = some comp := by rw [hvm.findClass]; exact h1
  have f2 : U.vm.findClass ("[" ++ (FieldType.array ty).toString) = some c := by rw [hvm.findClass]; exact h5
  unfold va_AOA Cond.before Cond.holds
  simp only [Cond.value]
  rw [f1, Option.bind_some]
  refine (congrArg (fun o : Option Nat => (o.bind (fun c => (U.vm.classes[c]?).map fun (k : Class) => match k.kind with | .array _ ty' => decide (ty' = FieldType.array ty) && decide (U.vm.findClass ("[" ++ (FieldType.array ty).toString) = some c) | _ => false) == some true)) hi).trans ?_
  simp [hk', hkind, f2]
theorem kN.on {s U : State} (h : kN s) (hW : s.WarmedH U.vm) : kN U := by
  obtain ⟨a, b, c1, c2, c3, c4, c5, c6, c7⟩ := h
  exact ⟨a.moved hW.alike, b.moved hW.alike, va_Nw.warmM hW c1, va_Nw.warmM hW c2, va_Nw.warmM hW c3, va_Nw.warmM hW c4, va_Nw.warmM hW c5, va_Nw.warmM hW c6, va_Nw.warmM hW c7⟩
theorem kN.same {u U : State} (h : kN u) (hv : U.vm = u.vm) : kN U := by
  obtain ⟨a, b, c1, c2, c3, c4, c5, c6, c7⟩ := h
  exact ⟨a.moved (by rw [hv]; exact Vm.Alike.refl u.vm), b.moved (by rw [hv]; exact Vm.Alike.refl u.vm), va_Nw.same rfl hv.symm c1, va_Nw.same rfl hv.symm c2, va_Nw.same rfl hv.symm c3, va_Nw.same rfl hv.symm c4, va_Nw.same rfl hv.symm c5, va_Nw.same rfl hv.symm c6, va_Nw.same rfl hv.symm c7⟩
set_option maxHeartbeats 16000000 in
set_option maxRecDepth 100000 in
theorem c_X2_init (l : Launch) (D : va_G) (c1 c3 c4 c5 : ClassId) (h0 : Nat) (sz : Nat) : Met l yX2_init wsX2_init ({ frames := 3, cells := 137, slots := 1240, locals := 54 }) (va_Pc [.ref h0] (fun U => U.heap.size = sz ∧ va_P D vwCl (wF0 h0) U.heap ∧ va_K D vwCl [(c1, .int), (c3, .long), (c4, .object RX4), (c5, .array .int)] U ∧ va_D (fun _ => True) (wF0 h0) ∧ kN U))
    (va_Qv (fun u : uF => uFok u) (fun u t => va_P D vwCl (wCF c1 c3 c4 c5 h0 u) t.heap ∧ va_D (va_A (wF0 h0) sz) (wCF c1 c3 c4 c5 h0 u)) (va_A (wF0 h0) sz)) 137 1240 (va_A (wF0 h0) sz) := by
  refine Met.ofW (cc := cX2_init) (maxL := 1) (ret := none) (by decide) rfl ?_
  intro p e s m args below meth c s₁ B hml hv
  obtain ⟨rfl, hsz, hP, hK, hD0, hN⟩ := hv
  have hx := B.exec
  have hb := B.bytes
  have hr := B.returns
  have hts := atoms_spec (ws := wsX2_init) B.pre
  have hown : s.vm.findClass RX2 = some m.cls := findClass_of_methodNamed B.named
  have hin : meth.name = "<init>" := (name_of_methodNamed B.named B.method).1
  subst hsz
  have hD := hD0.self (sz := s.heap.size)
  generalize hAe : va_A (wF0 h0) s.heap.size = A at hD ⊢
  have hA : ∀ q : Nat, s.heap.size ≤ q → A q := fun q h => by rw [← hAe]; exact Or.inr h
  have hS : va_S A s.heap s.heap [] := va_S.rf
  obtain ⟨fz, ez⟩ : ∃ z, z = fsX2 .null .null .null .null .null 0 0 := ⟨_, rfl⟩
  obtain ⟨yz, ezy⟩ : ∃ z : va_W, z = [] := ⟨_, rfl⟩
  have nz : fz.length = 12 := by rw [ez]; rfl
  have hP : va_P D vwCl ((h0, .inr (2, fz)) :: yz) s.heap := by rw [ez, ezy]; exact hP
  have hD : va_D A ((h0, .inr (2, fz)) :: yz) := by rw [ez, ezy]; exact hD
  have hl := lv_entry ([.ref h0]) (n := 1) (Nat.le_of_ble_eq_true rfl)
  rw [lg_entry_eq]
  generalize (lg_sl ([.ref h0]) ++ List.replicate (1 - (lg_sl ([.ref h0])).length) Slot.unset).toArray = ls at hl ⊢
  have hl : lv_has ls 1 [(0, .ref h0)] := hl
  refine lv_aload_n hx hb dX2_init_0 rfl (lv_at hl 0 rfl) ?_
  refine W.objInit hx hb hown (hts (.methodLink RX2 3 objectInit) (by decide +kernel)) (hts (.instanceMethod objectInit) (by decide +kernel)) (hts _ (List.mem_cons_of_mem _ (List.mem_append_left _ (List.mem_append_left _ (List.mem_append_left _ (List.mem_append_left _ (List.mem_append_left _ (List.mem_append_left _ (List.mem_append_left _ (List.mem_of_getElem? (i := 2) rfl)))))))))) rfl (by rw [hml]; exact hl.1) rfl dX2_init_1 (Nat.le_of_ble_eq_true rfl) (Nat.le_of_ble_eq_true rfl) ?_
  refine W.eq (g2 := F0 m 4 ls []) rfl ?_
  refine lv_aload_n hx hb dX2_init_4 rfl (lv_at hl 0 rfl) ?_
  refine va_new (ci := 0) (fs := [.null, .int 0, .null, .null]) (C := RX0) (T := TX0) (N := 4) hx hb hts (by decide +kernel) tyX0 tyX0_ok hown (hts (.classLink RX2 9 RX0) (by decide +kernel)) (hts (.instantiable RX0 4) (by decide +kernel)) (hts (.initialized RX0) (by decide +kernel)) hK hP hD hS hA rfl (fun j hj => by rcases (show j = 0 ∨ j = 1 ∨ j = 2 ∨ j = 3 by omega) with rfl | rfl | rfl | rfl <;> rfl) (by decide) (by decide) dX2_init_5 (fun q0 H hP hD hS => ?_)
  refine lv_dup hx hb dX2_init_8 rfl ?_
  have hPc := k_lastP hP
  have hDc := k_lastD hD
  have hKc := hK.sub (tys' := [(c1, .int), (c4, .object RX4)]) [0, 2] rfl
  have hFc := k_free hD hS hA
  refine va_callv (va_runI (As := []) (rest := [.ref q0, .ref h0]) ⟨hx, hb, hml, hown, hts⟩ (c_X0_init l D c1 c4 q0 H.size) (cwI 0 hts gX2_init_X0_init rfl rfl rfl (hts (.initialized RX0) (by decide +kernel)) (hts (.methodLink RX2 11 yX0_init) (by decide +kernel)) (hts (.instanceMethod yX0_init) (by decide +kernel)) rfl (by decide +kernel) ⟨Nat.le_of_ble_eq_true rfl, Nat.le_of_ble_eq_true rfl⟩) ⟨fun a U g mk q => by obtain ⟨q0, q1, qP, qK, qD, x0, x1⟩ := q; exact ⟨q0, q1, qP, va_K.moved (u := U) (U := U.calling g mk a) (Vm.Alike.refl U.vm) qK, qD, x0.moved (u := U) (U := U.calling g mk a) (Vm.Alike.refl U.vm), va_Nw.same (u := U) (U := U.calling g mk a) rfl rfl x1⟩, fun U hU hW => ⟨rfl, by rw [hU], by rw [hU]; exact hPc, va_K.moved hW.alike hKc, hDc, hN.1.moved hW.alike, va_Nw.warmM hW hN.2.2.1⟩⟩ rfl rfl hl.1 rfl (lv_room (Nat.le_of_ble_eq_true rfl)) dX2_init_9 ⟨by decide, by decide⟩) hS (fun q _ h => hFc q h) hFc (fun u0 t H1 locs ht hvm hw0 hB hz1 hk1 hS => ?_)
  obtain ⟨hP1, hD1⟩ := hB
  rw [ht] at hP1
  obtain ⟨hP, hD⟩ := k_join (w1 := wCB c1 c4 q0 u0) hP hD hk1 hFc hP1 hD1
  clear hP1 hD1 hk1 hz1 hvm ht hPc hDc hKc hFc
  generalize H1 = H at hP hS ⊢
  obtain ⟨y0, w0⟩ : ∃ z : va_W, z = yz ++ wCB c1 c4 q0 u0 := ⟨_, rfl⟩
  have hP : va_P D vwCl ((h0, .inr (2, fz)) :: y0) H := by rw [w0]; exact hP
  have hD : va_D A ((h0, .inr (2, fz)) :: y0) := by rw [w0]; exact hD
  refine va_putF (D := D) (ci := 2) (v := .ref q0) (ty := .object RX0) (C := RX2) (T := TX2) (N := 12) hx hb hts (by decide +kernel) tyX2 tyX2_ok nmX2 hown hK hP hD hS 0 rfl rfl 0 (by decide) (hts (.fieldLink RX2 12 "ProRataMarket$Floor" "book" "LProRataMarket$Book;") (by decide +kernel)) (fun _ h9 => h9) rfl hin rfl (by decide +kernel) rfl rfl (by rw [nz]; decide) dX2_init_12 (fun H locs hP hD hS => ?_)
  obtain ⟨f0, e0⟩ : ∃ z, z = fz.set 0 (.ref q0) := ⟨_, rfl⟩
  have n0 : f0.length = 12 := by rw [e0, List.length_set]; exact nz
  have hP : va_P D vwCl ((h0, .inr (2, f0)) :: y0) H := by rw [e0]; exact hP
  have hD : va_D A ((h0, .inr (2, f0)) :: y0) := by rw [e0]; exact hD
  refine lv_aload_n hx hb dX2_init_15 rfl (lv_at hl 0 rfl) ?_
  refine va_new (ci := 3) (fs := [.null, .int 0, .int 0, .int 0, .int 0, .null, .null]) (C := RX3) (T := TX3) (N := 7) hx hb hts (by decide +kernel) tyX3 tyX3_ok hown (hts (.classLink RX2 18 RX3) (by decide +kernel)) (hts (.instantiable RX3 7) (by decide +kernel)) (hts (.initialized RX3) (by decide +kernel)) hK hP hD hS hA rfl (fun j hj => by rcases (show j = 0 ∨ j = 1 ∨ j = 2 ∨ j = 3 ∨ j = 4 ∨ j = 5 ∨ j = 6 by omega) with rfl | rfl | rfl | rfl | rfl | rfl | rfl <;> rfl) (by decide) (by decide) dX2_init_16 (fun q1 H hP hD hS => ?_)
  refine lv_dup hx hb dX2_init_19 rfl ?_
  have hPc := k_lastP hP
  have hDc := k_lastD hD
  have hKc := hK.sub (tys' := [(c1, .int), (c3, .long), (c5, .array .int)]) [0, 1, 3] rfl
  have hFc := k_free hD hS hA
  refine va_callv (va_runIN (As := []) (rest := [.ref q1, .ref h0]) ⟨hx, hb, hml, hown, hts⟩ (c_X3_init l D c1 c3 c5 (fun _ => er5 c1) q1 H.size) ⟨va_cnB 0 hts gX2_init_X3_init_n20 rfl rfl rfl hN.2.2.2.1 (hts (.initialized RX3) (by decide +kernel)) (by decide +kernel) ⟨Nat.le_of_ble_eq_true rfl, Nat.le_of_ble_eq_true rfl⟩, rfl, hts (.instanceMethod yX3_init) (by decide +kernel)⟩ ⟨fun a U g mk q => by obtain ⟨q0, q1, qP, qK, qD, x0⟩ := q; exact ⟨q0, q1, qP, va_K.moved (u := U) (U := U.calling g mk a) (Vm.Alike.refl U.vm) qK, qD, x0.moved (u := U) (U := U.calling g mk a) (Vm.Alike.refl U.vm)⟩, fun U hU hW => ⟨rfl, by rw [hU], by rw [hU]; exact hPc, va_K.moved hW.alike hKc, hDc, hN.2.1.moved hW.alike⟩⟩ rfl rfl hl.1 rfl (lv_room (Nat.le_of_ble_eq_true rfl)) dX2_init_20 ⟨by decide, by decide⟩) hS (fun q _ h => hFc q h) hFc (fun u1 t H1 locs ht hvm hw1 hB hz1 hk1 hS => ?_)
  obtain ⟨hP1, hD1⟩ := hB
  rw [ht] at hP1
  obtain ⟨hP, hD⟩ := k_join (w1 := wL c1 c3 c5 q1 u1) hP hD hk1 hFc hP1 hD1
  clear hP1 hD1 hk1 hz1 hvm ht hPc hDc hKc hFc
  generalize H1 = H at hP hS ⊢
  obtain ⟨y1, w1⟩ : ∃ z : va_W, z = y0 ++ wL c1 c3 c5 q1 u1 := ⟨_, rfl⟩
  have hP : va_P D vwCl ((h0, .inr (2, f0)) :: y1) H := by rw [w1]; exact hP
  have hD : va_D A ((h0, .inr (2, f0)) :: y1) := by rw [w1]; exact hD
  refine va_putF (D := D) (ci := 2) (v := .ref q1) (ty := .object RX3) (C := RX2) (T := TX2) (N := 12) hx hb hts (by decide +kernel) tyX2 tyX2_ok nmX2 hown hK hP hD hS 0 rfl rfl 1 (by decide) (hts (.fieldLink RX2 21 "ProRataMarket$Floor" "ledger" "LProRataMarket$Ledger;") (by decide +kernel)) (fun _ h9 => h9) rfl hin rfl (by decide +kernel) rfl rfl (by rw [n0]; decide) dX2_init_23 (fun H locs hP hD hS => ?_)
  obtain ⟨f1, e1⟩ : ∃ z, z = f0.set 1 (.ref q1) := ⟨_, rfl⟩
  have n1 : f1.length = 12 := by rw [e1, List.length_set]; exact n0
  have hP : va_P D vwCl ((h0, .inr (2, f1)) :: y1) H := by rw [e1]; exact hP
  have hD : va_D A ((h0, .inr (2, f1)) :: y1) := by rw [e1]; exact hD
  refine lv_aload_n hx hb dX2_init_26 rfl (lv_at hl 0 rfl) ?_
  refine va_new (ci := 5) (fs := [.null, .null, .null, .null, .null, .null, .int 0, .int 0]) (C := RX5) (T := TX5) (N := 8) hx hb hts (by decide +kernel) tyX5 tyX5_ok hown (hts (.classLink RX2 25 RX5) (by decide +kernel)) (hts (.instantiable RX5 8) (by decide +kernel)) (hts (.initialized RX5) (by decide +kernel)) hK hP hD hS hA rfl (fun j hj => by rcases (show j = 0 ∨ j = 1 ∨ j = 2 ∨ j = 3 ∨ j = 4 ∨ j = 5 ∨ j = 6 ∨ j = 7 by omega) with rfl | rfl | rfl | rfl | rfl | rfl | rfl | rfl <;> rfl) (by decide) (by decide) dX2_init_27 (fun q2 H hP hD hS => ?_)
  refine lv_dup hx hb dX2_init_30 rfl ?_
  have hPc := k_lastP hP
  have hDc := k_lastD hD
  have hKc := hK.sub (tys' := [(c1, .int), (c4, .object RX4)]) [0, 2] rfl
  have hFc := k_free hD hS hA
  refine va_callv (va_runIN (As := []) (rest := [.ref q2, .ref h0]) ⟨hx, hb, hml, hown, hts⟩ (c_X5_init l D c1 c4 q2 H.size) ⟨va_cnB 0 hts gX2_init_X5_init_n27 rfl rfl rfl hN.2.2.2.2.1 (hts (.initialized RX5) (by decide +kernel)) (by decide +kernel) ⟨Nat.le_of_ble_eq_true rfl, Nat.le_of_ble_eq_true rfl⟩, rfl, hts (.instanceMethod yX5_init) (by decide +kernel)⟩ ⟨fun a U g mk q => by obtain ⟨q0, q1, qP, qK, qD, x0⟩ := q; exact ⟨q0, q1, qP, va_K.moved (u := U) (U := U.calling g mk a) (Vm.Alike.refl U.vm) qK, qD, x0.moved (u := U) (U := U.calling g mk a) (Vm.Alike.refl U.vm)⟩, fun U hU hW => ⟨rfl, by rw [hU], by rw [hU]; exact hPc, va_K.moved hW.alike hKc, hDc, hN.1.moved hW.alike⟩⟩ rfl rfl hl.1 rfl (lv_room (Nat.le_of_ble_eq_true rfl)) dX2_init_31 ⟨by decide, by decide⟩) hS (fun q _ h => hFc q h) hFc (fun u2 t H1 locs ht hvm hw2 hB hz1 hk1 hS => ?_)
  obtain ⟨hP1, hD1⟩ := hB
  rw [ht] at hP1
  obtain ⟨hP, hD⟩ := k_join (w1 := wS c1 c4 q2 u2) hP hD hk1 hFc hP1 hD1
  clear hP1 hD1 hk1 hz1 hvm ht hPc hDc hKc hFc
  generalize H1 = H at hP hS ⊢
  obtain ⟨y2, w2⟩ : ∃ z : va_W, z = y1 ++ wS c1 c4 q2 u2 := ⟨_, rfl⟩
  have hP : va_P D vwCl ((h0, .inr (2, f1)) :: y2) H := by rw [w2]; exact hP
  have hD : va_D A ((h0, .inr (2, f1)) :: y2) := by rw [w2]; exact hD
  refine va_putF (D := D) (ci := 2) (v := .ref q2) (ty := .object RX5) (C := RX2) (T := TX2) (N := 12) hx hb hts (by decide +kernel) tyX2 tyX2_ok nmX2 hown hK hP hD hS 0 rfl rfl 2 (by decide) (hts (.fieldLink RX2 28 "ProRataMarket$Floor" "sharing" "LProRataMarket$Sharing;") (by decide +kernel)) (fun _ h9 => h9) rfl hin rfl (by decide +kernel) rfl rfl (by rw [n1]; decide) dX2_init_34 (fun H locs hP hD hS => ?_)
  obtain ⟨f2, e2⟩ : ∃ z, z = f1.set 2 (.ref q2) := ⟨_, rfl⟩
  have n2 : f2.length = 12 := by rw [e2, List.length_set]; exact n1
  have hP : va_P D vwCl ((h0, .inr (2, f2)) :: y2) H := by rw [e2]; exact hP
  have hD : va_D A ((h0, .inr (2, f2)) :: y2) := by rw [e2]; exact hD
  refine lv_aload_n hx hb dX2_init_37 rfl (lv_at hl 0 rfl) ?_
  refine va_new (ci := 1) (fs := [.int 0, .int 0, .int 0]) (C := RX1) (T := TX1) (N := 3) hx hb hts (by decide +kernel) tyX1 tyX1_ok hown (hts (.classLink RX2 32 RX1) (by decide +kernel)) (hts (.instantiable RX1 3) (by decide +kernel)) (hts (.initialized RX1) (by decide +kernel)) hK hP hD hS hA rfl (fun j hj => by rcases (show j = 0 ∨ j = 1 ∨ j = 2 by omega) with rfl | rfl | rfl <;> rfl) (by decide) (by decide) dX2_init_38 (fun q3 H hP hD hS => ?_)
  refine lv_dup hx hb dX2_init_41 rfl ?_
  refine k_csv (va_runIN (As := []) (rest := [.ref q3, .ref h0]) ⟨hx, hb, hml, hown, hts⟩ (c_X1_init l q3) ⟨va_cnB 0 hts gX2_init_X1_init_n34 rfl rfl rfl hN.2.2.2.2.2.1 (hts (.initialized RX1) (by decide +kernel)) (by decide +kernel) ⟨Nat.le_of_ble_eq_true rfl, Nat.le_of_ble_eq_true rfl⟩, rfl, hts (.instanceMethod yX1_init) (by decide +kernel)⟩ ⟨fun a U g mk q => ⟨q.1, trivial⟩, fun U hU hW => ⟨rfl, trivial⟩⟩ rfl rfl hl.1 rfl (lv_room (Nat.le_of_ble_eq_true rfl)) dX2_init_42 ⟨by decide, by decide⟩) (fun _ => ?_)
  obtain ⟨y3, w3⟩ : ∃ z : va_W, z = y2 ++ [(q3, z1)] := ⟨_, rfl⟩
  have hP : va_P D vwCl ((h0, .inr (2, f2)) :: y3) H := by rw [w3]; exact hP
  have hD : va_D A ((h0, .inr (2, f2)) :: y3) := by rw [w3]; exact hD
  refine va_putF (D := D) (ci := 2) (v := .ref q3) (ty := .object RX1) (C := RX2) (T := TX2) (N := 12) hx hb hts (by decide +kernel) tyX2 tyX2_ok nmX2 hown hK hP hD hS 0 rfl rfl 3 (by decide) (hts (.fieldLink RX2 35 "ProRataMarket$Floor" "clearing" "LProRataMarket$Clearing;") (by decide +kernel)) (fun _ h9 => h9) rfl hin rfl (by decide +kernel) rfl rfl (by rw [n2]; decide) dX2_init_45 (fun H locs hP hD hS => ?_)
  obtain ⟨f3, e3⟩ : ∃ z, z = f2.set 3 (.ref q3) := ⟨_, rfl⟩
  have n3 : f3.length = 12 := by rw [e3, List.length_set]; exact n2
  have hP : va_P D vwCl ((h0, .inr (2, f3)) :: y3) H := by rw [e3]; exact hP
  have hD : va_D A ((h0, .inr (2, f3)) :: y3) := by rw [e3]; exact hD
  refine lv_aload_n hx hb dX2_init_48 rfl (lv_at hl 0 rfl) ?_
  refine va_new (ci := 4) (fs := [.int 0, .int 0, .int 0, .int 0, .int 0, .int 0]) (C := RX4) (T := TX4) (N := 6) hx hb hts (by decide +kernel) tyX4 tyX4_ok hown (hts (.classLink RX2 39 RX4) (by decide +kernel)) (hts (.instantiable RX4 6) (by decide +kernel)) (hts (.initialized RX4) (by decide +kernel)) hK hP hD hS hA rfl (fun j hj => by rcases (show j = 0 ∨ j = 1 ∨ j = 2 ∨ j = 3 ∨ j = 4 ∨ j = 5 by omega) with rfl | rfl | rfl | rfl | rfl | rfl <;> rfl) (by decide) (by decide) dX2_init_49 (fun q4 H hP hD hS => ?_)
  refine lv_dup hx hb dX2_init_52 rfl ?_
  refine k_csv (va_runIN (As := []) (rest := [.ref q4, .ref h0]) ⟨hx, hb, hml, hown, hts⟩ (c_X4_init l q4) ⟨va_cnB 0 hts gX2_init_X4_init_n41 rfl rfl rfl hN.2.2.2.2.2.2.1 (hts (.initialized RX4) (by decide +kernel)) (by decide +kernel) ⟨Nat.le_of_ble_eq_true rfl, Nat.le_of_ble_eq_true rfl⟩, rfl, hts (.instanceMethod yX4_init) (by decide +kernel)⟩ ⟨fun a U g mk q => ⟨q.1, trivial⟩, fun U hU hW => ⟨rfl, trivial⟩⟩ rfl rfl hl.1 rfl (lv_room (Nat.le_of_ble_eq_true rfl)) dX2_init_53 ⟨by decide, by decide⟩) (fun _ => ?_)
  obtain ⟨y4, w4⟩ : ∃ z : va_W, z = y3 ++ [(q4, z4)] := ⟨_, rfl⟩
  have hP : va_P D vwCl ((h0, .inr (2, f3)) :: y4) H := by rw [w4]; exact hP
  have hD : va_D A ((h0, .inr (2, f3)) :: y4) := by rw [w4]; exact hD
  refine va_putF (D := D) (ci := 2) (v := .ref q4) (ty := .object RX4) (C := RX2) (T := TX2) (N := 12) hx hb hts (by decide +kernel) tyX2 tyX2_ok nmX2 hown hK hP hD hS 0 rfl rfl 4 (by decide) (hts (.fieldLink RX2 42 "ProRataMarket$Floor" "coming" "LProRataMarket$Order;") (by decide +kernel)) (fun _ h9 => h9) rfl hin rfl (by decide +kernel) rfl rfl (by rw [n3]; decide) dX2_init_56 (fun H locs hP hD hS => ?_)
  obtain ⟨f4, e4⟩ : ∃ z, z = f3.set 4 (.ref q4) := ⟨_, rfl⟩
  have n4 : f4.length = 12 := by rw [e4, List.length_set]; exact n3
  have hP : va_P D vwCl ((h0, .inr (2, f4)) :: y4) H := by rw [e4]; exact hP
  have hD : va_D A ((h0, .inr (2, f4)) :: y4) := by rw [e4]; exact hD
  refine lv_aload_n hx hb dX2_init_59 rfl (lv_at hl 0 rfl) ?_
  refine lv_bipush hx hb dX2_init_60 (by decide +kernel : (Int8.ofInt 20).toInt32 = (20 : Int32)) ?_
  refine va_put (D := D) (ci := 2) (v := .int 20) (ty := .int) (C := RX2) (T := TX2) (N := 12) hx hb hts (by decide +kernel) tyX2 tyX2_ok nmX2 hown hK hP hD hS 0 rfl rfl 5 (by decide) (hts (.fieldLink RX2 46 "ProRataMarket$Floor" "grant" "I") (by decide +kernel)) (fun _ h9 => h9) rfl (by decide +kernel) rfl rfl (by rw [n4]; decide) dX2_init_62 (fun H locs hP hD hS => ?_)
  obtain ⟨f5, e5⟩ : ∃ z, z = f4.set 5 (.int 20) := ⟨_, rfl⟩
  have n5 : f5.length = 12 := by rw [e5, List.length_set]; exact n4
  have hP : va_P D vwCl ((h0, .inr (2, f5)) :: y4) H := by rw [e5]; exact hP
  have hD : va_D A ((h0, .inr (2, f5)) :: y4) := by rw [e5]; exact hD
  refine lv_aload_n hx hb dX2_init_65 rfl (lv_at hl 0 rfl) ?_
  refine lv_iconst (v := 2) hx hb dX2_init_66 (by decide) ?_
  refine va_put (D := D) (ci := 2) (v := .int 2) (ty := .int) (C := RX2) (T := TX2) (N := 12) hx hb hts (by decide +kernel) tyX2 tyX2_ok nmX2 hown hK hP hD hS 0 rfl rfl 6 (by decide) (hts (.fieldLink RX2 50 "ProRataMarket$Floor" "least" "I") (by decide +kernel)) (fun _ h9 => h9) rfl (by decide +kernel) rfl rfl (by rw [n5]; decide) dX2_init_67 (fun H locs hP hD hS => ?_)
  have ef : f5.set 6 (.int 2) = fsX2 (.ref q0) (.ref q1) (.ref q2) (.ref q3) (.ref q4) 20 2 := by rw [e5, e4, e3, e2, e1, e0, ez]; rfl
  have ey : ((h0, .inr (2, f5.set 6 (.int 2))) :: y4 : va_W) = wCF c1 c3 c4 c5 h0 ((q0, u0), (q1, u1), (q2, u2), q3, q4) := by rw [ef, w4, w3, w2, w1, w0, ezy]; rfl
  have hP : va_P D vwCl ((h0, .inr (2, f5.set 6 (.int 2))) :: y4) H := hP
  have hD : va_D A ((h0, .inr (2, f5.set 6 (.int 2))) :: y4) := hD
  rw [ey] at hP hD
  exact W.vret hx hb hr (fun t ht hW => ⟨⟨((q0, u0), (q1, u1), (q2, u2), q3, q4), rfl, ⟨hw0, hw1⟩, by rw [ht]; exact hP, hD⟩, hS.F ht⟩) hS.2.2 dX2_init_70
