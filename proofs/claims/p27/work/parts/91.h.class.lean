/-! MACHINE: the constructor of the class -/
abbrev uT : Type := Nat × Nat
def wT (c1 : ClassId) (h : Nat) (u : uT) : va_W := wT6 h (.ref u.1) (.ref u.2) ++ [(u.1, .inl (c1, (500, .inl (fun _ => 0)))), (u.2, .inl (c1, (3, .inl (fun _ => 0))))]
abbrev uX : Type := (Nat × uF) × (Nat × uF) × Nat × uT
abbrev wX0 (h0 : Nat) : va_W := [(h0, .inr (7, [.null, .null, .null]))]
def wX (c1 c3 c4 c5 : ClassId) (h0 : Nat) (u : uX) : va_W := (h0, .inr (7, [.ref u.1.1, .ref u.2.1.1, .ref u.2.2.1])) :: ((wCF c1 c3 c4 c5 u.1.1 u.1.2 ++ wCF c1 c3 c4 c5 u.2.1.1 u.2.1.2) ++ wT c1 u.2.2.1 u.2.2.2)
set_option maxHeartbeats 16000000 in
set_option maxRecDepth 100000 in
theorem c_X7_init (l : Launch) (D : va_G) (c1 c3 c4 c5 : ClassId) (h0 : Nat) (sz : Nat) : Met l yX7_init wsX7_init ({ frames := 4, cells := 279, slots := 3019, locals := 75 }) (va_Pc [.ref h0] (fun U => U.heap.size = sz ∧ va_P D vwCl (wX0 h0) U.heap ∧ va_K D vwCl [(c1, .int), (c3, .long), (c4, .object RX4), (c5, .array .int)] U ∧ va_D (fun _ => True) (wX0 h0) ∧ kN U))
    (va_Qv (fun u : uX => uFok u.1.2 ∧ uFok u.2.1.2) (fun u t => va_P D vwCl (wX c1 c3 c4 c5 h0 u) t.heap ∧ va_D (va_A (wX0 h0) sz) (wX c1 c3 c4 c5 h0 u)) (va_A (wX0 h0) sz)) 279 3019 (va_A (wX0 h0) sz) := by
  refine Met.ofW (cc := cX7_init) (maxL := 1) (ret := none) (by decide) rfl ?_
  intro p e s m args below meth c s₁ B hml hv
  obtain ⟨rfl, hsz, hP, hK, hD0, hN⟩ := hv
  have hx := B.exec
  have hb := B.bytes
  have hr := B.returns
  have hts := atoms_spec (ws := wsX7_init) B.pre
  have hown : s.vm.findClass RX7 = some m.cls := findClass_of_methodNamed B.named
  have hin : meth.name = "<init>" := (name_of_methodNamed B.named B.method).1
  subst hsz
  have hD := hD0.self (sz := s.heap.size)
  generalize hAe : va_A (wX0 h0) s.heap.size = A at hD ⊢
  have hA : ∀ q : Nat, s.heap.size ≤ q → A q := fun q h => by rw [← hAe]; exact Or.inr h
  have hS : va_S A s.heap s.heap [] := va_S.rf
  obtain ⟨fz, ez⟩ : ∃ z : List Value, z = [.null, .null, .null] := ⟨_, rfl⟩
  obtain ⟨yz, ezy⟩ : ∃ z : va_W, z = [] := ⟨_, rfl⟩
  have nz : fz.length = 3 := by rw [ez]; rfl
  have hP : va_P D vwCl ((h0, .inr (7, fz)) :: yz) s.heap := by rw [ez, ezy]; exact hP
  have hD : va_D A ((h0, .inr (7, fz)) :: yz) := by rw [ez, ezy]; exact hD
  have hl := lv_entry ([.ref h0]) (n := 1) (Nat.le_of_ble_eq_true rfl)
  rw [lg_entry_eq]
  generalize (lg_sl ([.ref h0]) ++ List.replicate (1 - (lg_sl ([.ref h0])).length) Slot.unset).toArray = ls at hl ⊢
  have hl : lv_has ls 1 [(0, .ref h0)] := hl
  refine lv_aload_n hx hb dX7_init_0 rfl (lv_at hl 0 rfl) ?_
  refine W.objInit hx hb hown (hts (.methodLink RX7 1 objectInit) (by decide +kernel)) (hts (.instanceMethod objectInit) (by decide +kernel)) (hts _ (List.mem_cons_of_mem _ (List.mem_append_left _ (List.mem_append_left _ (List.mem_append_left _ (List.mem_append_left _ (List.mem_append_left _ (List.mem_append_left _ (List.mem_append_left _ (List.mem_append_left _ (List.mem_append_left _ (List.mem_of_getElem? (i := 2) rfl)))))))))))) rfl (by rw [hml]; exact hl.1) rfl dX7_init_1 (Nat.le_of_ble_eq_true rfl) (Nat.le_of_ble_eq_true rfl) ?_
  refine W.eq (g2 := F0 m 4 ls []) rfl ?_
  refine lv_aload_n hx hb dX7_init_4 rfl (lv_at hl 0 rfl) ?_
  refine va_new (ci := 2) (fs := (fsX2 .null .null .null .null .null 0 0)) (C := RX2) (T := TX2) (N := 12) hx hb hts (by decide +kernel) tyX2 tyX2_ok hown (hts (.classLink RX7 7 RX2) (by decide +kernel)) (hts (.instantiable RX2 12) (by decide +kernel)) (hts (.initialized RX2) (by decide +kernel)) hK hP hD hS hA rfl (fun j hj => by rcases (show j = 0 ∨ j = 1 ∨ j = 2 ∨ j = 3 ∨ j = 4 ∨ j = 5 ∨ j = 6 ∨ j = 7 ∨ j = 8 ∨ j = 9 ∨ j = 10 ∨ j = 11 by omega) with rfl | rfl | rfl | rfl | rfl | rfl | rfl | rfl | rfl | rfl | rfl | rfl <;> rfl) (by decide) (by decide) dX7_init_5 (fun q0 H hP hD hS => ?_)
  refine lv_dup hx hb dX7_init_8 rfl ?_
  have hPc := k_lastP hP
  have hDc := k_lastD hD
  have hKc := hK.sub (tys' := [(c1, .int), (c3, .long), (c4, .object RX4), (c5, .array .int)]) [0, 1, 2, 3] rfl
  have hFc := k_free hD hS hA
  refine va_callv (va_runIN (As := []) (rest := [.ref q0, .ref h0]) ⟨hx, hb, hml, hown, hts⟩ (c_X2_init l D c1 c3 c4 c5 q0 H.size) ⟨va_cnB 0 hts gX7_init_X2_init_n9 rfl rfl rfl hN.2.2.2.2.2.2.2.1 (hts (.initialized RX2) (by decide +kernel)) (by decide +kernel) ⟨Nat.le_of_ble_eq_true rfl, Nat.le_of_ble_eq_true rfl⟩, rfl, hts (.instanceMethod yX2_init) (by decide +kernel)⟩ ⟨fun a U g mk q => by obtain ⟨q0, q1, qP, qK, qD, x0⟩ := q; exact ⟨q0, q1, qP, va_K.moved (u := U) (U := U.calling g mk a) (Vm.Alike.refl U.vm) qK, qD, x0.same (u := U) (U := U.calling g mk a) rfl⟩, fun U hU hW => ⟨rfl, by rw [hU], by rw [hU]; exact hPc, va_K.moved hW.alike hKc, hDc, hN.on hW⟩⟩ rfl rfl hl.1 rfl (lv_room (Nat.le_of_ble_eq_true rfl)) dX7_init_9 ⟨by decide, by decide⟩) hS (fun q _ h => hFc q h) hFc (fun u0 t H1 locs ht hvm hw0 hB hz1 hk1 hS => ?_)
  obtain ⟨hP1, hD1⟩ := hB
  rw [ht] at hP1
  obtain ⟨hP, hD⟩ := k_join (w1 := wCF c1 c3 c4 c5 q0 u0) hP hD hk1 hFc hP1 hD1
  clear hP1 hD1 hk1 hz1 hvm ht hPc hDc hKc hFc
  generalize H1 = H at hP hS ⊢
  obtain ⟨y0, w0⟩ : ∃ z : va_W, z = yz ++ wCF c1 c3 c4 c5 q0 u0 := ⟨_, rfl⟩
  have hP : va_P D vwCl ((h0, .inr (7, fz)) :: y0) H := by rw [w0]; exact hP
  have hD : va_D A ((h0, .inr (7, fz)) :: y0) := by rw [w0]; exact hD
  refine va_putF (D := D) (ci := 7) (v := .ref q0) (ty := .object RX2) (C := RX7) (T := TX7) (N := 3) hx hb hts (by decide +kernel) tyX7 tyX7_ok nmX7 hown hK hP hD hS 0 rfl rfl 0 (by decide) (hts (.fieldLink RX7 10 "ProRataMarket" "floor" "LProRataMarket$Floor;") (by decide +kernel)) (fun _ h9 => h9) rfl hin rfl (by decide +kernel) rfl rfl (by rw [nz]; decide) dX7_init_12 (fun H locs hP hD hS => ?_)
  obtain ⟨f0, e0⟩ : ∃ z, z = fz.set 0 (.ref q0) := ⟨_, rfl⟩
  have n0 : f0.length = 3 := by rw [e0, List.length_set]; exact nz
  have hP : va_P D vwCl ((h0, .inr (7, f0)) :: y0) H := by rw [e0]; exact hP
  have hD : va_D A ((h0, .inr (7, f0)) :: y0) := by rw [e0]; exact hD
  refine lv_aload_n hx hb dX7_init_15 rfl (lv_at hl 0 rfl) ?_
  refine va_new (ci := 2) (fs := (fsX2 .null .null .null .null .null 0 0)) (C := RX2) (T := TX2) (N := 12) hx hb hts (by decide +kernel) tyX2 tyX2_ok hown (hts (.classLink RX7 7 RX2) (by decide +kernel)) (hts (.instantiable RX2 12) (by decide +kernel)) (hts (.initialized RX2) (by decide +kernel)) hK hP hD hS hA rfl (fun j hj => by rcases (show j = 0 ∨ j = 1 ∨ j = 2 ∨ j = 3 ∨ j = 4 ∨ j = 5 ∨ j = 6 ∨ j = 7 ∨ j = 8 ∨ j = 9 ∨ j = 10 ∨ j = 11 by omega) with rfl | rfl | rfl | rfl | rfl | rfl | rfl | rfl | rfl | rfl | rfl | rfl <;> rfl) (by decide) (by decide) dX7_init_16 (fun q1 H hP hD hS => ?_)
  refine lv_dup hx hb dX7_init_19 rfl ?_
  have hPc := k_lastP hP
  have hDc := k_lastD hD
  have hKc := hK.sub (tys' := [(c1, .int), (c3, .long), (c4, .object RX4), (c5, .array .int)]) [0, 1, 2, 3] rfl
  have hFc := k_free hD hS hA
  refine va_callv (va_runIN (As := []) (rest := [.ref q1, .ref h0]) ⟨hx, hb, hml, hown, hts⟩ (c_X2_init l D c1 c3 c4 c5 q1 H.size) ⟨va_cnB 0 hts gX7_init_X2_init_n9 rfl rfl rfl hN.2.2.2.2.2.2.2.1 (hts (.initialized RX2) (by decide +kernel)) (by decide +kernel) ⟨Nat.le_of_ble_eq_true rfl, Nat.le_of_ble_eq_true rfl⟩, rfl, hts (.instanceMethod yX2_init) (by decide +kernel)⟩ ⟨fun a U g mk q => by obtain ⟨q0, q1, qP, qK, qD, x0⟩ := q; exact ⟨q0, q1, qP, va_K.moved (u := U) (U := U.calling g mk a) (Vm.Alike.refl U.vm) qK, qD, x0.same (u := U) (U := U.calling g mk a) rfl⟩, fun U hU hW => ⟨rfl, by rw [hU], by rw [hU]; exact hPc, va_K.moved hW.alike hKc, hDc, hN.on hW⟩⟩ rfl rfl hl.1 rfl (lv_room (Nat.le_of_ble_eq_true rfl)) dX7_init_20 ⟨by decide, by decide⟩) hS (fun q _ h => hFc q h) hFc (fun u1 t H1 locs ht hvm hw1 hB hz1 hk1 hS => ?_)
  obtain ⟨hP1, hD1⟩ := hB
  rw [ht] at hP1
  obtain ⟨hP, hD⟩ := k_join (w1 := wCF c1 c3 c4 c5 q1 u1) hP hD hk1 hFc hP1 hD1
  clear hP1 hD1 hk1 hz1 hvm ht hPc hDc hKc hFc
  generalize H1 = H at hP hS ⊢
  obtain ⟨y1, w1⟩ : ∃ z : va_W, z = y0 ++ wCF c1 c3 c4 c5 q1 u1 := ⟨_, rfl⟩
  have hP : va_P D vwCl ((h0, .inr (7, f0)) :: y1) H := by rw [w1]; exact hP
  have hD : va_D A ((h0, .inr (7, f0)) :: y1) := by rw [w1]; exact hD
  refine va_putF (D := D) (ci := 7) (v := .ref q1) (ty := .object RX2) (C := RX7) (T := TX7) (N := 3) hx hb hts (by decide +kernel) tyX7 tyX7_ok nmX7 hown hK hP hD hS 0 rfl rfl 1 (by decide) (hts (.fieldLink RX7 16 "ProRataMarket" "trial" "LProRataMarket$Floor;") (by decide +kernel)) (fun _ h9 => h9) rfl hin rfl (by decide +kernel) rfl rfl (by rw [n0]; decide) dX7_init_23 (fun H locs hP hD hS => ?_)
  obtain ⟨f1, e1⟩ : ∃ z, z = f0.set 1 (.ref q1) := ⟨_, rfl⟩
  have n1 : f1.length = 3 := by rw [e1, List.length_set]; exact n0
  have hP : va_P D vwCl ((h0, .inr (7, f1)) :: y1) H := by rw [e1]; exact hP
  have hD : va_D A ((h0, .inr (7, f1)) :: y1) := by rw [e1]; exact hD
  refine lv_aload_n hx hb dX7_init_26 rfl (lv_at hl 0 rfl) ?_
  refine va_new (ci := 6) (fs := (fsX6 .null .null)) (C := RX6) (T := TX6) (N := 12) hx hb hts (by decide +kernel) tyX6 tyX6_ok hown (hts (.classLink RX7 19 RX6) (by decide +kernel)) (hts (.instantiable RX6 12) (by decide +kernel)) (hts (.initialized RX6) (by decide +kernel)) hK hP hD hS hA rfl (fun j hj => by rcases (show j = 0 ∨ j = 1 ∨ j = 2 ∨ j = 3 ∨ j = 4 ∨ j = 5 ∨ j = 6 ∨ j = 7 ∨ j = 8 ∨ j = 9 ∨ j = 10 ∨ j = 11 by omega) with rfl | rfl | rfl | rfl | rfl | rfl | rfl | rfl | rfl | rfl | rfl | rfl <;> rfl) (by decide) (by decide) dX7_init_27 (fun q2 H hP hD hS => ?_)
  refine lv_dup hx hb dX7_init_30 rfl ?_
  have hPc := k_lastP hP
  have hDc := k_lastD hD
  have hKc := hK.sub (tys' := [(c1, .int)]) [0] rfl
  have hFc := k_free hD hS hA
  refine va_callv (va_runIN (As := []) (rest := [.ref q2, .ref h0]) ⟨hx, hb, hml, hown, hts⟩ (c_X6_init l D c1 q2 H.size) ⟨va_cnB 0 hts gX7_init_X6_init_n21 rfl rfl rfl hN.2.2.2.2.2.2.2.2 (hts (.initialized RX6) (by decide +kernel)) (by decide +kernel) ⟨Nat.le_of_ble_eq_true rfl, Nat.le_of_ble_eq_true rfl⟩, rfl, hts (.instanceMethod yX6_init) (by decide +kernel)⟩ ⟨fun a U g mk q => by obtain ⟨q0, q1, qP, qK, qD⟩ := q; exact ⟨q0, q1, qP, va_K.moved (u := U) (U := U.calling g mk a) (Vm.Alike.refl U.vm) qK, qD⟩, fun U hU hW => ⟨rfl, by rw [hU], by rw [hU]; exact hPc, va_K.moved hW.alike hKc, hDc⟩⟩ rfl rfl hl.1 rfl (lv_room (Nat.le_of_ble_eq_true rfl)) dX7_init_31 ⟨by decide, by decide⟩) hS (fun q _ h => hFc q h) hFc (fun u2 t H1 locs ht hvm hw2 hB hz1 hk1 hS => ?_)
  obtain ⟨hP1, hD1⟩ := hB
  rw [ht] at hP1
  obtain ⟨hP, hD⟩ := k_join (w1 := wT c1 q2 u2) hP hD hk1 hFc hP1 hD1
  clear hP1 hD1 hk1 hz1 hvm ht hPc hDc hKc hFc
  generalize H1 = H at hP hS ⊢
  obtain ⟨y2, w2⟩ : ∃ z : va_W, z = y1 ++ wT c1 q2 u2 := ⟨_, rfl⟩
  have hP : va_P D vwCl ((h0, .inr (7, f1)) :: y2) H := by rw [w2]; exact hP
  have hD : va_D A ((h0, .inr (7, f1)) :: y2) := by rw [w2]; exact hD
  refine va_putF (D := D) (ci := 7) (v := .ref q2) (ty := .object RX6) (C := RX7) (T := TX7) (N := 3) hx hb hts (by decide +kernel) tyX7 tyX7_ok nmX7 hown hK hP hD hS 0 rfl rfl 2 (by decide) (hts (.fieldLink RX7 22 "ProRataMarket" "tape" "LProRataMarket$Tape;") (by decide +kernel)) (fun _ h9 => h9) rfl hin rfl (by decide +kernel) rfl rfl (by rw [n1]; decide) dX7_init_34 (fun H locs hP hD hS => ?_)
  obtain ⟨f2, e2⟩ : ∃ z, z = f1.set 2 (.ref q2) := ⟨_, rfl⟩
  have n2 : f2.length = 3 := by rw [e2, List.length_set]; exact n1
  have hP : va_P D vwCl ((h0, .inr (7, f2)) :: y2) H := by rw [e2]; exact hP
  have hD : va_D A ((h0, .inr (7, f2)) :: y2) := by rw [e2]; exact hD
  have ef : f2 = [.ref q0, .ref q1, .ref q2] := by rw [e2, e1, e0, ez]; rfl
  have ey : ((h0, .inr (7, f2)) :: y2 : va_W) = wX c1 c3 c4 c5 h0 ((q0, u0), (q1, u1), q2, u2) := by rw [ef, w2, w1, w0, ezy]; rfl
  rw [ey] at hP hD
  exact W.vret hx hb hr (fun t ht hW => ⟨⟨((q0, u0), (q1, u1), q2, u2), rfl, ⟨hw0, hw1⟩, by rw [ht]; exact hP, hD⟩, hS.F ht⟩) hS.2.2 dX7_init_37
