/-! MACHINE: the constructor of the sharing -/
theorem k_uqo {D : va_G} {cl : List vw_C} {tys : List (ClassId × FieldType)} {U : State} {i j : Nat} {c1 c2 : ClassId} {C : String} (h : va_K D cl tys U) (h1 : tys[i]? = some (c1, .object C)) (h2 : tys[j]? = some (c2, .object C)) : c1 = c2 := by
  obtain ⟨-, -, -, -, -, a⟩ := (h.2 i _ h1).2
  obtain ⟨-, -, -, -, -, b⟩ := (h.2 j _ h2).2
  rw [a] at b
  exact Option.some.inj b
def fsX5 (a b c d e f : Value) : List Value := [a, b, c, d, e, f, .int 0, .int 0]
abbrev wS5 (h0 : Nat) (a b c d e f : Value) : va_W := [(h0, .inr (5, fsX5 a b c d e f))]
abbrev i68 (c1 : ClassId) : va_E := .inl (c1, (68, .inl (fun _ => 0)))
abbrev wS5b (c1 c4 : ClassId) (h0 : Nat) (u : Nat × Nat × Nat × Nat × Nat × Nat) : va_W := wS5 h0 (.ref u.1) (.ref u.2.1) (.ref u.2.2.1) (.ref u.2.2.2.1) (.ref u.2.2.2.2.1) (.ref u.2.2.2.2.2) ++ [(u.1, .inl (c4, 68, .inr (.inr (.inr (.inr (fun _ => none)))))), (u.2.1, i68 c1), (u.2.2.1, i68 c1), (u.2.2.2.1, i68 c1), (u.2.2.2.2.1, i68 c1), (u.2.2.2.2.2, i68 c1)]
set_option maxHeartbeats 8000000 in
set_option maxRecDepth 100000 in
theorem c_X5_init (l : Launch) (D : va_G) (c1 c4 : ClassId) (h0 : Nat) (sz : Nat) : Met l yX5_init wsX5_init ({ frames := 1, cells := 6, slots := 408, locals := 14 }) (va_Pc [.ref h0] (fun U => U.heap.size = sz ∧ va_P D vwCl (wS5 h0 .null .null .null .null .null .null) U.heap ∧ va_K D vwCl [(c1, .int), (c4, .object RX4)] U ∧ va_D (fun _ => True) (wS5 h0 .null .null .null .null .null .null) ∧ va_AO RX4 U))
    (va_Qv (fun _ : Nat × Nat × Nat × Nat × Nat × Nat => True) (fun u t => va_P D vwCl (wS5b c1 c4 h0 u) t.heap ∧ va_D (va_A (wS5 h0 .null .null .null .null .null .null) sz) (wS5b c1 c4 h0 u)) (va_A (wS5 h0 .null .null .null .null .null .null) sz)) 6 408 (va_A (wS5 h0 .null .null .null .null .null .null) sz) := by
  refine Met.ofW (cc := cX5_init) (maxL := 1) (ret := none) (by decide) rfl ?_
  intro p e s m args below meth c s₁ B hml hv
  obtain ⟨rfl, hsz, hP, hK, hD0, hAO⟩ := hv
  have hx := B.exec
  have hb := B.bytes
  have hr := B.returns
  have hts := atoms_spec (ws := wsX5_init) B.pre
  have hown : s.vm.findClass RX5 = some m.cls := findClass_of_methodNamed B.named
  have hin : meth.name = "<init>" := (name_of_methodNamed B.named B.method).1
  subst hsz
  have hD := hD0.self (sz := s.heap.size)
  generalize hAe : va_A (wS5 h0 .null .null .null .null .null .null) s.heap.size = A at hD ⊢
  have hA : ∀ q : Nat, s.heap.size ≤ q → A q := fun q h => by rw [← hAe]; exact Or.inr h
  have hS : va_S A s.heap s.heap [] := va_S.rf
  have hP : va_P D vwCl [(h0, .inr (5, fsX5 .null .null .null .null .null .null))] s.heap := hP
  have hl := lv_entry ([.ref h0]) (n := 1) (Nat.le_of_ble_eq_true rfl)
  rw [lg_entry_eq]
  generalize (lg_sl ([.ref h0]) ++ List.replicate (1 - (lg_sl ([.ref h0])).length) Slot.unset).toArray = ls at hl ⊢
  have hl : lv_has ls 1 [(0, .ref h0)] := hl
  refine lv_aload_n hx hb dX5_init_0 rfl (lv_at hl 0 rfl) ?_
  refine W.objInit hx hb hown (hts (.methodLink RX5 3 objectInit) (by decide +kernel)) (hts (.instanceMethod objectInit) (by decide +kernel)) (hts _ (List.mem_cons_of_mem _ (List.mem_append_left _ (List.mem_of_getElem? (i := 2) rfl)))) rfl (by rw [hml]; exact hl.1) rfl dX5_init_1 (Nat.le_of_ble_eq_true rfl) (Nat.le_of_ble_eq_true rfl) ?_
  refine W.eq (g2 := F0 m 4 ls []) rfl ?_
  refine lv_aload_n hx hb dX5_init_4 rfl (lv_at hl 0 rfl) ?_
  refine lv_bipush hx hb dX5_init_5 (by decide +kernel : (Int8.ofInt 68).toInt32 = (68 : Int32)) ?_
  refine va_newq (C := RX4) (N' := 68) hx hb hown (hts (.classLink RX5 11 RX4) (by decide +kernel)) hAO hK hP hD hS hA (by decide +kernel) (by decide +kernel) (by decide) (by decide) (by decide) dX5_init_7 (fun q0 ca H hK hP hD hS => ?_)
  have eca : ca = c4 := k_uqo (i := 2) (j := 1) hK rfl rfl
  subst eca
  refine va_putF (D := D) (ci := 5) (v := .ref q0) (ty := .array (.object RX4)) (C := RX5) (T := TX5) (N := 8) hx hb hts (by decide +kernel) tyX5 tyX5_ok nmX5 hown hK hP hD hS 0 rfl rfl 0 (by decide) (hts (.fieldLink RX5 13 "ProRataMarket$Sharing" "owner" "[LProRataMarket$Order;") (by decide +kernel)) (fun _ h9 => h9) rfl hin rfl (by decide +kernel) rfl rfl (Nat.le_of_ble_eq_true rfl) dX5_init_10 (fun H locs hP hD hS => ?_)
  refine lv_aload_n hx hb dX5_init_13 rfl (lv_at hl 0 rfl) ?_
  refine lv_bipush hx hb dX5_init_14 (by decide +kernel : (Int8.ofInt 68).toInt32 = (68 : Int32)) ?_
  refine va_newa (atype := .int) (ty := .int) (a0 := (68, .inl (fun _ => 0))) (N' := 68) hx hb (hts (.arrayClass .int) (by decide +kernel)) rfl hK hP hD hS hA (fun cA => rfl) (by decide +kernel) (by decide +kernel) (by decide) (by decide) (by decide) dX5_init_16 (fun q1 cb1 H hK hP hD hS => ?_)
  have ecb : cb1 = c1 := k_uq (i := 3) (j := 0) hK rfl rfl
  subst ecb
  refine va_putF (D := D) (ci := 5) (v := .ref q1) (ty := .array .int) (C := RX5) (T := TX5) (N := 8) hx hb hts (by decide +kernel) tyX5 tyX5_ok nmX5 hown hK hP hD hS 0 rfl rfl 1 (by decide) (hts (.fieldLink RX5 17 "ProRataMarket$Sharing" "size" "[I") (by decide +kernel)) (fun _ h9 => h9) rfl hin rfl (by decide +kernel) rfl rfl (Nat.le_of_ble_eq_true rfl) dX5_init_18 (fun H locs hP hD hS => ?_)
  refine lv_aload_n hx hb dX5_init_21 rfl (lv_at hl 0 rfl) ?_
  refine lv_bipush hx hb dX5_init_22 (by decide +kernel : (Int8.ofInt 68).toInt32 = (68 : Int32)) ?_
  refine va_newa (atype := .int) (ty := .int) (a0 := (68, .inl (fun _ => 0))) (N' := 68) hx hb (hts (.arrayClass .int) (by decide +kernel)) rfl hK hP hD hS hA (fun cA => rfl) (by decide +kernel) (by decide +kernel) (by decide) (by decide) (by decide) dX5_init_24 (fun q2 cb2 H hK hP hD hS => ?_)
  have ecb : cb2 = cb1 := k_uq (i := 4) (j := 0) hK rfl rfl
  subst ecb
  refine va_putF (D := D) (ci := 5) (v := .ref q2) (ty := .array .int) (C := RX5) (T := TX5) (N := 8) hx hb hts (by decide +kernel) tyX5 tyX5_ok nmX5 hown hK hP hD hS 0 rfl rfl 2 (by decide) (hts (.fieldLink RX5 21 "ProRataMarket$Sharing" "grant" "[I") (by decide +kernel)) (fun _ h9 => h9) rfl hin rfl (by decide +kernel) rfl rfl (Nat.le_of_ble_eq_true rfl) dX5_init_26 (fun H locs hP hD hS => ?_)
  refine lv_aload_n hx hb dX5_init_29 rfl (lv_at hl 0 rfl) ?_
  refine lv_bipush hx hb dX5_init_30 (by decide +kernel : (Int8.ofInt 68).toInt32 = (68 : Int32)) ?_
  refine va_newa (atype := .int) (ty := .int) (a0 := (68, .inl (fun _ => 0))) (N' := 68) hx hb (hts (.arrayClass .int) (by decide +kernel)) rfl hK hP hD hS hA (fun cA => rfl) (by decide +kernel) (by decide +kernel) (by decide) (by decide) (by decide) dX5_init_32 (fun q3 cb3 H hK hP hD hS => ?_)
  have ecb : cb3 = cb2 := k_uq (i := 5) (j := 0) hK rfl rfl
  subst ecb
  refine va_putF (D := D) (ci := 5) (v := .ref q3) (ty := .array .int) (C := RX5) (T := TX5) (N := 8) hx hb hts (by decide +kernel) tyX5 tyX5_ok nmX5 hown hK hP hD hS 0 rfl rfl 3 (by decide) (hts (.fieldLink RX5 24 "ProRataMarket$Sharing" "granted" "[I") (by decide +kernel)) (fun _ h9 => h9) rfl hin rfl (by decide +kernel) rfl rfl (Nat.le_of_ble_eq_true rfl) dX5_init_34 (fun H locs hP hD hS => ?_)
  refine lv_aload_n hx hb dX5_init_37 rfl (lv_at hl 0 rfl) ?_
  refine lv_bipush hx hb dX5_init_38 (by decide +kernel : (Int8.ofInt 68).toInt32 = (68 : Int32)) ?_
  refine va_newa (atype := .int) (ty := .int) (a0 := (68, .inl (fun _ => 0))) (N' := 68) hx hb (hts (.arrayClass .int) (by decide +kernel)) rfl hK hP hD hS hA (fun cA => rfl) (by decide +kernel) (by decide +kernel) (by decide) (by decide) (by decide) dX5_init_40 (fun q4 cb4 H hK hP hD hS => ?_)
  have ecb : cb4 = cb3 := k_uq (i := 6) (j := 0) hK rfl rfl
  subst ecb
  refine va_putF (D := D) (ci := 5) (v := .ref q4) (ty := .array .int) (C := RX5) (T := TX5) (N := 8) hx hb hts (by decide +kernel) tyX5 tyX5_ok nmX5 hown hK hP hD hS 0 rfl rfl 4 (by decide) (hts (.fieldLink RX5 27 "ProRataMarket$Sharing" "shared" "[I") (by decide +kernel)) (fun _ h9 => h9) rfl hin rfl (by decide +kernel) rfl rfl (Nat.le_of_ble_eq_true rfl) dX5_init_42 (fun H locs hP hD hS => ?_)
  refine lv_aload_n hx hb dX5_init_45 rfl (lv_at hl 0 rfl) ?_
  refine lv_bipush hx hb dX5_init_46 (by decide +kernel : (Int8.ofInt 68).toInt32 = (68 : Int32)) ?_
  refine va_newa (atype := .int) (ty := .int) (a0 := (68, .inl (fun _ => 0))) (N' := 68) hx hb (hts (.arrayClass .int) (by decide +kernel)) rfl hK hP hD hS hA (fun cA => rfl) (by decide +kernel) (by decide +kernel) (by decide) (by decide) (by decide) dX5_init_48 (fun q5 cb5 H hK hP hD hS => ?_)
  have ecb : cb5 = cb4 := k_uq (i := 7) (j := 0) hK rfl rfl
  subst ecb
  refine va_putF (D := D) (ci := 5) (v := .ref q5) (ty := .array .int) (C := RX5) (T := TX5) (N := 8) hx hb hts (by decide +kernel) tyX5 tyX5_ok nmX5 hown hK hP hD hS 0 rfl rfl 5 (by decide) (hts (.fieldLink RX5 30 "ProRataMarket$Sharing" "over" "[I") (by decide +kernel)) (fun _ h9 => h9) rfl hin rfl (by decide +kernel) rfl rfl (Nat.le_of_ble_eq_true rfl) dX5_init_50 (fun H locs hP hD hS => ?_)
  exact W.vret hx hb hr (fun t ht hW => ⟨⟨(q0, q1, q2, q3, q4, q5), rfl, trivial, by rw [ht]; exact hP, hD⟩, hS.F ht⟩) hS.2.2 dX5_init_53
