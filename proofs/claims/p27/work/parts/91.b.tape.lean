/-! MACHINE: the constructor of the tape -/
/-- array classes are one by their type -/
theorem k_uq {D : va_G} {cl : List vw_C} {tys : List (ClassId × FieldType)} {U : State} {i j : Nat} {c1 c2 : ClassId} (h : va_K D cl tys U) (h1 : tys[i]? = some (c1, .int)) (h2 : tys[j]? = some (c2, .int)) : c1 = c2 := by
  have a : U.vm.findClass ("[" ++ (FieldType.int).toString) = some c1 := (h.2 i _ h1).2
  have b : U.vm.findClass ("[" ++ (FieldType.int).toString) = some c2 := (h.2 j _ h2).2
  rw [a] at b
  exact Option.some.inj b
def fsX6 (a b : Value) : List Value := [a, .int 0, .int 0, .int 0, .int 0, .int 0, .int 0, .int 0, .int 0, b, .int 0, .int 0]
abbrev wT6 (h0 : Nat) (a b : Value) : va_W := [(h0, .inr (6, fsX6 a b))]
set_option maxHeartbeats 4000000 in
set_option maxRecDepth 100000 in
theorem c_X6_init (l : Launch) (D : va_G) (c1 : ClassId) (h0 : Nat) (sz : Nat) : Met l yX6_init wsX6_init ({ frames := 1, cells := 2, slots := 503, locals := 14 }) (va_Pc [.ref h0] (fun U => U.heap.size = sz ∧ va_P D vwCl (wT6 h0 .null .null) U.heap ∧ va_K D vwCl [(c1, .int)] U ∧ va_D (fun _ => True) (wT6 h0 .null .null)))
    (va_Qv (fun _ : Nat × Nat => True) (fun u t => va_P D vwCl (wT6 h0 (.ref u.1) (.ref u.2) ++ [(u.1, .inl (c1, (500, .inl (fun _ => 0)))), (u.2, .inl (c1, (3, .inl (fun _ => 0))))]) t.heap ∧ va_D (va_A (wT6 h0 .null .null) sz) (wT6 h0 (.ref u.1) (.ref u.2) ++ [(u.1, .inl (c1, (500, .inl (fun _ => 0)))), (u.2, .inl (c1, (3, .inl (fun _ => 0))))])) (va_A (wT6 h0 .null .null) sz)) 2 503 (va_A (wT6 h0 .null .null) sz) := by
  refine Met.ofW (cc := cX6_init) (maxL := 1) (ret := none) (by decide) rfl ?_
  intro p e s m args below meth c s₁ B hml hv
  obtain ⟨rfl, hsz, hP, hK, hD0⟩ := hv
  have hx := B.exec
  have hb := B.bytes
  have hr := B.returns
  have hts := atoms_spec (ws := wsX6_init) B.pre
  have hown : s.vm.findClass RX6 = some m.cls := findClass_of_methodNamed B.named
  have hin : meth.name = "<init>" := (name_of_methodNamed B.named B.method).1
  subst hsz
  have hD := hD0.self (sz := s.heap.size)
  generalize hAe : va_A (wT6 h0 .null .null) s.heap.size = A at hD ⊢
  have hA : ∀ q : Nat, s.heap.size ≤ q → A q := fun q h => by rw [← hAe]; exact Or.inr h
  have hS : va_S A s.heap s.heap [] := va_S.rf
  have hP : va_P D vwCl [(h0, .inr (6, fsX6 .null .null))] s.heap := hP
  have hl := lv_entry ([.ref h0]) (n := 1) (Nat.le_of_ble_eq_true rfl)
  rw [lg_entry_eq]
  generalize (lg_sl ([.ref h0]) ++ List.replicate (1 - (lg_sl ([.ref h0])).length) Slot.unset).toArray = ls at hl ⊢
  have hl : lv_has ls 1 [(0, .ref h0)] := hl
  refine lv_aload_n hx hb dX6_init_0 rfl (lv_at hl 0 rfl) ?_
  refine W.objInit hx hb hown (hts (.methodLink RX6 3 objectInit) (by decide +kernel)) (hts (.instanceMethod objectInit) (by decide +kernel)) (hts _ (List.mem_cons_of_mem _ (List.mem_append_left _ (List.mem_of_getElem? (i := 2) rfl)))) rfl (by rw [hml]; exact hl.1) rfl dX6_init_1 (Nat.le_of_ble_eq_true rfl) (Nat.le_of_ble_eq_true rfl) ?_
  refine W.eq (g2 := F0 m 4 ls []) rfl ?_
  refine lv_aload_n hx hb dX6_init_4 rfl (lv_at hl 0 rfl) ?_
  refine lv_sipush hx hb dX6_init_5 (by decide +kernel : (Int16.ofInt 500).toInt32 = (500 : Int32)) ?_
  refine va_newa (atype := .int) (ty := .int) (a0 := (500, .inl (fun _ => 0))) (N' := 500) hx hb (hts (.arrayClass .int) (by decide +kernel)) rfl hK hP hD hS hA (fun cA => rfl) (by decide +kernel) (by decide +kernel) (by decide) (by decide) (by decide) dX6_init_8 (fun qa ca H hK hP hD hS => ?_)
  have eca : ca = c1 := k_uq (i := 1) (j := 0) hK rfl rfl
  subst eca
  refine va_putF (D := D) (ci := 6) (v := .ref qa) (ty := .array .int) (C := RX6) (T := TX6) (N := 12) hx hb hts (by decide +kernel) tyX6 tyX6_ok nmX6 hown hK hP hD hS 0 rfl rfl 0 (by decide) (hts (.fieldLink RX6 9 "ProRataMarket$Tape" "bytes" "[I") (by decide +kernel)) (fun _ h9 => h9) rfl hin rfl (by decide +kernel) rfl rfl (Nat.le_of_ble_eq_true rfl) dX6_init_10 (fun H locs hP hD hS => ?_)
  refine lv_aload_n hx hb dX6_init_13 rfl (lv_at hl 0 rfl) ?_
  refine lv_iconst hx hb dX6_init_14 rfl ?_
  refine va_newa (atype := .int) (ty := .int) (a0 := (3, .inl (fun _ => 0))) (N' := 3) hx hb (hts (.arrayClass .int) (by decide +kernel)) rfl hK hP hD hS hA (fun cA => rfl) (by decide +kernel) (by decide +kernel) (by decide) (by decide) (by decide) dX6_init_15 (fun qb cb H hK hP hD hS => ?_)
  have ecb : cb = ca := k_uq (i := 2) (j := 0) hK rfl rfl
  subst ecb
  refine va_putF (D := D) (ci := 6) (v := .ref qb) (ty := .array .int) (C := RX6) (T := TX6) (N := 12) hx hb hts (by decide +kernel) tyX6 tyX6_ok nmX6 hown hK hP hD hS 0 rfl rfl 9 (by decide) (hts (.fieldLink RX6 15 "ProRataMarket$Tape" "number" "[I") (by decide +kernel)) (fun _ h9 => h9) rfl hin rfl (by decide +kernel) rfl rfl (Nat.le_of_ble_eq_true rfl) dX6_init_17 (fun H locs hP hD hS => ?_)
  exact W.vret hx hb hr (fun t ht hW => ⟨⟨(qa, qb), rfl, trivial, by rw [ht]; exact hP, hD⟩, hS.F ht⟩) hS.2.2 dX6_init_20
