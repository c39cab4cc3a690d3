/-! MACHINE: the constructor of the ledger -/
theorem k_uqt {D : va_G} {cl : List vw_C} {tys : List (ClassId × FieldType)} {U : State} {i j : Nat} {c1 c2 : ClassId} {n : String} (h : va_K D cl tys U) {ty : FieldType} (h1 : tys[i]? = some (c1, ty)) (h2 : tys[j]? = some (c2, ty)) (hn : ∀ c, va_RA U c ty → U.vm.findClass n = some c) : c1 = c2 := by
  have a := hn _ (h.2 i _ h1).2
  have b := hn _ (h.2 j _ h2).2
  rw [a] at b
  exact Option.some.inj b
def fsX3 (a b c : Value) : List Value := [a, .int 0, .int 0, .int 0, .int 0, b, c]
abbrev wL3 (h0 : Nat) (a b c : Value) : va_W := [(h0, .inr (3, fsX3 a b c))]
abbrev rw60 (r : Nat → Nat) : List Nat := (List.range 60).map r
abbrev wL3b (c1 c3 c5 : ClassId) (f : Nat → va_E) (h0 : Nat) (u : Nat × (Nat → Nat) × Nat × Nat) : va_W :=
  ((((wL3 h0 (.ref u.1) (.ref u.2.2.1) (.ref u.2.2.2) ++ [(u.1, .inl (c5, 60, .inr (.inr (.inr (.inr (fun i => if i < 60 then some (u.2.1 i) else none))))))]) ++ va_pl ([] ++ rw60 u.2.1) (vr_up f (rw60 u.2.1) (.inl (c1, (5, .inl (fun _ => 0)))))) ++ [(u.2.2.1, .inl (c1, (10, .inl (fun _ => 0))))]) ++ [(u.2.2.2, .inl (c3, (10, .inr (.inl (fun _ => 0)))))])
set_option maxHeartbeats 8000000 in
set_option maxRecDepth 100000 in
theorem c_X3_init (l : Launch) (D : va_G) (c1 c3 c5 : ClassId) (f : Nat → va_E) (h0 : Nat) (sz : Nat) : Met l yX3_init wsX3_init ({ frames := 1, cells := 63, slots := 380, locals := 14 }) (va_Pc [.ref h0] (fun U => U.heap.size = sz ∧ va_P D vwCl (wL3 h0 .null .null .null) U.heap ∧ va_K D vwCl [(c1, .int), (c3, .long), (c5, .array .int)] U ∧ va_D (fun _ => True) (wL3 h0 .null .null .null) ∧ va_AOA .int U))
    (va_Qv (fun u : Nat × (Nat → Nat) × Nat × Nat => ∀ i j, i < 60 → j < 60 → u.2.1 i = u.2.1 j → i = j) (fun u t => va_P D vwCl (wL3b c1 c3 c5 f h0 u) t.heap ∧ va_D (va_A (wL3 h0 .null .null .null) sz) (wL3b c1 c3 c5 f h0 u)) (va_A (wL3 h0 .null .null .null) sz)) 63 380 (va_A (wL3 h0 .null .null .null) sz) := by
  refine Met.ofW (cc := cX3_init) (maxL := 1) (ret := none) (by decide) rfl ?_
  intro p e s m args below meth c s₁ B hml hv
  obtain ⟨rfl, hsz, hP, hK, hD0, hAO⟩ := hv
  have hx := B.exec
  have hb := B.bytes
  have hr := B.returns
  have hts := atoms_spec (ws := wsX3_init) B.pre
  have hown : s.vm.findClass RX3 = some m.cls := findClass_of_methodNamed B.named
  have hin : meth.name = "<init>" := (name_of_methodNamed B.named B.method).1
  subst hsz
  have hD := hD0.self (sz := s.heap.size)
  generalize hAe : va_A (wL3 h0 .null .null .null) s.heap.size = A at hD ⊢
  have hA : ∀ q : Nat, s.heap.size ≤ q → A q := fun q h => by rw [← hAe]; exact Or.inr h
  have hS : va_S A s.heap s.heap [] := va_S.rf
  have hc1 : s.vm.findClass (FieldType.array .int).toString = some c1 := (hK.2 0 _ rfl).2
  have hP : va_P D vwCl ([(h0, .inr (3, fsX3 .null .null .null))] ++ va_pl [] f) s.heap := hP
  have hD : va_D A ([(h0, .inr (3, fsX3 .null .null .null))] ++ va_pl [] f) := hD
  have hl := lv_entry ([.ref h0]) (n := 1) (Nat.le_of_ble_eq_true rfl)
  rw [lg_entry_eq]
  generalize (lg_sl ([.ref h0]) ++ List.replicate (1 - (lg_sl ([.ref h0])).length) Slot.unset).toArray = ls at hl ⊢
  have hl : lv_has ls 1 [(0, .ref h0)] := hl
  refine lv_aload_n hx hb dX3_init_0 rfl (lv_at hl 0 rfl) ?_
  refine W.objInit hx hb hown (hts (.methodLink RX3 3 objectInit) (by decide +kernel)) (hts (.instanceMethod objectInit) (by decide +kernel)) (hts _ (List.mem_cons_of_mem _ (List.mem_append_left _ (List.mem_of_getElem? (i := 2) rfl)))) rfl (by rw [hml]; exact hl.1) rfl dX3_init_1 (Nat.le_of_ble_eq_true rfl) (Nat.le_of_ble_eq_true rfl) ?_
  refine W.eq (g2 := F0 m 4 ls []) rfl ?_
  refine lv_aload_n hx hb dX3_init_4 rfl (lv_at hl 0 rfl) ?_
  refine lv_bipush hx hb dX3_init_5 (by decide +kernel : (Int8.ofInt 60).toInt32 = (60 : Int32)) ?_
  refine lv_iconst hx hb dX3_init_7 rfl ?_
  refine va_mna (ty := .int) (cy := c1) (N' := 60) (K' := 5) (z := (5, .inl (fun _ => 0))) hx hb hown (hts (.classLink RX3 9 "[[I") (by decide +kernel)) hAO (hts (.arrayClass .int) (by decide +kernel)) hc1 hK hP hD hS hA (by decide +kernel) (by decide +kernel) (by decide +kernel) (by decide +kernel) (by decide) (by decide) (by decide) rfl rfl (by decide) (by decide) (fun c => rfl) dX3_init_8 (fun q0 r ca H hinj hnot hK hP hD hS => ?_)
  have eca : ca = c5 := k_uqt (n := "[" ++ (FieldType.array .int).toString) (i := 3) (j := 2) hK rfl rfl (fun _ h => h)
  subst eca
  refine va_putF (D := D) (ci := 3) (v := .ref q0) (ty := .array (.array .int)) (C := RX3) (T := TX3) (N := 7) hx hb hts (by decide +kernel) tyX3 tyX3_ok nmX3 hown hK hP hD hS 0 rfl rfl 0 (by decide) (hts (.fieldLink RX3 11 "ProRataMarket$Ledger" "trades" "[[I") (by decide +kernel)) (fun _ h9 => h9) rfl hin rfl (by decide +kernel) rfl rfl (Nat.le_of_ble_eq_true rfl) dX3_init_12 (fun H locs hP hD hS => ?_)
  refine lv_aload_n hx hb dX3_init_15 rfl (lv_at hl 0 rfl) ?_
  refine lv_bipush hx hb dX3_init_16 (by decide +kernel : (Int8.ofInt 10).toInt32 = (10 : Int32)) ?_
  refine va_newa (atype := .int) (ty := .int) (a0 := (10, .inl (fun _ => 0))) (N' := 10) hx hb (hts (.arrayClass .int) (by decide +kernel)) rfl hK hP hD hS hA (fun cA => rfl) (by decide +kernel) (by decide +kernel) (by decide) (by decide) (by decide) dX3_init_18 (fun q1 cb H hK hP hD hS => ?_)
  have ecb : cb = c1 := k_uq (i := 4) (j := 0) hK rfl rfl
  subst ecb
  refine va_putF (D := D) (ci := 3) (v := .ref q1) (ty := .array .int) (C := RX3) (T := TX3) (N := 7) hx hb hts (by decide +kernel) tyX3 tyX3_ok nmX3 hown hK hP hD hS 0 rfl rfl 5 (by decide) (hts (.fieldLink RX3 16 "ProRataMarket$Ledger" "position" "[I") (by decide +kernel)) (fun _ h9 => h9) rfl hin rfl (by decide +kernel) rfl rfl (Nat.le_of_ble_eq_true rfl) dX3_init_20 (fun H locs hP hD hS => ?_)
  refine lv_aload_n hx hb dX3_init_23 rfl (lv_at hl 0 rfl) ?_
  refine lv_bipush hx hb dX3_init_24 (by decide +kernel : (Int8.ofInt 10).toInt32 = (10 : Int32)) ?_
  refine va_newa (atype := .long) (ty := .long) (a0 := (10, .inr (.inl (fun _ => 0)))) (N' := 10) hx hb (hts (.arrayClass .long) (by decide +kernel)) rfl hK hP hD hS hA (fun cA => rfl) (by decide +kernel) (by decide +kernel) (by decide) (by decide) (by decide) dX3_init_26 (fun q2 cd H hK hP hD hS => ?_)
  have ecd : cd = c3 := k_uqt (n := "[" ++ (FieldType.long).toString) (i := 5) (j := 1) hK rfl rfl (fun _ h => h)
  subst ecd
  refine va_putF (D := D) (ci := 3) (v := .ref q2) (ty := .array .long) (C := RX3) (T := TX3) (N := 7) hx hb hts (by decide +kernel) tyX3 tyX3_ok nmX3 hown hK hP hD hS 0 rfl rfl 6 (by decide) (hts (.fieldLink RX3 20 "ProRataMarket$Ledger" "money" "[J") (by decide +kernel)) (fun _ h9 => h9) rfl hin rfl (by decide +kernel) rfl rfl (Nat.le_of_ble_eq_true rfl) dX3_init_28 (fun H locs hP hD hS => ?_)
  exact W.vret hx hb hr (fun t ht hW => ⟨⟨(q0, r, q1, q2), rfl, hinj, by rw [ht]; exact hP, hD⟩, hS.F ht⟩) hS.2.2 dX3_init_31
