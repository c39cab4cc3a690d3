/-! MACHINE: the constructor of the reference -/
def fsX8 (a : Nat → Value) : List Value := [a 0, a 1, a 2, a 3, .int 0, .int 0, a 4, a 5, a 6, a 7, a 8, .int 0, .int 0, .int 0, .int 0, .int 0, .long 0, .int 0, .int 0, .int 0, .int 0, a 9, .int 0, .int 0, .int 0, .int 0, .int 0, .int 0, .int 0, .int 0, a 10, .int 0]
abbrev wM8 (h0 : Nat) : va_W := [(h0, .inr (8, fsX8 (fun _ => .null)))]
abbrev xM8 : Nat → Int32 := upd (upd (upd (upd (fun _ => 0) (Int32.toNatClampNeg 0) 20) (Int32.toNatClampNeg 1) 2) (Int32.toNatClampNeg 6) (-1)) (Int32.toNatClampNeg 7) (-1)
def wM8c (c1 c2 c3 : ClassId) (u : Nat → Nat) : va_W := [(u 1, .inl (c1, 684, .inl (fun _ => 0))), (u 2, .inl (c3, 10, .inr (.inl (fun _ => 0)))), (u 3, .inl (c3, 10, .inr (.inl (fun _ => 0)))), (u 4, .inl (c1, 70, .inl (fun _ => 0))), (u 5, .inl (c1, 70, .inl (fun _ => 0))), (u 6, .inl (c1, 70, .inl (fun _ => 0))), (u 7, .inl (c1, 70, .inl (fun _ => 0))), (u 8, .inl (c1, 70, .inl (fun _ => 0))), (u 9, .inl (c2, 500, .inl (fun _ => 0))), (u 10, .inl (c1, 650, .inl (fun _ => 0)))]
abbrev wM8b (c1 c2 c3 : ClassId) (h0 : Nat) (u : Nat → Nat) : va_W := (h0, .inr (8, fsX8 (fun k => .ref (u k)))) :: (u 0, .inl (c1, 684, .inl xM8)) :: wM8c c1 c2 c3 u
def u11 (a b c d e f g h i j k : Nat) : Nat → Nat := fun n => [a, b, c, d, e, f, g, h, i, j, k].getD n 0
theorem fs8_sets (a b c d e f g h i j k : Nat) : ((((((((((((fsX8 (fun _ => .null)).set 0 (.ref a)).set 1 (.ref b)).set 2 (.ref c)).set 3 (.ref d)).set 6 (.ref e)).set 7 (.ref f)).set 8 (.ref g)).set 9 (.ref h)).set 10 (.ref i)).set 21 (.ref j)).set 30 (.ref k)) = fsX8 (fun n => .ref (u11 a b c d e f g h i j k n)) := rfl
set_option maxHeartbeats 16000000 in
set_option maxRecDepth 100000 in
theorem c_X8_init (l : Launch) (D : va_G) (c1 c2 c3 : ClassId) (h0 : Nat) (sz : Nat) : Met l yX8_init wsX8_init ({ frames := 1, cells := 11, slots := 2888, locals := 16 }) (va_Pc [.ref h0] (fun U => U.heap.size = sz ∧ va_P D vwCl (wM8 h0) U.heap ∧ va_K D vwCl [(c1, .int), (c2, .byte), (c3, .long)] U ∧ va_D (fun _ => True) (wM8 h0)))
    (va_Qv (fun _ : Nat → Nat => True) (fun u t => va_P D vwCl (wM8b c1 c2 c3 h0 u) t.heap ∧ va_D (va_A (wM8 h0) sz) (wM8b c1 c2 c3 h0 u)) (va_A (wM8 h0) sz)) 11 2888 (va_A (wM8 h0) sz) := by
  refine Met.ofW (cc := cX8_init) (maxL := 1) (ret := none) (by decide) rfl ?_
  intro p e s m args below meth c s₁ B hml hv
  obtain ⟨rfl, hsz, hP, hK, hD0⟩ := hv
  have hx := B.exec
  have hb := B.bytes
  have hr := B.returns
  have hts := atoms_spec (ws := wsX8_init) B.pre
  have hown : s.vm.findClass RX8 = some m.cls := findClass_of_methodNamed B.named
  have hin : meth.name = "<init>" := (name_of_methodNamed B.named B.method).1
  subst hsz
  have hD := hD0.self (sz := s.heap.size)
  generalize hAe : va_A (wM8 h0) s.heap.size = A at hD ⊢
  have hA : ∀ q : Nat, s.heap.size ≤ q → A q := fun q h => by rw [← hAe]; exact Or.inr h
  have hS : va_S A s.heap s.heap [] := va_S.rf
  obtain ⟨fz, ez⟩ : ∃ z, z = fsX8 (fun _ => .null) := ⟨_, rfl⟩
  have nz : fz.length = 32 := by rw [ez]; rfl
  have hP : va_P D vwCl [(h0, .inr (8, fz))] s.heap := by rw [ez]; exact hP
  have hD : va_D A [(h0, .inr (8, fz))] := by rw [ez]; exact hD
  have hl := lv_entry ([.ref h0]) (n := 1) (Nat.le_of_ble_eq_true rfl)
  rw [lg_entry_eq]
  generalize (lg_sl ([.ref h0]) ++ List.replicate (1 - (lg_sl ([.ref h0])).length) Slot.unset).toArray = ls at hl ⊢
  have hl : lv_has ls 1 [(0, .ref h0)] := hl
  refine lv_aload_n hx hb dX8_init_0 rfl (lv_at hl 0 rfl) ?_
  refine W.objInit hx hb hown (hts (.methodLink RX8 1 objectInit) (by decide +kernel)) (hts (.instanceMethod objectInit) (by decide +kernel)) (hts _ (List.mem_cons_of_mem _ (List.mem_append_left _ (List.mem_of_getElem? (i := 2) rfl)))) rfl (by rw [hml]; exact hl.1) rfl dX8_init_1 (Nat.le_of_ble_eq_true rfl) (Nat.le_of_ble_eq_true rfl) ?_
  refine W.eq (g2 := F0 m 4 ls []) rfl ?_
  refine lv_aload_n hx hb dX8_init_4 rfl (lv_at hl 0 rfl) ?_
  refine lv_sipush hx hb dX8_init_5 (by decide +kernel : (Int16.ofInt 684).toInt32 = (684 : Int32)) ?_
  refine va_newa (atype := .int) (ty := .int) (a0 := (684, .inl (fun _ => 0))) (N' := 684) hx hb (hts (.arrayClass .int) (by decide +kernel)) rfl hK hP hD hS hA (fun cA => rfl) (by decide +kernel) (by decide +kernel) (by decide) (by decide) (by decide) dX8_init_8 (fun q0 cb H hKn hP hD hS => ?_)
  have ecb : cb = c1 := k_uqt (n := "[" ++ (FieldType.int).toString) (i := 3) (j := 0) hKn rfl rfl (fun _ h => h)
  rw [ecb] at hP hD
  clear hKn ecb
  refine va_putF (D := D) (ci := 8) (v := .ref q0) (ty := .array .int) (C := RX8) (T := TX8) (N := 32) hx hb hts (by decide +kernel) tyX8 tyX8_ok nmX8 hown hK hP hD hS 0 rfl rfl 0 (by decide) (hts (.fieldLink RX8 7 "ProRataMarketModel" "x" "[I") (by decide +kernel)) (fun _ h9 => h9) rfl hin rfl (by decide +kernel) rfl rfl (by rw [nz]; decide) dX8_init_10 (fun H locs hP hD hS => ?_)
  obtain ⟨f0, e0⟩ : ∃ z, z = fz.set 0 (.ref q0) := ⟨_, rfl⟩
  have n0 : f0.length = 32 := by rw [e0, List.length_set]; exact nz
  have hP : va_P D vwCl [(h0, .inr (8, f0)), (q0, .inl (c1, 684, .inl (fun _ => 0)))] H := by rw [e0]; exact hP
  have hD : va_D A [(h0, .inr (8, f0)), (q0, .inl (c1, 684, .inl (fun _ => 0)))] := by rw [e0]; exact hD
  obtain ⟨y0, z0⟩ : ∃ z : va_W, z = [] := ⟨_, rfl⟩
  have hP : va_P D vwCl ((h0, .inr (8, f0)) :: (q0, .inl (c1, 684, .inl (fun _ => 0))) :: y0) H := by rw [z0]; exact hP
  have hD : va_D A ((h0, .inr (8, f0)) :: (q0, .inl (c1, 684, .inl (fun _ => 0))) :: y0) := by rw [z0]; exact hD
  refine lv_aload_n hx hb dX8_init_13 rfl (lv_at hl 0 rfl) ?_
  refine lv_sipush hx hb dX8_init_14 (by decide +kernel : (Int16.ofInt 684).toInt32 = (684 : Int32)) ?_
  refine va_newa (atype := .int) (ty := .int) (a0 := (684, .inl (fun _ => 0))) (N' := 684) hx hb (hts (.arrayClass .int) (by decide +kernel)) rfl hK hP hD hS hA (fun cA => rfl) (by decide +kernel) (by decide +kernel) (by decide) (by decide) (by decide) dX8_init_17 (fun q1 cb H hKn hP hD hS => ?_)
  have ecb : cb = c1 := k_uqt (n := "[" ++ (FieldType.int).toString) (i := 3) (j := 0) hKn rfl rfl (fun _ h => h)
  rw [ecb] at hP hD
  clear hKn ecb
  refine va_putF (D := D) (ci := 8) (v := .ref q1) (ty := .array .int) (C := RX8) (T := TX8) (N := 32) hx hb hts (by decide +kernel) tyX8 tyX8_ok nmX8 hown hK hP hD hS 0 rfl rfl 1 (by decide) (hts (.fieldLink RX8 13 "ProRataMarketModel" "kept" "[I") (by decide +kernel)) (fun _ h9 => h9) rfl hin rfl (by decide +kernel) rfl rfl (by rw [n0]; decide) dX8_init_19 (fun H locs hP hD hS => ?_)
  obtain ⟨f1, e1⟩ : ∃ z, z = f0.set 1 (.ref q1) := ⟨_, rfl⟩
  have n1 : f1.length = 32 := by rw [e1, List.length_set]; exact n0
  obtain ⟨y1, z1⟩ : ∃ z : va_W, z = y0 ++ [(q1, .inl (c1, (684, .inl (fun _ => 0))))] := ⟨_, rfl⟩
  have hP : va_P D vwCl ((h0, .inr (8, f1)) :: (q0, .inl (c1, 684, .inl (fun _ => 0))) :: y1) H := by rw [e1, z1]; exact hP
  have hD : va_D A ((h0, .inr (8, f1)) :: (q0, .inl (c1, 684, .inl (fun _ => 0))) :: y1) := by rw [e1, z1]; exact hD
  refine lv_aload_n hx hb dX8_init_22 rfl (lv_at hl 0 rfl) ?_
  refine lv_bipush hx hb dX8_init_23 (by decide +kernel : (Int8.ofInt 10).toInt32 = (10 : Int32)) ?_
  refine va_newa (atype := .long) (ty := .long) (a0 := (10, .inr (.inl (fun _ => 0)))) (N' := 10) hx hb (hts (.arrayClass .long) (by decide +kernel)) rfl hK hP hD hS hA (fun cA => rfl) (by decide +kernel) (by decide +kernel) (by decide) (by decide) (by decide) dX8_init_25 (fun q2 cb H hKn hP hD hS => ?_)
  have ecb : cb = c3 := k_uqt (n := "[" ++ (FieldType.long).toString) (i := 3) (j := 2) hKn rfl rfl (fun _ h => h)
  rw [ecb] at hP hD
  clear hKn ecb
  refine va_putF (D := D) (ci := 8) (v := .ref q2) (ty := .array .long) (C := RX8) (T := TX8) (N := 32) hx hb hts (by decide +kernel) tyX8 tyX8_ok nmX8 hown hK hP hD hS 0 rfl rfl 2 (by decide) (hts (.fieldLink RX8 16 "ProRataMarketModel" "money" "[J") (by decide +kernel)) (fun _ h9 => h9) rfl hin rfl (by decide +kernel) rfl rfl (by rw [n1]; decide) dX8_init_27 (fun H locs hP hD hS => ?_)
  obtain ⟨f2, e2⟩ : ∃ z, z = f1.set 2 (.ref q2) := ⟨_, rfl⟩
  have n2 : f2.length = 32 := by rw [e2, List.length_set]; exact n1
  obtain ⟨y2, z2⟩ : ∃ z : va_W, z = y1 ++ [(q2, .inl (c3, (10, .inr (.inl (fun _ => 0)))))] := ⟨_, rfl⟩
  have hP : va_P D vwCl ((h0, .inr (8, f2)) :: (q0, .inl (c1, 684, .inl (fun _ => 0))) :: y2) H := by rw [e2, z2]; exact hP
  have hD : va_D A ((h0, .inr (8, f2)) :: (q0, .inl (c1, 684, .inl (fun _ => 0))) :: y2) := by rw [e2, z2]; exact hD
  refine lv_aload_n hx hb dX8_init_30 rfl (lv_at hl 0 rfl) ?_
  refine lv_bipush hx hb dX8_init_31 (by decide +kernel : (Int8.ofInt 10).toInt32 = (10 : Int32)) ?_
  refine va_newa (atype := .long) (ty := .long) (a0 := (10, .inr (.inl (fun _ => 0)))) (N' := 10) hx hb (hts (.arrayClass .long) (by decide +kernel)) rfl hK hP hD hS hA (fun cA => rfl) (by decide +kernel) (by decide +kernel) (by decide) (by decide) (by decide) dX8_init_33 (fun q3 cb H hKn hP hD hS => ?_)
  have ecb : cb = c3 := k_uqt (n := "[" ++ (FieldType.long).toString) (i := 3) (j := 2) hKn rfl rfl (fun _ h => h)
  rw [ecb] at hP hD
  clear hKn ecb
  refine va_putF (D := D) (ci := 8) (v := .ref q3) (ty := .array .long) (C := RX8) (T := TX8) (N := 32) hx hb hts (by decide +kernel) tyX8 tyX8_ok nmX8 hown hK hP hD hS 0 rfl rfl 3 (by decide) (hts (.fieldLink RX8 20 "ProRataMarketModel" "keptMoney" "[J") (by decide +kernel)) (fun _ h9 => h9) rfl hin rfl (by decide +kernel) rfl rfl (by rw [n2]; decide) dX8_init_35 (fun H locs hP hD hS => ?_)
  obtain ⟨f3, e3⟩ : ∃ z, z = f2.set 3 (.ref q3) := ⟨_, rfl⟩
  have n3 : f3.length = 32 := by rw [e3, List.length_set]; exact n2
  obtain ⟨y3, z3⟩ : ∃ z : va_W, z = y2 ++ [(q3, .inl (c3, (10, .inr (.inl (fun _ => 0)))))] := ⟨_, rfl⟩
  have hP : va_P D vwCl ((h0, .inr (8, f3)) :: (q0, .inl (c1, 684, .inl (fun _ => 0))) :: y3) H := by rw [e3, z3]; exact hP
  have hD : va_D A ((h0, .inr (8, f3)) :: (q0, .inl (c1, 684, .inl (fun _ => 0))) :: y3) := by rw [e3, z3]; exact hD
  refine lv_aload_n hx hb dX8_init_38 rfl (lv_at hl 0 rfl) ?_
  refine lv_bipush hx hb dX8_init_39 (by decide +kernel : (Int8.ofInt 70).toInt32 = (70 : Int32)) ?_
  refine va_newa (atype := .int) (ty := .int) (a0 := (70, .inl (fun _ => 0))) (N' := 70) hx hb (hts (.arrayClass .int) (by decide +kernel)) rfl hK hP hD hS hA (fun cA => rfl) (by decide +kernel) (by decide +kernel) (by decide) (by decide) (by decide) dX8_init_41 (fun q4 cb H hKn hP hD hS => ?_)
  have ecb : cb = c1 := k_uqt (n := "[" ++ (FieldType.int).toString) (i := 3) (j := 0) hKn rfl rfl (fun _ h => h)
  rw [ecb] at hP hD
  clear hKn ecb
  refine va_putF (D := D) (ci := 8) (v := .ref q4) (ty := .array .int) (C := RX8) (T := TX8) (N := 32) hx hb hts (by decide +kernel) tyX8 tyX8_ok nmX8 hown hK hP hD hS 0 rfl rfl 6 (by decide) (hts (.fieldLink RX8 23 "ProRataMarketModel" "at" "[I") (by decide +kernel)) (fun _ h9 => h9) rfl hin rfl (by decide +kernel) rfl rfl (by rw [n3]; decide) dX8_init_43 (fun H locs hP hD hS => ?_)
  obtain ⟨f4, e4⟩ : ∃ z, z = f3.set 6 (.ref q4) := ⟨_, rfl⟩
  have n4 : f4.length = 32 := by rw [e4, List.length_set]; exact n3
  obtain ⟨y4, z4⟩ : ∃ z : va_W, z = y3 ++ [(q4, .inl (c1, (70, .inl (fun _ => 0))))] := ⟨_, rfl⟩
  have hP : va_P D vwCl ((h0, .inr (8, f4)) :: (q0, .inl (c1, 684, .inl (fun _ => 0))) :: y4) H := by rw [e4, z4]; exact hP
  have hD : va_D A ((h0, .inr (8, f4)) :: (q0, .inl (c1, 684, .inl (fun _ => 0))) :: y4) := by rw [e4, z4]; exact hD
  refine lv_aload_n hx hb dX8_init_46 rfl (lv_at hl 0 rfl) ?_
  refine lv_bipush hx hb dX8_init_47 (by decide +kernel : (Int8.ofInt 70).toInt32 = (70 : Int32)) ?_
  refine va_newa (atype := .int) (ty := .int) (a0 := (70, .inl (fun _ => 0))) (N' := 70) hx hb (hts (.arrayClass .int) (by decide +kernel)) rfl hK hP hD hS hA (fun cA => rfl) (by decide +kernel) (by decide +kernel) (by decide) (by decide) (by decide) dX8_init_49 (fun q5 cb H hKn hP hD hS => ?_)
  have ecb : cb = c1 := k_uqt (n := "[" ++ (FieldType.int).toString) (i := 3) (j := 0) hKn rfl rfl (fun _ h => h)
  rw [ecb] at hP hD
  clear hKn ecb
  refine va_putF (D := D) (ci := 8) (v := .ref q5) (ty := .array .int) (C := RX8) (T := TX8) (N := 32) hx hb hts (by decide +kernel) tyX8 tyX8_ok nmX8 hown hK hP hD hS 0 rfl rfl 7 (by decide) (hts (.fieldLink RX8 26 "ProRataMarketModel" "size" "[I") (by decide +kernel)) (fun _ h9 => h9) rfl hin rfl (by decide +kernel) rfl rfl (by rw [n4]; decide) dX8_init_51 (fun H locs hP hD hS => ?_)
  obtain ⟨f5, e5⟩ : ∃ z, z = f4.set 7 (.ref q5) := ⟨_, rfl⟩
  have n5 : f5.length = 32 := by rw [e5, List.length_set]; exact n4
  obtain ⟨y5, z5⟩ : ∃ z : va_W, z = y4 ++ [(q5, .inl (c1, (70, .inl (fun _ => 0))))] := ⟨_, rfl⟩
  have hP : va_P D vwCl ((h0, .inr (8, f5)) :: (q0, .inl (c1, 684, .inl (fun _ => 0))) :: y5) H := by rw [e5, z5]; exact hP
  have hD : va_D A ((h0, .inr (8, f5)) :: (q0, .inl (c1, 684, .inl (fun _ => 0))) :: y5) := by rw [e5, z5]; exact hD
  refine lv_aload_n hx hb dX8_init_54 rfl (lv_at hl 0 rfl) ?_
  refine lv_bipush hx hb dX8_init_55 (by decide +kernel : (Int8.ofInt 70).toInt32 = (70 : Int32)) ?_
  refine va_newa (atype := .int) (ty := .int) (a0 := (70, .inl (fun _ => 0))) (N' := 70) hx hb (hts (.arrayClass .int) (by decide +kernel)) rfl hK hP hD hS hA (fun cA => rfl) (by decide +kernel) (by decide +kernel) (by decide) (by decide) (by decide) dX8_init_57 (fun q6 cb H hKn hP hD hS => ?_)
  have ecb : cb = c1 := k_uqt (n := "[" ++ (FieldType.int).toString) (i := 3) (j := 0) hKn rfl rfl (fun _ h => h)
  rw [ecb] at hP hD
  clear hKn ecb
  refine va_putF (D := D) (ci := 8) (v := .ref q6) (ty := .array .int) (C := RX8) (T := TX8) (N := 32) hx hb hts (by decide +kernel) tyX8 tyX8_ok nmX8 hown hK hP hD hS 0 rfl rfl 8 (by decide) (hts (.fieldLink RX8 29 "ProRataMarketModel" "byGrant" "[I") (by decide +kernel)) (fun _ h9 => h9) rfl hin rfl (by decide +kernel) rfl rfl (by rw [n5]; decide) dX8_init_59 (fun H locs hP hD hS => ?_)
  obtain ⟨f6, e6⟩ : ∃ z, z = f5.set 8 (.ref q6) := ⟨_, rfl⟩
  have n6 : f6.length = 32 := by rw [e6, List.length_set]; exact n5
  obtain ⟨y6, z6⟩ : ∃ z : va_W, z = y5 ++ [(q6, .inl (c1, (70, .inl (fun _ => 0))))] := ⟨_, rfl⟩
  have hP : va_P D vwCl ((h0, .inr (8, f6)) :: (q0, .inl (c1, 684, .inl (fun _ => 0))) :: y6) H := by rw [e6, z6]; exact hP
  have hD : va_D A ((h0, .inr (8, f6)) :: (q0, .inl (c1, 684, .inl (fun _ => 0))) :: y6) := by rw [e6, z6]; exact hD
  refine lv_aload_n hx hb dX8_init_62 rfl (lv_at hl 0 rfl) ?_
  refine lv_bipush hx hb dX8_init_63 (by decide +kernel : (Int8.ofInt 70).toInt32 = (70 : Int32)) ?_
  refine va_newa (atype := .int) (ty := .int) (a0 := (70, .inl (fun _ => 0))) (N' := 70) hx hb (hts (.arrayClass .int) (by decide +kernel)) rfl hK hP hD hS hA (fun cA => rfl) (by decide +kernel) (by decide +kernel) (by decide) (by decide) (by decide) dX8_init_65 (fun q7 cb H hKn hP hD hS => ?_)
  have ecb : cb = c1 := k_uqt (n := "[" ++ (FieldType.int).toString) (i := 3) (j := 0) hKn rfl rfl (fun _ h => h)
  rw [ecb] at hP hD
  clear hKn ecb
  refine va_putF (D := D) (ci := 8) (v := .ref q7) (ty := .array .int) (C := RX8) (T := TX8) (N := 32) hx hb hts (by decide +kernel) tyX8 tyX8_ok nmX8 hown hK hP hD hS 0 rfl rfl 9 (by decide) (hts (.fieldLink RX8 32 "ProRataMarketModel" "byShare" "[I") (by decide +kernel)) (fun _ h9 => h9) rfl hin rfl (by decide +kernel) rfl rfl (by rw [n6]; decide) dX8_init_67 (fun H locs hP hD hS => ?_)
  obtain ⟨f7, e7⟩ : ∃ z, z = f6.set 9 (.ref q7) := ⟨_, rfl⟩
  have n7 : f7.length = 32 := by rw [e7, List.length_set]; exact n6
  obtain ⟨y7, z7⟩ : ∃ z : va_W, z = y6 ++ [(q7, .inl (c1, (70, .inl (fun _ => 0))))] := ⟨_, rfl⟩
  have hP : va_P D vwCl ((h0, .inr (8, f7)) :: (q0, .inl (c1, 684, .inl (fun _ => 0))) :: y7) H := by rw [e7, z7]; exact hP
  have hD : va_D A ((h0, .inr (8, f7)) :: (q0, .inl (c1, 684, .inl (fun _ => 0))) :: y7) := by rw [e7, z7]; exact hD
  refine lv_aload_n hx hb dX8_init_70 rfl (lv_at hl 0 rfl) ?_
  refine lv_bipush hx hb dX8_init_71 (by decide +kernel : (Int8.ofInt 70).toInt32 = (70 : Int32)) ?_
  refine va_newa (atype := .int) (ty := .int) (a0 := (70, .inl (fun _ => 0))) (N' := 70) hx hb (hts (.arrayClass .int) (by decide +kernel)) rfl hK hP hD hS hA (fun cA => rfl) (by decide +kernel) (by decide +kernel) (by decide) (by decide) (by decide) dX8_init_73 (fun q8 cb H hKn hP hD hS => ?_)
  have ecb : cb = c1 := k_uqt (n := "[" ++ (FieldType.int).toString) (i := 3) (j := 0) hKn rfl rfl (fun _ h => h)
  rw [ecb] at hP hD
  clear hKn ecb
  refine va_putF (D := D) (ci := 8) (v := .ref q8) (ty := .array .int) (C := RX8) (T := TX8) (N := 32) hx hb hts (by decide +kernel) tyX8 tyX8_ok nmX8 hown hK hP hD hS 0 rfl rfl 10 (by decide) (hts (.fieldLink RX8 35 "ProRataMarketModel" "byTime" "[I") (by decide +kernel)) (fun _ h9 => h9) rfl hin rfl (by decide +kernel) rfl rfl (by rw [n7]; decide) dX8_init_75 (fun H locs hP hD hS => ?_)
  obtain ⟨f8, e8⟩ : ∃ z, z = f7.set 10 (.ref q8) := ⟨_, rfl⟩
  have n8 : f8.length = 32 := by rw [e8, List.length_set]; exact n7
  obtain ⟨y8, z8⟩ : ∃ z : va_W, z = y7 ++ [(q8, .inl (c1, (70, .inl (fun _ => 0))))] := ⟨_, rfl⟩
  have hP : va_P D vwCl ((h0, .inr (8, f8)) :: (q0, .inl (c1, 684, .inl (fun _ => 0))) :: y8) H := by rw [e8, z8]; exact hP
  have hD : va_D A ((h0, .inr (8, f8)) :: (q0, .inl (c1, 684, .inl (fun _ => 0))) :: y8) := by rw [e8, z8]; exact hD
  refine lv_aload_n hx hb dX8_init_78 rfl (lv_at hl 0 rfl) ?_
  refine lv_sipush hx hb dX8_init_79 (by decide +kernel : (Int16.ofInt 500).toInt32 = (500 : Int32)) ?_
  refine va_newa (atype := .byte) (ty := .byte) (a0 := (500, .inl (fun _ => 0))) (N' := 500) hx hb (hts (.arrayClass .byte) (by decide +kernel)) rfl hK hP hD hS hA (fun cA => rfl) (by decide +kernel) (by decide +kernel) (by decide) (by decide) (by decide) dX8_init_82 (fun q9 cb H hKn hP hD hS => ?_)
  have ecb : cb = c2 := k_uqt (n := "[" ++ (FieldType.byte).toString) (i := 3) (j := 1) hKn rfl rfl (fun _ h => h)
  rw [ecb] at hP hD
  clear hKn ecb
  refine va_putF (D := D) (ci := 8) (v := .ref q9) (ty := .array .byte) (C := RX8) (T := TX8) (N := 32) hx hb hts (by decide +kernel) tyX8 tyX8_ok nmX8 hown hK hP hD hS 0 rfl rfl 21 (by decide) (hts (.fieldLink RX8 38 "ProRataMarketModel" "tape" "[B") (by decide +kernel)) (fun _ h9 => h9) rfl hin rfl (by decide +kernel) rfl rfl (by rw [n8]; decide) dX8_init_84 (fun H locs hP hD hS => ?_)
  obtain ⟨f9, e9⟩ : ∃ z, z = f8.set 21 (.ref q9) := ⟨_, rfl⟩
  have n9 : f9.length = 32 := by rw [e9, List.length_set]; exact n8
  obtain ⟨y9, z9⟩ : ∃ z : va_W, z = y8 ++ [(q9, .inl (c2, (500, .inl (fun _ => 0))))] := ⟨_, rfl⟩
  have hP : va_P D vwCl ((h0, .inr (8, f9)) :: (q0, .inl (c1, 684, .inl (fun _ => 0))) :: y9) H := by rw [e9, z9]; exact hP
  have hD : va_D A ((h0, .inr (8, f9)) :: (q0, .inl (c1, 684, .inl (fun _ => 0))) :: y9) := by rw [e9, z9]; exact hD
  refine lv_aload_n hx hb dX8_init_87 rfl (lv_at hl 0 rfl) ?_
  refine lv_sipush hx hb dX8_init_88 (by decide +kernel : (Int16.ofInt 650).toInt32 = (650 : Int32)) ?_
  refine va_newa (atype := .int) (ty := .int) (a0 := (650, .inl (fun _ => 0))) (N' := 650) hx hb (hts (.arrayClass .int) (by decide +kernel)) rfl hK hP hD hS hA (fun cA => rfl) (by decide +kernel) (by decide +kernel) (by decide) (by decide) (by decide) dX8_init_91 (fun q10 cb H hKn hP hD hS => ?_)
  have ecb : cb = c1 := k_uqt (n := "[" ++ (FieldType.int).toString) (i := 3) (j := 0) hKn rfl rfl (fun _ h => h)
  rw [ecb] at hP hD
  clear hKn ecb
  refine va_putF (D := D) (ci := 8) (v := .ref q10) (ty := .array .int) (C := RX8) (T := TX8) (N := 32) hx hb hts (by decide +kernel) tyX8 tyX8_ok nmX8 hown hK hP hD hS 0 rfl rfl 30 (by decide) (hts (.fieldLink RX8 42 "ProRataMarketModel" "line" "[I") (by decide +kernel)) (fun _ h9 => h9) rfl hin rfl (by decide +kernel) rfl rfl (by rw [n9]; decide) dX8_init_93 (fun H locs hP hD hS => ?_)
  obtain ⟨f10, e10⟩ : ∃ z, z = f9.set 30 (.ref q10) := ⟨_, rfl⟩
  have n10 : f10.length = 32 := by rw [e10, List.length_set]; exact n9
  obtain ⟨y10, z10⟩ : ∃ z : va_W, z = y9 ++ [(q10, .inl (c1, (650, .inl (fun _ => 0))))] := ⟨_, rfl⟩
  have hP : va_P D vwCl ((h0, .inr (8, f10)) :: (q0, .inl (c1, 684, .inl (fun _ => 0))) :: y10) H := by rw [e10, z10]; exact hP
  have hD : va_D A ((h0, .inr (8, f10)) :: (q0, .inl (c1, 684, .inl (fun _ => 0))) :: y10) := by rw [e10, z10]; exact hD
  have ef : f10 = fsX8 (fun n => .ref (u11 q0 q1 q2 q3 q4 q5 q6 q7 q8 q9 q10 n)) := by rw [e10, e9, e8, e7, e6, e5, e4, e3, e2, e1, e0, ez]; exact fs8_sets q0 q1 q2 q3 q4 q5 q6 q7 q8 q9 q10
  have ey : y10 = wM8c c1 c2 c3 (u11 q0 q1 q2 q3 q4 q5 q6 q7 q8 q9 q10) := by rw [z10, z9, z8, z7, z6, z5, z4, z3, z2, z1, z0]; rfl
  have e00 : f10[0]? = some (.ref q0) := by rw [ef]; rfl
  refine lv_aload_n hx hb dX8_init_96 rfl (lv_at hl 0 rfl) ?_
  refine va_get (D := D) (ci := 8) (C := RX8) (T := TX8) (N := 32) (v := .ref q0) hx hb hts (by decide +kernel) hown hK hP 0 rfl rfl 0 (by decide) (hts (.fieldLink RX8 7 "ProRataMarketModel" "x" "[I") (by decide +kernel)) (fun _ h9 => h9) e00 dX8_init_97 ?_
  refine lv_iconst (v := 0) hx hb dX8_init_100 (by decide) ?_
  refine lv_bipush hx hb dX8_init_101 (by decide +kernel : (Int8.ofInt 20).toInt32 = (20 : Int32)) ?_
  refine va_iast hx hb hK hP hD hS 1 0 rfl rfl (by unfold vp_in; decide +kernel) dX8_init_103 (fun H locs hP hD hS => ?_)
  refine lv_aload_n hx hb dX8_init_104 rfl (lv_at hl 0 rfl) ?_
  refine va_get (D := D) (ci := 8) (C := RX8) (T := TX8) (N := 32) (v := .ref q0) hx hb hts (by decide +kernel) hown hK hP 0 rfl rfl 0 (by decide) (hts (.fieldLink RX8 7 "ProRataMarketModel" "x" "[I") (by decide +kernel)) (fun _ h9 => h9) e00 dX8_init_105 ?_
  refine lv_iconst (v := 1) hx hb dX8_init_108 (by decide) ?_
  refine lv_iconst (v := 2) hx hb dX8_init_109 (by decide) ?_
  refine va_iast hx hb hK hP hD hS 1 0 rfl rfl (by unfold vp_in; decide +kernel) dX8_init_110 (fun H locs hP hD hS => ?_)
  refine lv_aload_n hx hb dX8_init_111 rfl (lv_at hl 0 rfl) ?_
  refine va_get (D := D) (ci := 8) (C := RX8) (T := TX8) (N := 32) (v := .ref q0) hx hb hts (by decide +kernel) hown hK hP 0 rfl rfl 0 (by decide) (hts (.fieldLink RX8 7 "ProRataMarketModel" "x" "[I") (by decide +kernel)) (fun _ h9 => h9) e00 dX8_init_112 ?_
  refine lv_bipush hx hb dX8_init_115 (by decide +kernel : (Int8.ofInt 6).toInt32 = (6 : Int32)) ?_
  refine lv_iconst (v := -1) hx hb dX8_init_117 (by decide) ?_
  refine va_iast hx hb hK hP hD hS 1 0 rfl rfl (by unfold vp_in; decide +kernel) dX8_init_118 (fun H locs hP hD hS => ?_)
  refine lv_aload_n hx hb dX8_init_119 rfl (lv_at hl 0 rfl) ?_
  refine va_get (D := D) (ci := 8) (C := RX8) (T := TX8) (N := 32) (v := .ref q0) hx hb hts (by decide +kernel) hown hK hP 0 rfl rfl 0 (by decide) (hts (.fieldLink RX8 7 "ProRataMarketModel" "x" "[I") (by decide +kernel)) (fun _ h9 => h9) e00 dX8_init_120 ?_
  refine lv_bipush hx hb dX8_init_123 (by decide +kernel : (Int8.ofInt 7).toInt32 = (7 : Int32)) ?_
  refine lv_iconst (v := -1) hx hb dX8_init_125 (by decide) ?_
  refine va_iast hx hb hK hP hD hS 1 0 rfl rfl (by unfold vp_in; decide +kernel) dX8_init_126 (fun H locs hP hD hS => ?_)
  rw [ef, ey] at hP hD
  exact W.vret hx hb hr (fun t ht hW => ⟨⟨u11 q0 q1 q2 q3 q4 q5 q6 q7 q8 q9 q10, rfl, trivial, by rw [ht]; exact hP, hD⟩, hS.F ht⟩) hS.2.2 dX8_init_127
