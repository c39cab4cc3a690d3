/-! MACHINE: the law's own cell and some (a script's int; one below n) -/
theorem iZ_nI {n : Nat} (h : n < 2147483648) : nI n = iZ (n : Int) := Int32.toInt_inj.mp ((nI_toInt (by omega)).trans (iZ_toInt ⟨by omega, by omega⟩).symm)
theorem tdiv_nn {k : Int} {L : Nat} (hk : 0 ≤ k) : k.tdiv (L : Int) = k / (L : Int) := Int.tdiv_eq_ediv_of_nonneg hk
theorem rem_nn {k : Int} {L : Nat} (hk : 0 ≤ k) (hL : L ≠ 0) : 0 ≤ k - k.tdiv (L : Int) * (L : Int) ∧ k - k.tdiv (L : Int) * (L : Int) < (L : Int) := by
  rw [tdiv_nn hk]
  have h1 := Int.emod_nonneg k (b := (L : Int)) (by omega)
  have h2 := Int.emod_lt_of_pos k (b := (L : Int)) (by omega)
  have h3 := Int.emod_add_mul_ediv k (L : Int)
  have h4 : k / (L : Int) * (L : Int) = (L : Int) * (k / (L : Int)) := Int.mul_comm _ _
  omega
/-- the k-th cell of a script of L ints -/
def sCell (xs : Nat → Int32) (L : Nat) (k : Int) : Int32 := if L = 0 then 0 else xs (k - k.tdiv (L : Int) * (L : Int)).toNat ^^^ iZ (40503 * k.tdiv (L : Int))
def sSome (xs : Nat → Int32) (L : Nat) (k n : Int) : Int := iAnd (sCell xs L k).toInt 65535 - (iAnd (sCell xs L k).toInt 65535).tdiv n * n
theorem nx_and (a b : Nat) : nI a &&& nI b = nI (a &&& b) := by
  apply Int32.toBitVec_inj.1
  show BitVec.ofNat 32 a &&& BitVec.ofNat 32 b = BitVec.ofNat 32 (a &&& b)
  apply BitVec.eq_of_getLsbD_eq
  intro i hi
  simp [hi]
theorem nx_mod (k : Nat) : nI k &&& 65535 = nI (k % 65536) := by
  show nI k &&& nI 65535 = _
  rw [nx_and, show (65535 : Nat) = 2 ^ 16 - 1 from rfl, Nat.and_two_pow_sub_one_eq_mod]
theorem nx_mask (x : Int32) : ∃ k, k < 65536 ∧ x &&& 65535 = nI k := by
  have e : x = nI x.toBitVec.toNat := by
    apply Int32.toBitVec_inj.1
    show x.toBitVec = BitVec.ofNat 32 x.toBitVec.toNat
    simp
  refine ⟨x.toBitVec.toNat % 65536, Nat.mod_lt _ (by omega), ?_⟩
  rw [← nx_mod, ← e]
theorem iAnd_nn (a : Int) : 0 ≤ iAnd a 65535 := by
  unfold iAnd
  obtain ⟨k, hk, e⟩ := nx_mask (iZ a)
  rw [show iZ 65535 = (65535 : Int32) by decide +kernel, e, nI_toInt (by omega)]
  omega
theorem sSome_bd {xs : Nat → Int32} {L : Nat} {k n : Int} (hn : 0 < n) : 0 ≤ sSome xs L k n ∧ sSome xs L k n < n := by
  obtain ⟨m, rfl⟩ := Int.eq_ofNat_of_zero_le (Int.le_of_lt hn)
  exact rem_nn (L := m) (iAnd_nn _) (by omega)
set_option maxHeartbeats 4000000 in
set_option maxRecDepth 20000 in
theorem c_L_cell (l : Launch) {b L : Nat} {xs : Nat → Int32} (hL : L ≤ 260) {k : Int} (hk : 0 ≤ k ∧ k < 1000) (sz : Nat) : Met l yL_cell wsL_cell { frames := 0, cells := 0, slots := 0, locals := 0 } (va_Pc [.ref b, .int (iZ k)] (fun U => U.heap.size = sz ∧ va_X b L xs U U.heap ∧ b < sz)) (va_Qi (fun r (_ : Unit) => r = sCell xs L k) (fun _ _ => True) (fun q => sz ≤ q)) 0 0 (fun q => sz ≤ q) := by
  refine Met.ofW (cc := cL_cell) (maxL := 2) (ret := some .int) (by decide) rfl ?_
  intro p e s m args below meth c s₁ B hml hv
  obtain ⟨rfl, hsz, hX, hb0⟩ := hv
  have hl := lv_entry ([.ref b, .int (iZ k)]) (n := 2) (Nat.le_of_ble_eq_true rfl)
  rw [lg_entry_eq]
  generalize (lg_sl ([.ref b, .int (iZ k)]) ++ List.replicate (2 - (lg_sl ([.ref b, .int (iZ k)])).length) Slot.unset).toArray = ls at hl ⊢
  have hl : lv_has ls 2 [(0, .ref b), (1, .int (iZ k))] := hl
  subst hsz
  have hx := B.exec
  have hb := B.bytes
  have hts := atoms_spec (ws := wsL_cell) B.pre
  have hown : s.vm.findClass RL = some m.cls := findClass_of_methodNamed B.named
  have hS : va_S (fun q => s.heap.size ≤ q) s.heap s.heap [] := va_S.rf
  have hbA : ¬ (s.heap.size ≤ b) := Nat.not_le.mpr hb0
  have eL : Int32.ofNat L = iZ (L : Int) := iZ_nI (by omega)
  have r_k : in32 k := ⟨by omega, by omega⟩
  have r_L : in32 (L : Int) := ⟨by omega, by omega⟩
  refine lv_aload_n hx hb dL_cell_0 rfl (lv_at hl 0 rfl) ?_
  refine va_slen hx hb hX hb0 hbA hS dL_cell_1 ?_
  rw [eL]
  refine lv_if_ne (tgt := 9) hx hb dL_cell_2 (by decide) (fun h => ?_) (fun h => ?_)
  · have h0 : L ≠ 0 := fun q => h (by rw [q]; rfl)
    have hz0 : ¬ (iZ (L : Int) = 0) := h
    have hr := rem_nn (k := k) (L := L) hk.1 h0
    obtain ⟨hin, hcl⟩ := vp_in_Z (i := k - k.tdiv (L : Int) * (L : Int)) (n := L) hr (by omega)
    refine lv_aload_n hx hb dL_cell_9 rfl (lv_at hl 0 rfl) ?_
    refine lv_iload_n hx hb dL_cell_10 rfl (lv_at hl 1 rfl) ?_
    refine lv_aload_n hx hb dL_cell_11 rfl (lv_at hl 0 rfl) ?_
    refine va_slen hx hb hX hb0 hbA hS dL_cell_12 ?_
    rw [eL]
    refine lv_irem hx hb dL_cell_13 hz0 ?_
    rw [iZ_div r_k r_L, iZ_mul, iZ_sub]
    refine va_sld hx hb hX hb0 hbA hS hin dL_cell_14 ?_
    rw [hcl]
    refine lv_ldc hx hb hown (hts (Cond.constant RL 7 (40503)) (by decide +kernel)) dL_cell_15 ?_
    refine lv_iload_n hx hb dL_cell_17 rfl (lv_at hl 1 rfl) ?_
    refine lv_aload_n hx hb dL_cell_18 rfl (lv_at hl 0 rfl) ?_
    refine va_slen hx hb hX hb0 hbA hS dL_cell_19 ?_
    rw [eL]
    refine lv_idiv hx hb dL_cell_20 hz0 ?_
    rw [iZ_div r_k r_L]
    refine lv_imul hx hb dL_cell_21 ?_
    rw [show (40503 : Int32) = iZ 40503 by decide +kernel, iZ_mul]
    refine lv_ixor hx hb dL_cell_22 ?_
    exact W.iret hx hb B.returns (fun t ht hWm => ⟨⟨_, (), rfl, by show _ = sCell xs L k; unfold sCell; rw [if_neg h0], trivial⟩, hS.F ht⟩) hS.2.2 dL_cell_23 B.notSynchronized
  · have h0 : L = 0 := by
      have e : iZ (L : Int) = iZ 0 := h
      have := (iZ_inj r_L (by decide)).mp e
      omega
    refine lv_iconst (v := 0) hx hb dL_cell_5 (by decide) ?_
    refine lv_goto (tgt := 23) hx hb dL_cell_6 (by decide) ?_
    exact W.iret hx hb B.returns (fun t ht hWm => ⟨⟨_, (), rfl, by show _ = sCell xs L k; unfold sCell; rw [if_pos h0], trivial⟩, hS.F ht⟩) hS.2.2 dL_cell_23 B.notSynchronized
theorem dd_L_cell : yL_cell.cls ≠ "java/lang/invoke/MethodHandle" ∧ yL_cell.cls ≠ "java/lang/invoke/VarHandle" ∧ (parseMethodDescriptor yL_cell.desc).map (fun d => d.parameters.length) = some 2 := by decide +kernel
theorem dd_L_some : yL_some.cls ≠ "java/lang/invoke/MethodHandle" ∧ yL_some.cls ≠ "java/lang/invoke/VarHandle" ∧ (parseMethodDescriptor yL_some.desc).map (fun d => d.parameters.length) = some 3 := by decide +kernel
theorem dd_L_size : yL_size.cls ≠ "java/lang/invoke/MethodHandle" ∧ yL_size.cls ≠ "java/lang/invoke/VarHandle" ∧ (parseMethodDescriptor yL_size.desc).map (fun d => d.parameters.length) = some 2 := by decide +kernel
theorem s_blind {b L : Nat} {xs : Nat → Int32} {av : List Value} {sz : Nat} : FrameBlind (va_Pc av (fun U => U.heap.size = sz ∧ va_X b L xs U U.heap ∧ b < sz)) := by
  intro a U g mk q
  obtain ⟨q0, q1, qX, q2⟩ := q
  exact ⟨q0, q1, va_X.moved (u := U) (U := U.calling g mk a) (Vm.Alike.refl U.vm) qX, q2⟩
set_option maxHeartbeats 4000000 in
set_option maxRecDepth 20000 in
theorem c_L_some (l : Launch) {b L : Nat} {xs : Nat → Int32} (hL : L ≤ 260) {k n : Int} (hk : 0 ≤ k ∧ k < 1000) (hn : 0 < n ∧ n < 10000) (sz : Nat) : Met l yL_some wsL_some { frames := 1, cells := 0, slots := 0, locals := 21 } (va_Pc [.ref b, .int (iZ k), .int (iZ n)] (fun U => U.heap.size = sz ∧ va_X b L xs U U.heap ∧ b < sz)) (va_Qi (fun r (_ : Unit) => r = iZ (sSome xs L k n)) (fun _ _ => True) (fun q => sz ≤ q)) 0 0 (fun q => sz ≤ q) := by
  refine Met.ofW (cc := cL_some) (maxL := 3) (ret := some .int) (by decide) rfl ?_
  intro p e s m args below meth c s₁ B hml hv
  obtain ⟨rfl, hsz, hX, hb0⟩ := hv
  have hl := lv_entry ([.ref b, .int (iZ k), .int (iZ n)]) (n := 3) (Nat.le_of_ble_eq_true rfl)
  rw [lg_entry_eq]
  generalize (lg_sl ([.ref b, .int (iZ k), .int (iZ n)]) ++ List.replicate (3 - (lg_sl ([.ref b, .int (iZ k), .int (iZ n)])).length) Slot.unset).toArray = ls at hl ⊢
  have hl : lv_has ls 3 [(0, .ref b), (1, .int (iZ k)), (2, .int (iZ n))] := hl
  subst hsz
  have hx := B.exec
  have hb := B.bytes
  have hts := atoms_spec (ws := wsL_some) B.pre
  have hown : s.vm.findClass RL = some m.cls := findClass_of_methodNamed B.named
  have hS : va_S (fun q => s.heap.size ≤ q) s.heap s.heap [] := va_S.rf
  refine lv_aload_n hx hb dL_some_0 rfl (lv_at hl 0 rfl) ?_
  refine lv_iload_n hx hb dL_some_1 rfl (lv_at hl 1 rfl) ?_
  refine va_calli (va_runS (As := [.ref b, .int (iZ k)]) (rest := []) ⟨hx, hb, hml, hown, hts⟩ (c_L_cell l hL hk s.heap.size) (va_cwS 2 hts gL_some_L_cell rfl rfl rfl dd_L_cell ⟨Nat.le_of_ble_eq_true rfl, Nat.le_of_ble_eq_true rfl⟩) ⟨s_blind, fun U hU hWm => ⟨rfl, by rw [hU], by rw [hU]; exact hX.moved hWm.alike, hb0⟩⟩ rfl rfl hl.1 rfl (lv_room (Nat.le_of_ble_eq_true rfl)) dL_some_2 ⟨Nat.le_of_ble_eq_true rfl, Nat.le_of_ble_eq_true rfl⟩) hS (fun q _ h => h) (fun q h => h) (fun r u t H1 locs1 ht hvm hp _ hz hk1 hS1 => ?_)
  have hp : r = sCell xs L k := hp
  refine lv_ldc hx hb hown (hts (Cond.constant RL 14 (65535)) (by decide +kernel)) dL_some_5 ?_
  refine lv_iand hx hb dL_some_7 ?_
  have e1 : r &&& 65535 = iZ (iAnd (sCell xs L k).toInt 65535) := by
    rw [hp]
    unfold iAnd
    rw [iZ_of, iZ_of]
    rfl
  rw [e1]
  refine lv_iload_n hx hb dL_some_8 rfl (lv_at hl 2 rfl) ?_
  have r_n : in32 n := ⟨by omega, by omega⟩
  refine lv_irem hx hb dL_some_9 (fun q => by have := (iZ_inj r_n (by decide : in32 0)).mp q; omega) ?_
  rw [iZ_div (a := iAnd (sCell xs L k).toInt 65535) (in32_of _) r_n, iZ_mul, iZ_sub]
  exact W.iret hx hb B.returns (fun t ht hWm => ⟨⟨_, (), rfl, rfl, trivial⟩, hS1.F ht⟩) hS1.2.2 dL_some_10 B.notSynchronized
