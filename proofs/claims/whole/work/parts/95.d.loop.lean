/-! MACHINE: the law's loop -/
def lOf : Array Int := #[112, 185, 210, 283, 308, 345, 370, 395, 408, 421, 489, 538, 587, 612, 649, 698, 735, 784, 871, 945, 970, 1007, 1063, 1118]
def lTs : List Nat := [152, 225, 250, 323, 348, 385, 410, 435, 448, 461, 529, 578, 627, 652, 689, 738, 775, 824, 911, 985, 1010, 1047, 1103, 1158, 1183]
theorem lTab : ∀ n : Nat, n < 24 → lOf[n]? = some (lOf.getD n 0) ∧ ((40 : Nat) : Int) + lOf.getD n 0 = (((40 : Int) + lOf.getD n 0).toNat : Int) ∧ ((40 : Int) + lOf.getD n 0).toNat ∈ lTs := by decide +kernel
theorem iZ_nI {n : Nat} (h : n < 2147483648) : nI n = iZ (n : Int) := Int32.toInt_inj.mp ((nI_toInt (by omega)).trans (iZ_toInt ⟨by omega, by omega⟩).symm)
section LLOOP
variable {Y : lB} {L : Nat} {xs : Nat → Int32} {ρ : Nat → Nat × Nat} {x mm o i c : Nat} {sa : Nat × Nat × Nat} {cells slots : Nat} {ls : List (Nat × Value)} {μ7 μ8 : qM}
set_option maxRecDepth 20000 in
theorem l_exit (hF : lFx Y L xs ρ x mm o sa) (hcl : cells ≤ 601024 ∧ slots ≤ 7293034) : lNx Y cells slots 1189 ls [] μ7 μ8 := by
  intro H locs la hh h7 h8 hS r7 r8
  obtain ⟨hx, hb, hr, -, -, -, -, -, hk, -⟩ := id hF.1
  refine W.widen hcl.1 hcl.2 (va_forget hS.2.2 ?_)
  refine lv_iconst (v := 1) hx hb dL_law_1189 rfl ?_
  exact lw_ret hx hb hr hk dL_law_1190
set_option maxRecDepth 20000 in
theorem l_next (hF : lFx Y L xs ρ x mm o sa) (k : lNx Y cells slots 23 (lsv Y x mm o (i + 7)) [] μ7 μ8) : lNx Y cells slots 1183 (lsv Y x mm o i) [] μ7 μ8 := by
  intro H locs la hh h7 h8 hS r7 r8
  refine lv_iinc (k := 4) (v := nI (i + 7)) (lv' := [(4, .int (nI (i + 7))), (0, .ref (ya Y)), (1, .ref x), (2, .ref mm), (3, .ref o)]) hF.e hF.b dL_law_1183 hh rfl (by rw [show Int32.ofInt 7 = nI 7 by decide +kernel, nI_add]) (by decide) rfl (fun la' hl => ?_)
  refine lv_goto (tgt := 23) hF.e hF.b dL_law_1186 (by decide) ?_
  exact k H locs la' (lv_sub hl [1, 2, 3, 4, 0] rfl) h7 h8 hS r7 r8
set_option maxRecDepth 20000 in
theorem l_head (hF : lFx Y L xs ρ x mm o sa) (h : i ≤ L) (kt : lNx Y cells slots 1189 (lsv Y x mm o i) [] μ7 μ8) (kf : i + 7 ≤ L → lNx Y cells slots 33 (lsv Y x mm o i) [] μ7 μ8) : lNx Y cells slots 23 (lsv Y x mm o i) [] μ7 μ8 := by
  intro H locs la hh h7 h8 hS r7 r8
  have hL := hF.2.1
  obtain ⟨hx, hb, -, -, -, -, hX, hbl, -, -⟩ := id hF.1
  refine lv_iload hx hb dL_law_23 (lv_at hh 4 rfl) ?_
  refine lv_aload_n hx hb dL_law_25 rfl (lv_at hh 0 rfl) ?_
  refine va_slen hx hb hX hbl (Nat.not_le.mpr hbl) hS dL_law_26 ?_
  refine lv_bipush (v := nI 7) hx hb dL_law_27 (by decide +kernel) ?_
  refine lv_isub hx hb dL_law_29 ?_
  have e : (Int32.ofNat L - nI 7 < nI i) ↔ (L : Int) - 7 < (i : Int) := by
    rw [show Int32.ofNat L = iZ (L : Int) from iZ_nI (by omega), show nI 7 = iZ 7 from iZ_nI (by decide), iZ_nI (n := i) (by omega), iZ_sub]
    exact iZ_lt ⟨by omega, by omega⟩ ⟨by omega, by omega⟩
  refine lv_icmp_gt (tgt := 1189) hx hb dL_law_30 (by decide) (fun _ => kt H locs la hh h7 h8 hS r7 r8) (fun q => ?_)
  have h9 : ¬ ((L : Int) - 7 < (i : Int)) := fun z => q (e.mpr z)
  exact kf (by omega) H locs la hh h7 h8 hS r7 r8
set_option maxRecDepth 20000 in
theorem l_switch (hF : lFx Y L xs ρ x mm o sa) (hi : i + 7 ≤ L) (k : ∀ t ∈ lTs, lNx Y cells slots t (lsv Y x mm o i) [] μ7 μ8) : lNx Y cells slots 33 (lsv Y x mm o i) [] μ7 μ8 := by
  intro H locs la hh h7 h8 hS r7 r8
  have hL := hF.2.1
  obtain ⟨hx, hb, -, -, -, -, hX, hbl, -, -⟩ := id hF.1
  refine lv_aload_n hx hb dL_law_33 rfl (lv_at hh 0 rfl) ?_
  refine lv_iload hx hb dL_law_34 (lv_at hh 4 rfl) ?_
  refine va_sld hx hb hX hbl (Nat.not_le.mpr hbl) hS (vp_in_nI (by omega) (by omega)) dL_law_36 ?_
  refine lv_bipush (v := 31) hx hb dL_law_37 (by decide +kernel) ?_
  refine lv_iand hx hb dL_law_39 ?_
  generalize (xs (nI i).toNatClampNeg &&& 31) = z
  by_cases h : 0 ≤ z.toInt ∧ z.toInt ≤ 23
  · obtain ⟨n, hn⟩ := Int.eq_ofNat_of_zero_le h.1
    obtain ⟨t1, t2, t3⟩ := lTab n (by omega)
    exact lv_tableIn hx hb dL_law_40 (by omega) (by omega) (by rw [hn, show ((n : Int) - 0).toNat = n by omega]; exact t1) t2 (k _ t3 H locs la hh h7 h8 hS r7 r8)
  · exact lv_tableOut (tgt := 1183) hx hb dL_law_40 (by omega) (by decide) (k 1183 (by decide) H locs la hh h7 h8 hS r7 r8)
set_option maxRecDepth 20000 in
set_option maxHeartbeats 4000000 in
theorem l_loop (hF : lFx Y L xs ρ x mm o sa) : ∀ (n c : Nat) (μ7 μ8 : qM), L < 7 * c + 7 * n → 7 * c ≤ L → pR (y7 Y) ρ x (y8 Y) mm c μ7 μ8 → lNx Y (300 + c) (6000 + 6 * c) 23 (lsv Y x mm o (7 * c)) [] μ7 μ8 := by
  intro n
  induction n with
  | zero => intro c _ _ h1 h2 _; exact absurd h1 (by omega)
  | succ n ih =>
    intro c μ7 μ8 h1 h2 hp
    have hL := hF.2.1
    have hc : c ≤ 1000000 := by omega
    have hcl : 300 + c ≤ 601024 ∧ 6000 + 6 * c ≤ 7293034 := ⟨by omega, by omega⟩
    have hcl1 : 300 + c + 1 ≤ 601024 ∧ 6000 + 6 * c + 6 ≤ 7293034 := ⟨by omega, by omega⟩
    refine l_head hF h2 (l_exit hF hcl) (fun hi => ?_)
    have k1 : ∀ ν7 ν8, pR (y7 Y) ρ x (y8 Y) mm (c + 1) ν7 ν8 → lNx Y (300 + c + 1) (6000 + 6 * c + 6) 1183 (lsv Y x mm o (7 * c)) [] ν7 ν8 := fun ν7 ν8 hq => by
      have h := ih (c + 1) ν7 ν8 (by omega) (by omega) hq
      rw [show 300 + (c + 1) = 300 + c + 1 by omega, show 6000 + 6 * (c + 1) = 6000 + 6 * c + 6 by omega, show 7 * (c + 1) = 7 * c + 7 by omega] at h
      exact l_next hF h
    have k0 : ∀ ν7 ν8, pR (y7 Y) ρ x (y8 Y) mm (c + 1) ν7 ν8 → lNx Y (300 + c) (6000 + 6 * c) 1183 (lsv Y x mm o (7 * c)) [] ν7 ν8 := fun ν7 ν8 hq => l_widen (Nat.le_add_right _ _) (Nat.le_add_right _ _) (k1 ν7 ν8 hq)
    refine l_switch hF hi ?_
    unfold lTs
    refine List.forall_mem_cons.mpr ⟨l_feed hF hi hc hcl hp k0, ?_⟩
    refine List.forall_mem_cons.mpr ⟨l_message hF hi hc hcl hp k0, ?_⟩
    refine List.forall_mem_cons.mpr ⟨l_order hF hi hc hcl hp k0, ?_⟩
    refine List.forall_mem_cons.mpr ⟨l_off hF hi hc hcl hp k0, ?_⟩
    refine List.forall_mem_cons.mpr ⟨l_cut hF hi hc hcl hp k0, ?_⟩
    refine List.forall_mem_cons.mpr ⟨l_grant hF hi hc hcl hp k0, ?_⟩
    refine List.forall_mem_cons.mpr ⟨l_least hF hi hc hcl hp k0, ?_⟩
    refine List.forall_mem_cons.mpr ⟨l_call hF hi hc hcl hp k0, ?_⟩
    refine List.forall_mem_cons.mpr ⟨l_open hF hi hc hcl hp k0, ?_⟩
    refine List.forall_mem_cons.mpr ⟨l_of hF hi hcl1 hp k1, ?_⟩
    refine List.forall_mem_cons.mpr ⟨l_level hF hi hc hcl hp k0, ?_⟩
    refine List.forall_mem_cons.mpr ⟨l_queue hF hi hc hcl hp k0, ?_⟩
    refine List.forall_mem_cons.mpr ⟨l_top hF hi hc hcl hp k0, ?_⟩
    refine List.forall_mem_cons.mpr ⟨l_ahead hF hi hc hcl hp k0, ?_⟩
    refine List.forall_mem_cons.mpr ⟨l_share hF hi hc hcl hp k0, ?_⟩
    refine List.forall_mem_cons.mpr ⟨l_takeFor hF hi hc hcl hp k0, ?_⟩
    refine List.forall_mem_cons.mpr ⟨l_splits hF hi hc hcl hp k0, ?_⟩
    refine List.forall_mem_cons.mpr ⟨l_would hF hi hc hcl hp k0, ?_⟩
    refine List.forall_mem_cons.mpr ⟨l_worth hF hi hc hcl hp k0, ?_⟩
    refine List.forall_mem_cons.mpr ⟨l_clears hF hi hc hcl hp k0, ?_⟩
    refine List.forall_mem_cons.mpr ⟨l_trade hF hi hc hcl hp k0, ?_⟩
    refine List.forall_mem_cons.mpr ⟨l_position hF hi hcl1 hp k1, ?_⟩
    refine List.forall_mem_cons.mpr ⟨l_money hF hi hcl1 hp k1, ?_⟩
    refine List.forall_mem_cons.mpr ⟨l_count hF hi hc hcl hp k0, ?_⟩
    refine List.forall_mem_cons.mpr ⟨k0 _ _ hp.up, ?_⟩
    exact fun _ h => absurd h List.not_mem_nil
end LLOOP
