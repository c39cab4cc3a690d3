/-! MACHINE: the law's walk: of, position, money -/
section LCASES
variable {Y : lB} {L : Nat} {xs : Nat → Int32} {ρ : Nat → Nat × Nat} {x mm o i c : Nat} {sa : Nat × Nat × Nat} {cells slots : Nat} {μ7 μ8 : qM}
theorem dd_L_of : yL_of.cls ≠ "java/lang/invoke/MethodHandle" ∧ yL_of.cls ≠ "java/lang/invoke/VarHandle" ∧ (parseMethodDescriptor yL_of.desc).map (fun d => d.parameters.length) = some 4 := by decide +kernel
theorem dd_L_position : yL_position.cls ≠ "java/lang/invoke/MethodHandle" ∧ yL_position.cls ≠ "java/lang/invoke/VarHandle" ∧ (parseMethodDescriptor yL_position.desc).map (fun d => d.parameters.length) = some 3 := by decide +kernel
theorem dd_L_money : yL_money.cls ≠ "java/lang/invoke/MethodHandle" ∧ yL_money.cls ≠ "java/lang/invoke/VarHandle" ∧ (parseMethodDescriptor yL_money.desc).map (fun d => d.parameters.length) = some 3 := by decide +kernel
set_option maxHeartbeats 4000000 in
set_option maxRecDepth 20000 in
theorem l_of (hF : lFx Y L xs ρ x mm o sa) (hi : i + 7 ≤ L) (hcl : cells + 1 ≤ 601024 ∧ slots + 6 ≤ 7293034) (hp : pR (y7 Y) ρ x (y8 Y) mm c μ7 μ8) (k : ∀ ν7 ν8, pR (y7 Y) ρ x (y8 Y) mm (c + 1) ν7 ν8 → lNx Y (cells + 1) (slots + 6) 1183 (lsv Y x mm o i) [] ν7 ν8) : lNx Y cells slots 461 (lsv Y x mm o i) [] μ7 μ8 := by
  have hcl0 : cells ≤ 601024 ∧ slots ≤ 7293034 := ⟨by omega, by omega⟩
  have hN : 100000 < 1000000 := by decide
  obtain ⟨r, ν8, f, e8, ef, hq⟩ := p_of (N := 1000000) hF.ly hF.ho hp hN (lA xs i 1) (lA xs i 2)
  refine l_aload_n hF (pc := 461) dL_law_461 1 rfl rfl ?_
  refine l_arg hF (pc := 462) hi (k := 1) (by decide) (by decide) 0 4 dL_law_462 dL_law_463 dL_law_465 dL_law_466 dL_law_467 rfl rfl ?_
  refine l_arg hF (pc := 468) hi (k := 2) (by decide) (by decide) 0 4 dL_law_468 dL_law_469 dL_law_471 dL_law_472 dL_law_473 rfl rfl ?_
  refine l_aload_n hF (pc := 474) dL_law_474 3 rfl rfl ?_
  rcases hq with ⟨⟨o3, rfl, hr⟩, ht, hq⟩ | ⟨h0, ht, hq⟩
  · refine l_callL hF (pc := 475) [.ref x, .int (iZ (lA xs i 1)), .int (iZ (lA xs i 2)), .ref o] [.ref o, .int (iZ (lA xs i 2)), .int (iZ (lA xs i 1)), .ref x] 4 dL_law_475 gL_law_L_of rfl dd_L_of ⟨rfl, rfl⟩ rfl rfl rfl hcl0 (k_L_of_ok (yl Y) hF.T7 hF.k7 hF.ko (fun l => k_X7_of_ok l hF.T7 hF.k7 lA_in lA_in ef hr)) (fun _ => ?_)
    refine l_istore hF (pc := 478) (ls' := [(5, .int (iZ 0)), (0, .ref (ya Y)), (1, .ref x), (2, .ref mm), (3, .ref o), (4, .int (nI i))]) dL_law_478 rfl rfl ?_
    refine l_aload_n hF (pc := 480) dL_law_480 3 rfl rfl ?_
    refine l_arg hF (pc := 481) hi (k := 1) (by decide) (by decide) 1 5 dL_law_481 dL_law_482 dL_law_484 dL_law_485 dL_law_486 rfl rfl ?_
    refine l_arg hF (pc := 487) hi (k := 2) (by decide) (by decide) 1 5 dL_law_487 dL_law_488 dL_law_490 dL_law_491 dL_law_492 rfl rfl ?_
    refine l_call8 hF (pc := 493) [.int (iZ (lA xs i 1)), .int (iZ (lA xs i 2))] [.int (iZ (lA xs i 2)), .int (iZ (lA xs i 1))] 2 dL_law_493 (goodIn_l gL_law_X8_of) rfl dd_X8_of ⟨rfl, rfl⟩ rfl rfl rfl hcl0 (k_X8_of (yl Y) hF.T8 hF.k8 lA_in lA_in e8) (fun rr => ?_)
    refine l_istore hF (pc := 496) (ls' := [(6, .int (iZ r)), (5, .int (iZ 0)), (0, .ref (ya Y)), (1, .ref x), (2, .ref mm), (3, .ref o), (4, .int (nI i))]) dL_law_496 rfl rfl ?_
    refine l_aload_n hF (pc := 498) dL_law_498 4 rfl rfl ?_
    refine l_call8 hF (pc := 499) [] [] 0 dL_law_499 (goodIn_l gL_law_X8_thrown) rfl dd_X8_thrown ⟨rfl, rfl⟩ rfl rfl rfl hcl0 (k_X8_thrown (N := 0) (yl Y) hF.T8 hF.k8 rfl) (fun _ => ?_)
    rw [ht]
    refine l_iload hF (pc := 502) dL_law_502 1 rfl ?_
    refine l_same hF (pc := 504) 509 dL_law_504 (by decide) ?_
    refine l_iload hF (pc := 509) dL_law_509 1 rfl ?_
    refine l_nez hF (pc := 511) rfl 526 dL_law_511 (by decide) ?_
    refine l_aload_n hF (pc := 514) dL_law_514 5 rfl rfl ?_
    refine l_iconst hF (pc := 515) dL_law_515 ?_
    refine l_lald hF (pc := 516) dL_law_516 ?_
    rw [show gA (sA μ7 o 0 r) o 0 = r from gA_s]
    refine l_iload hF (pc := 517) dL_law_517 0 rfl ?_
    refine l_i2l hF (pc := 519) rr dL_law_519 ?_
    refine l_lsame hF (pc := 520) dL_law_520 ?_
    refine l_zero hF (pc := 521) rfl 526 dL_law_521 (by decide) ?_
    refine l_goto hF (pc := 526) 1183 dL_law_526 (by decide) ?_
    refine l_sub [2, 3, 4, 5, 6] rfl ?_
    exact l_widen (Nat.le_add_right _ _) (Nat.le_add_right _ _) (k _ _ hq)
  · refine l_callX hF (pc := 475) [.ref x, .int (iZ (lA xs i 1)), .int (iZ (lA xs i 2)), .ref o] [.ref o, .int (iZ (lA xs i 2)), .int (iZ (lA xs i 1)), .ref x] 4 dL_law_475 gL_law_L_of rfl dd_L_of rfl rfl rfl rfl hcl (x_L_of (yl Y) hF.T7 hF.k7 (fun l hl => x_X7_of l hl hF.T7 hF.k7 lA_in lA_in ef h0) hF.2.2.1) ?_
    refine l_istore hF (pc := 478) (ls' := [(5, .int 1), (0, .ref (ya Y)), (1, .ref x), (2, .ref mm), (3, .ref o), (4, .int (nI i))]) dL_law_478 rfl rfl ?_
    refine l_aload_n hF (pc := 480) dL_law_480 3 rfl rfl ?_
    refine l_arg hF (pc := 481) hi (k := 1) (by decide) (by decide) 1 5 dL_law_481 dL_law_482 dL_law_484 dL_law_485 dL_law_486 rfl rfl ?_
    refine l_arg hF (pc := 487) hi (k := 2) (by decide) (by decide) 1 5 dL_law_487 dL_law_488 dL_law_490 dL_law_491 dL_law_492 rfl rfl ?_
    refine l_call8 hF (pc := 493) [.int (iZ (lA xs i 1)), .int (iZ (lA xs i 2))] [.int (iZ (lA xs i 2)), .int (iZ (lA xs i 1))] 2 dL_law_493 (goodIn_l gL_law_X8_of) rfl dd_X8_of ⟨rfl, rfl⟩ rfl rfl rfl hcl (k_X8_of (yl Y) hF.T8 hF.k8 lA_in lA_in e8) (fun rr => ?_)
    refine l_istore hF (pc := 496) (ls' := [(6, .int (iZ r)), (5, .int 1), (0, .ref (ya Y)), (1, .ref x), (2, .ref mm), (3, .ref o), (4, .int (nI i))]) dL_law_496 rfl rfl ?_
    refine l_aload_n hF (pc := 498) dL_law_498 4 rfl rfl ?_
    refine l_call8 hF (pc := 499) [] [] 0 dL_law_499 (goodIn_l gL_law_X8_thrown) rfl dd_X8_thrown ⟨rfl, rfl⟩ rfl rfl rfl hcl (k_X8_thrown (N := 0) (yl Y) hF.T8 hF.k8 rfl) (fun _ => ?_)
    rw [ht]
    refine l_iload hF (pc := 502) dL_law_502 1 rfl ?_
    refine l_same hF (pc := 504) 509 dL_law_504 (by decide) ?_
    refine l_iload hF (pc := 509) dL_law_509 1 rfl ?_
    refine l_nen hF (pc := 511) (by decide) 526 dL_law_511 (by decide) ?_
    refine l_goto hF (pc := 526) 1183 dL_law_526 (by decide) ?_
    refine l_sub [2, 3, 4, 5, 6] rfl ?_
    exact k _ _ hq
set_option maxHeartbeats 4000000 in
set_option maxRecDepth 20000 in
theorem l_position (hF : lFx Y L xs ρ x mm o sa) (hi : i + 7 ≤ L) (hcl : cells + 1 ≤ 601024 ∧ slots + 6 ≤ 7293034) (hp : pR (y7 Y) ρ x (y8 Y) mm c μ7 μ8) (k : ∀ ν7 ν8, pR (y7 Y) ρ x (y8 Y) mm (c + 1) ν7 ν8 → lNx Y (cells + 1) (slots + 6) 1183 (lsv Y x mm o i) [] ν7 ν8) : lNx Y cells slots 1047 (lsv Y x mm o i) [] μ7 μ8 := by
  have hcl0 : cells ≤ 601024 ∧ slots ≤ 7293034 := ⟨by omega, by omega⟩
  have hN : 100000 < 1000000 := by decide
  obtain ⟨r, ν8, e8, hq⟩ := p_position (N := 1000000) hF.ly hF.ho hp (lA xs i 1)
  refine l_aload_n hF (pc := 1047) dL_law_1047 1 rfl rfl ?_
  refine l_arg hF (pc := 1048) hi (k := 1) (by decide) (by decide) 0 4 dL_law_1048 dL_law_1049 dL_law_1051 dL_law_1052 dL_law_1053 rfl rfl ?_
  refine l_aload_n hF (pc := 1054) dL_law_1054 3 rfl rfl ?_
  rcases hq with ⟨h0, hr, ht, hq⟩ | ⟨h0, ht, hq⟩
  · refine l_callL hF (pc := 1055) [.ref x, .int (iZ (lA xs i 1)), .ref o] [.ref o, .int (iZ (lA xs i 1)), .ref x] 3 dL_law_1055 gL_law_L_position rfl dd_L_position ⟨rfl, rfl⟩ rfl rfl rfl hcl0 (k_L_position_ok (yl Y) hF.T7 hF.k7 hF.ko (fun l => k_X7_position_ok l hF.T7 hF.k7 lA_in h0 hr)) (fun _ => ?_)
    refine l_istore hF (pc := 1058) (ls' := [(5, .int (iZ 0)), (0, .ref (ya Y)), (1, .ref x), (2, .ref mm), (3, .ref o), (4, .int (nI i))]) dL_law_1058 rfl rfl ?_
    refine l_aload_n hF (pc := 1060) dL_law_1060 3 rfl rfl ?_
    refine l_arg hF (pc := 1061) hi (k := 1) (by decide) (by decide) 1 5 dL_law_1061 dL_law_1062 dL_law_1064 dL_law_1065 dL_law_1066 rfl rfl ?_
    refine l_call8 hF (pc := 1067) [.int (iZ (lA xs i 1))] [.int (iZ (lA xs i 1))] 1 dL_law_1067 (goodIn_l gL_law_X8_position) rfl dd_X8_position ⟨rfl, rfl⟩ rfl rfl rfl hcl0 (k_X8_position (yl Y) hF.T8 hF.k8 lA_in e8) (fun rr => ?_)
    refine l_istore hF (pc := 1070) (ls' := [(6, .int (iZ r)), (5, .int (iZ 0)), (0, .ref (ya Y)), (1, .ref x), (2, .ref mm), (3, .ref o), (4, .int (nI i))]) dL_law_1070 rfl rfl ?_
    refine l_aload_n hF (pc := 1072) dL_law_1072 4 rfl rfl ?_
    refine l_call8 hF (pc := 1073) [] [] 0 dL_law_1073 (goodIn_l gL_law_X8_thrown) rfl dd_X8_thrown ⟨rfl, rfl⟩ rfl rfl rfl hcl0 (k_X8_thrown (N := 0) (yl Y) hF.T8 hF.k8 rfl) (fun _ => ?_)
    rw [ht]
    refine l_iload hF (pc := 1076) dL_law_1076 1 rfl ?_
    refine l_same hF (pc := 1078) 1083 dL_law_1078 (by decide) ?_
    refine l_iload hF (pc := 1083) dL_law_1083 1 rfl ?_
    refine l_nez hF (pc := 1085) rfl 1100 dL_law_1085 (by decide) ?_
    refine l_aload_n hF (pc := 1088) dL_law_1088 5 rfl rfl ?_
    refine l_iconst hF (pc := 1089) dL_law_1089 ?_
    refine l_lald hF (pc := 1090) dL_law_1090 ?_
    rw [show gA (sA μ7 o 0 r) o 0 = r from gA_s]
    refine l_iload hF (pc := 1091) dL_law_1091 0 rfl ?_
    refine l_i2l hF (pc := 1093) rr dL_law_1093 ?_
    refine l_lsame hF (pc := 1094) dL_law_1094 ?_
    refine l_zero hF (pc := 1095) rfl 1100 dL_law_1095 (by decide) ?_
    refine l_goto hF (pc := 1100) 1183 dL_law_1100 (by decide) ?_
    refine l_sub [2, 3, 4, 5, 6] rfl ?_
    exact l_widen (Nat.le_add_right _ _) (Nat.le_add_right _ _) (k _ _ hq)
  · refine l_callX hF (pc := 1055) [.ref x, .int (iZ (lA xs i 1)), .ref o] [.ref o, .int (iZ (lA xs i 1)), .ref x] 3 dL_law_1055 gL_law_L_position rfl dd_L_position rfl rfl rfl rfl hcl (x_L_position (yl Y) hF.T7 hF.k7 (fun l hl => x_X7_position l hl hF.T7 hF.k7 lA_in h0) hF.2.2.1) ?_
    refine l_istore hF (pc := 1058) (ls' := [(5, .int 1), (0, .ref (ya Y)), (1, .ref x), (2, .ref mm), (3, .ref o), (4, .int (nI i))]) dL_law_1058 rfl rfl ?_
    refine l_aload_n hF (pc := 1060) dL_law_1060 3 rfl rfl ?_
    refine l_arg hF (pc := 1061) hi (k := 1) (by decide) (by decide) 1 5 dL_law_1061 dL_law_1062 dL_law_1064 dL_law_1065 dL_law_1066 rfl rfl ?_
    refine l_call8 hF (pc := 1067) [.int (iZ (lA xs i 1))] [.int (iZ (lA xs i 1))] 1 dL_law_1067 (goodIn_l gL_law_X8_position) rfl dd_X8_position ⟨rfl, rfl⟩ rfl rfl rfl hcl (k_X8_position (yl Y) hF.T8 hF.k8 lA_in e8) (fun rr => ?_)
    refine l_istore hF (pc := 1070) (ls' := [(6, .int (iZ r)), (5, .int 1), (0, .ref (ya Y)), (1, .ref x), (2, .ref mm), (3, .ref o), (4, .int (nI i))]) dL_law_1070 rfl rfl ?_
    refine l_aload_n hF (pc := 1072) dL_law_1072 4 rfl rfl ?_
    refine l_call8 hF (pc := 1073) [] [] 0 dL_law_1073 (goodIn_l gL_law_X8_thrown) rfl dd_X8_thrown ⟨rfl, rfl⟩ rfl rfl rfl hcl (k_X8_thrown (N := 0) (yl Y) hF.T8 hF.k8 rfl) (fun _ => ?_)
    rw [ht]
    refine l_iload hF (pc := 1076) dL_law_1076 1 rfl ?_
    refine l_same hF (pc := 1078) 1083 dL_law_1078 (by decide) ?_
    refine l_iload hF (pc := 1083) dL_law_1083 1 rfl ?_
    refine l_nen hF (pc := 1085) (by decide) 1100 dL_law_1085 (by decide) ?_
    refine l_goto hF (pc := 1100) 1183 dL_law_1100 (by decide) ?_
    refine l_sub [2, 3, 4, 5, 6] rfl ?_
    exact k _ _ hq
set_option maxHeartbeats 4000000 in
set_option maxRecDepth 20000 in
theorem l_money (hF : lFx Y L xs ρ x mm o sa) (hi : i + 7 ≤ L) (hcl : cells + 1 ≤ 601024 ∧ slots + 6 ≤ 7293034) (hp : pR (y7 Y) ρ x (y8 Y) mm c μ7 μ8) (k : ∀ ν7 ν8, pR (y7 Y) ρ x (y8 Y) mm (c + 1) ν7 ν8 → lNx Y (cells + 1) (slots + 6) 1183 (lsv Y x mm o i) [] ν7 ν8) : lNx Y cells slots 1103 (lsv Y x mm o i) [] μ7 μ8 := by
  have hcl0 : cells ≤ 601024 ∧ slots ≤ 7293034 := ⟨by omega, by omega⟩
  have hN : 100000 < 1000000 := by decide
  obtain ⟨r, ν8, e8, hq⟩ := p_money (N := 1000000) hF.ly hF.ho hp (lA xs i 1)
  refine l_aload_n hF (pc := 1103) dL_law_1103 1 rfl rfl ?_
  refine l_arg hF (pc := 1104) hi (k := 1) (by decide) (by decide) 0 4 dL_law_1104 dL_law_1105 dL_law_1107 dL_law_1108 dL_law_1109 rfl rfl ?_
  refine l_aload_n hF (pc := 1110) dL_law_1110 3 rfl rfl ?_
  rcases hq with ⟨h0, hr, ht, hq⟩ | ⟨h0, ht, hq⟩
  · refine l_callL hF (pc := 1111) [.ref x, .int (iZ (lA xs i 1)), .ref o] [.ref o, .int (iZ (lA xs i 1)), .ref x] 3 dL_law_1111 gL_law_L_money rfl dd_L_money ⟨rfl, rfl⟩ rfl rfl rfl hcl0 (k_L_money_ok (yl Y) hF.T7 hF.k7 hF.ko (fun l => k_X7_money_ok l hF.T7 hF.k7 lA_in h0 hr)) (fun _ => ?_)
    refine l_istore hF (pc := 1114) (ls' := [(5, .int (iZ 0)), (0, .ref (ya Y)), (1, .ref x), (2, .ref mm), (3, .ref o), (4, .int (nI i))]) dL_law_1114 rfl rfl ?_
    refine l_aload_n hF (pc := 1116) dL_law_1116 3 rfl rfl ?_
    refine l_arg hF (pc := 1117) hi (k := 1) (by decide) (by decide) 1 5 dL_law_1117 dL_law_1118 dL_law_1120 dL_law_1121 dL_law_1122 rfl rfl ?_
    refine l_call8 hF (pc := 1123) [.int (iZ (lA xs i 1))] [.int (iZ (lA xs i 1))] 1 dL_law_1123 (goodIn_l gL_law_X8_money) rfl dd_X8_money ⟨rfl, rfl⟩ rfl rfl rfl hcl0 (k_X8_money (yl Y) hF.T8 hF.k8 lA_in e8) (fun rr => ?_)
    refine l_lstore hF (pc := 1126) (ls' := [(6, .long (lZ r)), (5, .int (iZ 0)), (0, .ref (ya Y)), (1, .ref x), (2, .ref mm), (3, .ref o), (4, .int (nI i))]) dL_law_1126 rfl rfl ?_
    refine l_aload_n hF (pc := 1128) dL_law_1128 4 rfl rfl ?_
    refine l_call8 hF (pc := 1129) [] [] 0 dL_law_1129 (goodIn_l gL_law_X8_thrown) rfl dd_X8_thrown ⟨rfl, rfl⟩ rfl rfl rfl hcl0 (k_X8_thrown (N := 0) (yl Y) hF.T8 hF.k8 rfl) (fun _ => ?_)
    rw [ht]
    refine l_iload hF (pc := 1132) dL_law_1132 1 rfl ?_
    refine l_same hF (pc := 1134) 1139 dL_law_1134 (by decide) ?_
    refine l_iload hF (pc := 1139) dL_law_1139 1 rfl ?_
    refine l_nez hF (pc := 1141) rfl 1155 dL_law_1141 (by decide) ?_
    refine l_aload_n hF (pc := 1144) dL_law_1144 5 rfl rfl ?_
    refine l_iconst hF (pc := 1145) dL_law_1145 ?_
    refine l_lald hF (pc := 1146) dL_law_1146 ?_
    rw [show gA (sA μ7 o 0 r) o 0 = r from gA_s]
    refine l_lload hF (pc := 1147) dL_law_1147 0 rfl ?_
    refine l_lsame hF (pc := 1149) dL_law_1149 ?_
    refine l_zero hF (pc := 1150) rfl 1155 dL_law_1150 (by decide) ?_
    refine l_goto hF (pc := 1155) 1183 dL_law_1155 (by decide) ?_
    refine l_sub [2, 3, 4, 5, 6] rfl ?_
    exact l_widen (Nat.le_add_right _ _) (Nat.le_add_right _ _) (k _ _ hq)
  · refine l_callX hF (pc := 1111) [.ref x, .int (iZ (lA xs i 1)), .ref o] [.ref o, .int (iZ (lA xs i 1)), .ref x] 3 dL_law_1111 gL_law_L_money rfl dd_L_money rfl rfl rfl rfl hcl (x_L_money (yl Y) hF.T7 hF.k7 (fun l hl => x_X7_money l hl hF.T7 hF.k7 lA_in h0) hF.2.2.1) ?_
    refine l_istore hF (pc := 1114) (ls' := [(5, .int 1), (0, .ref (ya Y)), (1, .ref x), (2, .ref mm), (3, .ref o), (4, .int (nI i))]) dL_law_1114 rfl rfl ?_
    refine l_aload_n hF (pc := 1116) dL_law_1116 3 rfl rfl ?_
    refine l_arg hF (pc := 1117) hi (k := 1) (by decide) (by decide) 1 5 dL_law_1117 dL_law_1118 dL_law_1120 dL_law_1121 dL_law_1122 rfl rfl ?_
    refine l_call8 hF (pc := 1123) [.int (iZ (lA xs i 1))] [.int (iZ (lA xs i 1))] 1 dL_law_1123 (goodIn_l gL_law_X8_money) rfl dd_X8_money ⟨rfl, rfl⟩ rfl rfl rfl hcl (k_X8_money (yl Y) hF.T8 hF.k8 lA_in e8) (fun rr => ?_)
    refine l_lstore hF (pc := 1126) (ls' := [(6, .long (lZ r)), (5, .int 1), (0, .ref (ya Y)), (1, .ref x), (2, .ref mm), (3, .ref o), (4, .int (nI i))]) dL_law_1126 rfl rfl ?_
    refine l_aload_n hF (pc := 1128) dL_law_1128 4 rfl rfl ?_
    refine l_call8 hF (pc := 1129) [] [] 0 dL_law_1129 (goodIn_l gL_law_X8_thrown) rfl dd_X8_thrown ⟨rfl, rfl⟩ rfl rfl rfl hcl (k_X8_thrown (N := 0) (yl Y) hF.T8 hF.k8 rfl) (fun _ => ?_)
    rw [ht]
    refine l_iload hF (pc := 1132) dL_law_1132 1 rfl ?_
    refine l_same hF (pc := 1134) 1139 dL_law_1134 (by decide) ?_
    refine l_iload hF (pc := 1139) dL_law_1139 1 rfl ?_
    refine l_nen hF (pc := 1141) (by decide) 1155 dL_law_1141 (by decide) ?_
    refine l_goto hF (pc := 1155) 1183 dL_law_1155 (by decide) ?_
    refine l_sub [2, 3, 4, 5, 6] rfl ?_
    exact k _ _ hq
end LCASES
