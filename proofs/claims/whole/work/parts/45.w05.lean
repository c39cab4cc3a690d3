-- ProRataMarket$Tape.modeText
set_option maxHeartbeats 4000000 in
set_option maxRecDepth 20000 in
theorem w_X6_modeText {X : qB} {N : Nat} (hX : qOk X cX6_modeText RX6 1 (some (.object "java/lang/String")) wsX6_modeText 0 0) {r : Nat} {nu : qM} (hE : xr X = some (.ref (gS (xG X) r)) ∧ (r < 12 → xΦ X) ∧ xμ X = nu) 
    {x0 : Int} (r_x0 : in32 x0) {m0 : qM} (hR_m0 : qR (xG X) m0)
    (h : f_X6_modeText N (xG X)  x0 m0 = some (r, nu)) : qN X 1 0 [(0, .int (iZ x0))] [] m0 := by
  have hT := hX.T
  unfold f_X6_modeText at h
  refine qn_iload_n hX (pc := 0) dX6_modeText_0 0 rfl rfl ?_
  by_cases c1 : x0 = 0
  · have h := ite_t h c1
    refine qn_tswIn hX (pc := 1) r_x0 28 dX6_modeText_1 0 c1 (by decide) rfl (by decide) ?_
    refine qn_ldcS hX (pc := 28) 8 (by decide) rfl rfl dX6_modeText_28 ?_
    exact qn_sret (v := 8) hX (pc := 30) dX6_modeText_30 hE hR_m0 (by decide) (Option.some.inj h)
  have h := ite_f h c1
  by_cases c2 : x0 = 1
  · have h := ite_t h c2
    refine qn_tswIn hX (pc := 1) r_x0 31 dX6_modeText_1 1 c2 (by decide) rfl (by decide) ?_
    refine qn_ldcS hX (pc := 31) 9 (by decide) rfl rfl dX6_modeText_31 ?_
    exact qn_sret (v := 9) hX (pc := 33) dX6_modeText_33 hE hR_m0 (by decide) (Option.some.inj h)
  have h := ite_f h c2
  by_cases c3 : x0 = 2
  · have h := ite_t h c3
    refine qn_tswIn hX (pc := 1) r_x0 34 dX6_modeText_1 2 c3 (by decide) rfl (by decide) ?_
    refine qn_ldcS hX (pc := 34) 10 (by decide) rfl rfl dX6_modeText_34 ?_
    exact qn_sret (v := 10) hX (pc := 36) dX6_modeText_36 hE hR_m0 (by decide) (Option.some.inj h)
  have h := ite_f h c3
  refine qn_tswOut hX (pc := 1) r_x0 37 dX6_modeText_1 (by omega) (by decide) ?_
  refine qn_ldcS hX (pc := 37) 11 (by decide) rfl rfl dX6_modeText_37 ?_
  exact qn_sret (v := 11) hX (pc := 39) dX6_modeText_39 hE hR_m0 (by decide) (Option.some.inj h)
theorem k_X6_modeText (l : Launch) {G : qG} (hT : qT G) {N : Nat} {x0 : Int} (r_x0 : in32 x0) {m0 : qM} {r : Nat} {nu : qM} (h : f_X6_modeText N G x0 m0 = some (r, nu)) : qC l yX6_modeText wsX6_modeText 0 0 G [.int (iZ x0)] m0 (some (.ref (gS G r))) (r < 12) nu := by
  refine qn_start (hy := by decide) hT (hw := rfl) (hn := Nat.le_of_ble_eq_true rfl) ?_
  intro X h1 h2 h3 h4 hX hR
  subst h4
  exact w_X6_modeText hX ⟨h1, fun q => h2 ▸ q, h3⟩ r_x0 hR h
theorem dd_X6_modeText : yX6_modeText.cls ≠ "java/lang/invoke/MethodHandle" ∧ yX6_modeText.cls ≠ "java/lang/invoke/VarHandle" ∧ (parseMethodDescriptor yX6_modeText.desc).map (fun d => d.parameters.length) = some 1 := by decide +kernel
-- ProRataMarket$Tape.put
theorem hi_X6_put_6 : ∀ w ∈ wsX60, w ∈ wsX6_put := fun w h => List.mem_cons_of_mem _ (List.mem_append_right _ h)
theorem fd_X6_put_18 : qFd RX6 wsX6_put 18 6 1 0 601 := ⟨RX6, TX6, 12, _, rfl, hi_X6_put_6, by decide, (by decide +kernel : Cond.fieldLink RX6 18 (TX6 1).1 (TX6 1).2.1 (TX6 1).2.2.1 ∈ wsX6_put), rfl, rfl, by decide⟩
theorem fd_X6_put_9 : qFd RX6 wsX6_put 9 6 0 1 600 := ⟨RX6, TX6, 12, _, rfl, hi_X6_put_6, by decide, (by decide +kernel : Cond.fieldLink RX6 9 (TX6 0).1 (TX6 0).2.1 (TX6 0).2.2.1 ∈ wsX6_put), rfl, rfl, by decide⟩
theorem fp_X6_put_18 : qFp RX6 wsX6_put 18 6 1 0 601 .int := ⟨RX6, TX6, 12, _, tyX6, rfl, hi_X6_put_6, by decide, (by decide +kernel : Cond.fieldLink RX6 18 (TX6 1).1 (TX6 1).2.1 (TX6 1).2.2.1 ∈ wsX6_put), rfl, rfl, by decide, tyX6_ok, nmX6, rfl, by decide +kernel⟩
set_option maxHeartbeats 4000000 in
set_option maxRecDepth 20000 in
theorem w_X6_put_3 {X : qB} {N : Nat} (hX : qOk X cX6_put RX6 3 none wsX6_put 0 0) {r : qM} (hE : xr X = none ∧ (True → xΦ X) ∧ xμ X = r) {k3 : (Nat → Int → Int → qM → Option (qM))} (hk3 : ∀ (x0 : Nat) (x1 : Int) (x2 : Int) (m0 : qM), gK (xG X) x0 = 7 → in32 x1 → in32 x2 → qR (xG X) m0 → k3 x0 x1 x2 m0 = some r → qN X 3 3 [(0, .ref x0), (1, .int (iZ x1)), (2, .int (iZ x2))] [] m0)
    {x0 : Nat} {x1 : Int} {x2 : Int} (k_x0 : gK (xG X) x0 = 7) (r_x1 : in32 x1) (r_x2 : in32 x2) {m0 : qM} (hR_m0 : qR (xG X) m0)
    (h : f_X6_put_3 N (xG X) k3 x0 x1 x2 m0 = some r) : qN X 3 3 [(0, .ref x0), (1, .int (iZ x1)), (2, .int (iZ x2))] [] m0 := by
  have hT := hX.T
  unfold f_X6_put_3 at h
  refine qn_iload_n hX (pc := 3) dX6_put_3 2 rfl rfl ?_
  refine qn_if_lt hX (pc := 4) r_x2 49 dX6_put_4 (by decide) (fun c1 => ?_) (fun c1 => ?_)
  · have h := ite_t h c1
    exact qn_vret hX (pc := 49) dX6_put_49 hE hR_m0 (Option.some.inj h)
  · have h := ite_f h c1
    refine qn_aload_n hX (pc := 7) dX6_put_7 0 rfl rfl ?_
    refine qn_getI hX (pc := 8) fd_X6_put_18 dX6_put_8 k_x0 ?_
    refine qn_sipush hX (pc := 11) dX6_put_11 (by decide) ?_
    refine qn_icmp_ge hX (pc := 14) (hR_m0.i 601 _ rfl) (by decide) 49 dX6_put_14 (by decide) (fun c2 => ?_) (fun c2 => ?_)
    · have h := ite_f h c2
      exact qn_vret hX (pc := 49) dX6_put_49 hE hR_m0 (Option.some.inj h)
    · have h := ite_t h c2
      refine qn_aload_n hX (pc := 17) dX6_put_17 0 rfl rfl ?_
      refine qn_getR hX (pc := 18) fd_X6_put_9 dX6_put_18 k_x0 ?_
      refine qn_aload_n hX (pc := 21) dX6_put_21 0 rfl rfl ?_
      refine qn_getI hX (pc := 22) fd_X6_put_18 dX6_put_22 k_x0 ?_
      refine qn_iload_n hX (pc := 25) dX6_put_25 1 rfl rfl ?_
      refine qn_iload_n hX (pc := 26) dX6_put_26 2 rfl rfl ?_
      obtain ⟨v3, e_v3, h⟩ := kp_e h
      have r_v3 : in32 v3 := by rw [e_v3]; exact in32_of _
      refine qn_ishr hX (pc := 27) dX6_put_27 e_v3 ?_
      refine qn_sipush hX (pc := 28) dX6_put_28 (by decide) ?_
      obtain ⟨v4, e_v4, h⟩ := kp_e h
      have r_v4 : in32 v4 := by rw [e_v4]; exact in32_of _
      refine qn_iand hX (pc := 31) dX6_put_31 e_v4 ?_
      obtain ⟨m5, e_m5, b_m5, h⟩ := wrA_e h
      refine qn_iast hX (pc := 32) 500 dX6_put_32 (qr_600 hT k_x0) (by decide) b_m5 hR_m0 r_v4 e_m5 (fun hR_m5 => ?_) 
      refine qn_aload_n hX (pc := 33) dX6_put_33 0 rfl rfl ?_
      refine qn_dup hX (pc := 34) dX6_put_34 rfl ?_
      refine qn_getI hX (pc := 35) fd_X6_put_18 dX6_put_35 k_x0 ?_
      refine qn_iconst hX (pc := 38) dX6_put_38 ?_
      obtain ⟨v6, e_v6, r_v6, h⟩ := ckI_e h
      refine qn_iadd hX (pc := 39) dX6_put_39 e_v6 ?_
      obtain ⟨m7, e_m7, h⟩ := kp_e h
      refine qn_putI hX (pc := 40) fp_X6_put_18 dX6_put_40 k_x0 hR_m5 r_v6 e_m7 (fun hR_m7 => ?_) 
      obtain ⟨v8, e_v8, r_v8, h⟩ := ckI_e h
      refine qn_iinc hX (pc := 43) (ls' := [(2, .int (iZ v8)), (0, .ref x0), (1, .int (iZ x1))]) dX6_put_43 2 rfl e_v8 rfl rfl ?_
      refine qn_goto hX (pc := 46) 3 dX6_put_46 (by decide) ?_
      refine qn_sub (ls' := [(0, .ref x0), (1, .int (iZ x1)), (2, .int (iZ v8))]) [1, 2, 0] rfl ?_
      exact hk3 x0 x1 v8 m7 k_x0 r_x1 r_v8 hR_m7 h
set_option maxHeartbeats 4000000 in
set_option maxRecDepth 20000 in
theorem w_X6_put_L3 {X : qB} {N : Nat} (hX : qOk X cX6_put RX6 3 none wsX6_put 0 0) {r : qM} (hE : xr X = none ∧ (True → xΦ X) ∧ xμ X = r) 
    {x0 : Nat} {x1 : Int} {x2 : Int} (k_x0 : gK (xG X) x0 = 7) (r_x1 : in32 x1) (r_x2 : in32 x2) {m0 : qM} (hR_m0 : qR (xG X) m0)
    (h : f_X6_put_L3 N (xG X)  x0 x1 x2 m0 = some r) : qN X 3 3 [(0, .ref x0), (1, .int (iZ x1)), (2, .int (iZ x2))] [] m0 := by
  unfold f_X6_put_L3 at h
  exact qLoop_w (σ := Nat × Int × Int × qM) (P := fun p => gK (xG X) p.1 = 7 ∧ in32 p.2.1 ∧ in32 p.2.2.1 ∧ qR (xG X) p.2.2.2) (Q := fun p => qN X 3 3 [(0, .ref p.1), (1, .int (iZ p.2.1)), (2, .int (iZ p.2.2.1))] [] p.2.2.2) (fun k hrec p hp hh => w_X6_put_3 hX hE (fun x0 x1 x2 m0 q0 q1 q2 hRm hh => hrec (x0, x1, x2, m0) ⟨q0, q1, q2, hRm⟩ hh) hp.1 hp.2.1 hp.2.2.1 hp.2.2.2 hh) N (x0, x1, x2, m0) ⟨k_x0, r_x1, r_x2, hR_m0⟩ h
set_option maxHeartbeats 4000000 in
set_option maxRecDepth 20000 in
theorem w_X6_put {X : qB} {N : Nat} (hX : qOk X cX6_put RX6 3 none wsX6_put 0 0) {r : qM} (hE : xr X = none ∧ (True → xΦ X) ∧ xμ X = r) 
    {x0 : Nat} {x1 : Int} (k_x0 : gK (xG X) x0 = 7) (r_x1 : in32 x1) {m0 : qM} (hR_m0 : qR (xG X) m0)
    (h : f_X6_put N (xG X)  x0 x1 m0 = some r) : qN X 3 0 [(0, .ref x0), (1, .int (iZ x1))] [] m0 := by
  have hT := hX.T
  unfold f_X6_put at h
  refine qn_bipush hX (pc := 0) dX6_put_0 (by decide) ?_
  refine qn_istore_n hX (pc := 2) (ls' := [(2, .int (iZ 24)), (0, .ref x0), (1, .int (iZ x1))]) dX6_put_2 rfl rfl rfl ?_
  refine qn_sub (ls' := [(0, .ref x0), (1, .int (iZ x1)), (2, .int (iZ 24))]) [1, 2, 0] rfl ?_
  exact w_X6_put_L3 hX hE  k_x0 r_x1 (by decide) hR_m0 h
theorem k_X6_put (l : Launch) {G : qG} (hT : qT G) {N : Nat} {x0 : Nat} {x1 : Int} (k_x0 : gK G x0 = 7) (r_x1 : in32 x1) {m0 : qM} {r : qM} (h : f_X6_put N G x0 x1 m0 = some r) : qC l yX6_put wsX6_put 0 0 G [.ref x0, .int (iZ x1)] m0 none True r := by
  refine qn_start (hy := by decide) hT (hw := rfl) (hn := Nat.le_of_ble_eq_true rfl) ?_
  intro X h1 h2 h3 h4 hX hR
  subst h4
  exact w_X6_put hX ⟨h1, fun q => h2 ▸ q, h3⟩ k_x0 r_x1 hR h
theorem dd_X6_put : yX6_put.cls = RX6 ∧ yX6_put.cls ≠ "java/lang/invoke/MethodHandle" ∧ yX6_put.cls ≠ "java/lang/invoke/VarHandle" ∧ (parseMethodDescriptor yX6_put.desc).map (fun d => d.parameters.length) = some 1 := by decide +kernel
-- ProRataMarket$Tape.readDigits
theorem hi_X6_readDigits_6 : ∀ w ∈ wsX60, w ∈ wsX6_readDigits := fun w h => List.mem_cons_of_mem _ (List.mem_append_right _ h)
theorem fd_X6_readDigits_31 : qFd RX6 wsX6_readDigits 31 6 3 0 603 := ⟨RX6, TX6, 12, _, rfl, hi_X6_readDigits_6, by decide, (by decide +kernel : Cond.fieldLink RX6 31 (TX6 3).1 (TX6 3).2.1 (TX6 3).2.2.1 ∈ wsX6_readDigits), rfl, rfl, by decide⟩
theorem fd_X6_readDigits_62 : qFd RX6 wsX6_readDigits 62 6 5 0 605 := ⟨RX6, TX6, 12, _, rfl, hi_X6_readDigits_6, by decide, (by decide +kernel : Cond.fieldLink RX6 62 (TX6 5).1 (TX6 5).2.1 (TX6 5).2.2.1 ∈ wsX6_readDigits), rfl, rfl, by decide⟩
theorem fp_X6_readDigits_59 : qFp RX6 wsX6_readDigits 59 6 4 0 604 .int := ⟨RX6, TX6, 12, _, tyX6, rfl, hi_X6_readDigits_6, by decide, (by decide +kernel : Cond.fieldLink RX6 59 (TX6 4).1 (TX6 4).2.1 (TX6 4).2.2.1 ∈ wsX6_readDigits), rfl, rfl, by decide, tyX6_ok, nmX6, rfl, by decide +kernel⟩
theorem fp_X6_readDigits_31 : qFp RX6 wsX6_readDigits 31 6 3 0 603 .int := ⟨RX6, TX6, 12, _, tyX6, rfl, hi_X6_readDigits_6, by decide, (by decide +kernel : Cond.fieldLink RX6 31 (TX6 3).1 (TX6 3).2.1 (TX6 3).2.2.1 ∈ wsX6_readDigits), rfl, rfl, by decide, tyX6_ok, nmX6, rfl, by decide +kernel⟩
theorem fd_X6_readDigits_28 : qFd RX6 wsX6_readDigits 28 6 2 0 602 := ⟨RX6, TX6, 12, _, rfl, hi_X6_readDigits_6, by decide, (by decide +kernel : Cond.fieldLink RX6 28 (TX6 2).1 (TX6 2).2.1 (TX6 2).2.2.1 ∈ wsX6_readDigits), rfl, rfl, by decide⟩
theorem fd_X6_readDigits_9 : qFd RX6 wsX6_readDigits 9 6 0 1 600 := ⟨RX6, TX6, 12, _, rfl, hi_X6_readDigits_6, by decide, (by decide +kernel : Cond.fieldLink RX6 9 (TX6 0).1 (TX6 0).2.1 (TX6 0).2.2.1 ∈ wsX6_readDigits), rfl, rfl, by decide⟩
theorem fd_X6_readDigits_78 : qFd RX6 wsX6_readDigits 78 6 6 0 606 := ⟨RX6, TX6, 12, _, rfl, hi_X6_readDigits_6, by decide, (by decide +kernel : Cond.fieldLink RX6 78 (TX6 6).1 (TX6 6).2.1 (TX6 6).2.2.1 ∈ wsX6_readDigits), rfl, rfl, by decide⟩
theorem fp_X6_readDigits_78 : qFp RX6 wsX6_readDigits 78 6 6 0 606 .int := ⟨RX6, TX6, 12, _, tyX6, rfl, hi_X6_readDigits_6, by decide, (by decide +kernel : Cond.fieldLink RX6 78 (TX6 6).1 (TX6 6).2.1 (TX6 6).2.2.1 ∈ wsX6_readDigits), rfl, rfl, by decide, tyX6_ok, nmX6, rfl, by decide +kernel⟩
set_option maxHeartbeats 4000000 in
set_option maxRecDepth 20000 in
theorem w_X6_readDigits_82 {X : qB} {N : Nat} (hX : qOk X cX6_readDigits RX6 1 none wsX6_readDigits 1 20) {r : qM} (hE : xr X = none ∧ (True → xΦ X) ∧ xμ X = r) 
    {x0 : Nat} (k_x0 : gK (xG X) x0 = 7) {m0 : qM} (hR_m0 : qR (xG X) m0)
    (h : f_X6_readDigits_82 N (xG X)  x0 m0 = some r) : qN X 1 82 [(0, .ref x0)] [] m0 := by
  have hT := hX.T
  unfold f_X6_readDigits_82 at h
  refine qn_aload_n hX (pc := 82) dX6_readDigits_82 0 rfl rfl ?_
  refine qn_aload_n hX (pc := 83) dX6_readDigits_83 0 rfl rfl ?_
  refine qn_getI hX (pc := 84) fd_X6_readDigits_31 dX6_readDigits_84 k_x0 ?_
  refine qn_aload_n hX (pc := 87) dX6_readDigits_87 0 rfl rfl ?_
  refine qn_getI hX (pc := 88) fd_X6_readDigits_62 dX6_readDigits_88 k_x0 ?_
  obtain ⟨v1, e_v1, r_v1, h⟩ := ckI_e h
  refine qn_isub hX (pc := 91) dX6_readDigits_91 e_v1 ?_
  refine qn_bipush hX (pc := 92) dX6_readDigits_92 (by decide) ?_
  refine qn_icmp_gt hX (pc := 94) r_v1 (by decide) 101 dX6_readDigits_94 (by decide) (fun c2 => ?_) (fun c2 => ?_)
  · have h := ite_t h c2
    refine qn_iconst hX (pc := 101) dX6_readDigits_101 ?_
    obtain ⟨m3, e_m3, h⟩ := kp_e h
    refine qn_putI hX (pc := 102) fp_X6_readDigits_59 dX6_readDigits_102 k_x0 hR_m0 (show in32 4 by decide) e_m3 (fun hR_m3 => ?_) 
    exact qn_vret hX (pc := 105) dX6_readDigits_105 hE hR_m3 (Option.some.inj h)
  · have h := ite_f h c2
    refine qn_iconst hX (pc := 97) dX6_readDigits_97 ?_
    refine qn_goto hX (pc := 98) 102 dX6_readDigits_98 (by decide) ?_
    obtain ⟨m4, e_m4, h⟩ := kp_e h
    refine qn_putI hX (pc := 102) fp_X6_readDigits_59 dX6_readDigits_102 k_x0 hR_m0 (show in32 2 by decide) e_m4 (fun hR_m4 => ?_) 
    exact qn_vret hX (pc := 105) dX6_readDigits_105 hE hR_m4 (Option.some.inj h)
set_option maxHeartbeats 4000000 in
set_option maxRecDepth 20000 in
theorem w_X6_readDigits_69 {X : qB} {N : Nat} (hX : qOk X cX6_readDigits RX6 1 none wsX6_readDigits 1 20) {r : qM} (hE : xr X = none ∧ (True → xΦ X) ∧ xμ X = r) {k5 : (Nat → qM → Option (qM))} (hk5 : ∀ (x0 : Nat) (m0 : qM), gK (xG X) x0 = 7 → qR (xG X) m0 → k5 x0 m0 = some r → qN X 1 5 [(0, .ref x0)] [] m0)
    {x0 : Nat} (k_x0 : gK (xG X) x0 = 7) {m0 : qM} (hR_m0 : qR (xG X) m0)
    (h : f_X6_readDigits_69 N (xG X) k5 x0 m0 = some r) : qN X 1 69 [(0, .ref x0)] [] m0 := by
  have hT := hX.T
  unfold f_X6_readDigits_69 at h
  refine qn_aload_n hX (pc := 69) dX6_readDigits_69 0 rfl rfl ?_
  refine qn_dup hX (pc := 70) dX6_readDigits_70 rfl ?_
  refine qn_getI hX (pc := 71) fd_X6_readDigits_31 dX6_readDigits_71 k_x0 ?_
  refine qn_iconst hX (pc := 74) dX6_readDigits_74 ?_
  obtain ⟨v1, e_v1, r_v1, h⟩ := ckI_e h
  refine qn_iadd hX (pc := 75) dX6_readDigits_75 e_v1 ?_
  obtain ⟨m2, e_m2, h⟩ := kp_e h
  refine qn_putI hX (pc := 76) fp_X6_readDigits_31 dX6_readDigits_76 k_x0 hR_m0 r_v1 e_m2 (fun hR_m2 => ?_) 
  refine qn_goto hX (pc := 79) 5 dX6_readDigits_79 (by decide) ?_
  refine qn_sub (ls' := [(0, .ref x0)]) [0] rfl ?_
  exact hk5 x0 m2 k_x0 hR_m2 h
set_option maxHeartbeats 4000000 in
set_option maxRecDepth 20000 in
theorem w_X6_readDigits_5 {X : qB} {N : Nat} (hX : qOk X cX6_readDigits RX6 1 none wsX6_readDigits 1 20) {r : qM} (hE : xr X = none ∧ (True → xΦ X) ∧ xμ X = r) {k5 : (Nat → qM → Option (qM))} (hk5 : ∀ (x0 : Nat) (m0 : qM), gK (xG X) x0 = 7 → qR (xG X) m0 → k5 x0 m0 = some r → qN X 1 5 [(0, .ref x0)] [] m0)
    {x0 : Nat} (k_x0 : gK (xG X) x0 = 7) {m0 : qM} (hR_m0 : qR (xG X) m0)
    (h : f_X6_readDigits_5 N (xG X) k5 x0 m0 = some r) : qN X 1 5 [(0, .ref x0)] [] m0 := by
  have hT := hX.T
  unfold f_X6_readDigits_5 at h
  refine qn_aload_n hX (pc := 5) dX6_readDigits_5 0 rfl rfl ?_
  refine qn_getI hX (pc := 6) fd_X6_readDigits_31 dX6_readDigits_6 k_x0 ?_
  refine qn_aload_n hX (pc := 9) dX6_readDigits_9 0 rfl rfl ?_
  refine qn_getI hX (pc := 10) fd_X6_readDigits_28 dX6_readDigits_10 k_x0 ?_
  refine qn_icmp_ge hX (pc := 13) (hR_m0.i 603 _ rfl) (hR_m0.i 602 _ rfl) 82 dX6_readDigits_13 (by decide) (fun c1 => ?_) (fun c1 => ?_)
  · have h := ite_f h c1
    refine qn_sub (ls' := [(0, .ref x0)]) [0] rfl ?_
    exact w_X6_readDigits_82 hX hE  k_x0 hR_m0 h
  · have h := ite_t h c1
    refine qn_aload_n hX (pc := 16) dX6_readDigits_16 0 rfl rfl ?_
    refine qn_getR hX (pc := 17) fd_X6_readDigits_9 dX6_readDigits_17 k_x0 ?_
    refine qn_aload_n hX (pc := 20) dX6_readDigits_20 0 rfl rfl ?_
    refine qn_getI hX (pc := 21) fd_X6_readDigits_31 dX6_readDigits_21 k_x0 ?_
    obtain ⟨v2, e_v2, b_v2, h⟩ := rdA_e h
    have r_v2 : in32 v2 := by rw [e_v2]; exact hR_m0.a (n := 500) _ (qr_600 hT k_x0) (by decide)
    refine qn_iald hX (pc := 24) 500 dX6_readDigits_24 (qr_600 hT k_x0) (by decide) b_v2 e_v2 ?_
    obtain ⟨v4, m3, e_m3, h⟩ := kb2_e h
    refine qn_callSi hX (pc := 25) [.int (iZ v2)] [.int (iZ v2)] 1 dX6_readDigits_25 gX6_readDigits_X6_isDigit rfl dd_X6_isDigit ⟨rfl, rfl⟩ rfl rfl rfl hR_m0 (k_X6_isDigit (xl X) hT r_v2 e_m3) (fun r_v4 hR_m3 => ?_)
    refine qn_if_eq hX (pc := 28) r_v4.i 82 dX6_readDigits_28 (by decide) (fun c5 => ?_) (fun c5 => ?_)
    · have h := ite_t h c5
      refine qn_sub (ls' := [(0, .ref x0)]) [0] rfl ?_
      exact w_X6_readDigits_82 hX hE  k_x0 hR_m3 h
    · have h := ite_f h c5
      refine qn_aload_n hX (pc := 31) dX6_readDigits_31 0 rfl rfl ?_
      refine qn_getI hX (pc := 32) fd_X6_readDigits_31 dX6_readDigits_32 k_x0 ?_
      refine qn_aload_n hX (pc := 35) dX6_readDigits_35 0 rfl rfl ?_
      refine qn_getI hX (pc := 36) fd_X6_readDigits_62 dX6_readDigits_36 k_x0 ?_
      obtain ⟨v6, e_v6, r_v6, h⟩ := ckI_e h
      refine qn_isub hX (pc := 39) dX6_readDigits_39 e_v6 ?_
      refine qn_bipush hX (pc := 40) dX6_readDigits_40 (by decide) ?_
      refine qn_icmp_ge hX (pc := 42) r_v6 (by decide) 69 dX6_readDigits_42 (by decide) (fun c7 => ?_) (fun c7 => ?_)
      · have h := ite_f h c7
        refine qn_sub (ls' := [(0, .ref x0)]) [0] rfl ?_
        exact w_X6_readDigits_69 hX hE hk5 k_x0 hR_m3 h
      · have h := ite_t h c7
        refine qn_aload_n hX (pc := 45) dX6_readDigits_45 0 rfl rfl ?_
        refine qn_bipush hX (pc := 46) dX6_readDigits_46 (by decide) ?_
        refine qn_aload_n hX (pc := 48) dX6_readDigits_48 0 rfl rfl ?_
        refine qn_getI hX (pc := 49) fd_X6_readDigits_78 dX6_readDigits_49 k_x0 ?_
        obtain ⟨v8, e_v8, r_v8, h⟩ := ckI_e h
        refine qn_imul hX (pc := 52) dX6_readDigits_52 e_v8 ?_
        refine qn_aload_n hX (pc := 53) dX6_readDigits_53 0 rfl rfl ?_
        refine qn_getR hX (pc := 54) fd_X6_readDigits_9 dX6_readDigits_54 k_x0 ?_
        refine qn_aload_n hX (pc := 57) dX6_readDigits_57 0 rfl rfl ?_
        refine qn_getI hX (pc := 58) fd_X6_readDigits_31 dX6_readDigits_58 k_x0 ?_
        obtain ⟨v9, e_v9, b_v9, h⟩ := rdA_e h
        have r_v9 : in32 v9 := by rw [e_v9]; exact hR_m3.a (n := 500) _ (qr_600 hT k_x0) (by decide)
        refine qn_iald hX (pc := 61) 500 dX6_readDigits_61 (qr_600 hT k_x0) (by decide) b_v9 e_v9 ?_
        obtain ⟨v10, e_v10, r_v10, h⟩ := ckI_e h
        refine qn_iadd hX (pc := 62) dX6_readDigits_62 e_v10 ?_
        refine qn_bipush hX (pc := 63) dX6_readDigits_63 (by decide) ?_
        obtain ⟨v11, e_v11, r_v11, h⟩ := ckI_e h
        refine qn_isub hX (pc := 65) dX6_readDigits_65 e_v11 ?_
        obtain ⟨m12, e_m12, h⟩ := kp_e h
        refine qn_putI hX (pc := 66) fp_X6_readDigits_78 dX6_readDigits_66 k_x0 hR_m3 r_v11 e_m12 (fun hR_m12 => ?_) 
        refine qn_sub (ls' := [(0, .ref x0)]) [0] rfl ?_
        exact w_X6_readDigits_69 hX hE hk5 k_x0 hR_m12 h
set_option maxHeartbeats 4000000 in
set_option maxRecDepth 20000 in
theorem w_X6_readDigits_L5 {X : qB} {N : Nat} (hX : qOk X cX6_readDigits RX6 1 none wsX6_readDigits 1 20) {r : qM} (hE : xr X = none ∧ (True → xΦ X) ∧ xμ X = r) 
    {x0 : Nat} (k_x0 : gK (xG X) x0 = 7) {m0 : qM} (hR_m0 : qR (xG X) m0)
    (h : f_X6_readDigits_L5 N (xG X)  x0 m0 = some r) : qN X 1 5 [(0, .ref x0)] [] m0 := by
  unfold f_X6_readDigits_L5 at h
  exact qLoop_w (σ := Nat × qM) (P := fun p => gK (xG X) p.1 = 7 ∧ qR (xG X) p.2) (Q := fun p => qN X 1 5 [(0, .ref p.1)] [] p.2) (fun k hrec p hp hh => w_X6_readDigits_5 hX hE (fun x0 m0 q0 hRm hh => hrec (x0, m0) ⟨q0, hRm⟩ hh) hp.1 hp.2 hh) N (x0, m0) ⟨k_x0, hR_m0⟩ h
set_option maxHeartbeats 4000000 in
set_option maxRecDepth 20000 in
theorem w_X6_readDigits {X : qB} {N : Nat} (hX : qOk X cX6_readDigits RX6 1 none wsX6_readDigits 1 20) {r : qM} (hE : xr X = none ∧ (True → xΦ X) ∧ xμ X = r) 
    {x0 : Nat} (k_x0 : gK (xG X) x0 = 7) {m0 : qM} (hR_m0 : qR (xG X) m0)
    (h : f_X6_readDigits N (xG X)  x0 m0 = some r) : qN X 1 0 [(0, .ref x0)] [] m0 := by
  have hT := hX.T
  unfold f_X6_readDigits at h
  refine qn_aload_n hX (pc := 0) dX6_readDigits_0 0 rfl rfl ?_
  refine qn_iconst hX (pc := 1) dX6_readDigits_1 ?_
  obtain ⟨m1, e_m1, h⟩ := kp_e h
  refine qn_putI hX (pc := 2) fp_X6_readDigits_78 dX6_readDigits_2 k_x0 hR_m0 (show in32 0 by decide) e_m1 (fun hR_m1 => ?_) 
  refine qn_sub (ls' := [(0, .ref x0)]) [0] rfl ?_
  exact w_X6_readDigits_L5 hX hE  k_x0 hR_m1 h
theorem k_X6_readDigits (l : Launch) {G : qG} (hT : qT G) {N : Nat} {x0 : Nat} (k_x0 : gK G x0 = 7) {m0 : qM} {r : qM} (h : f_X6_readDigits N G x0 m0 = some r) : qC l yX6_readDigits wsX6_readDigits 1 20 G [.ref x0] m0 none True r := by
  refine qn_start (hy := by decide) hT (hw := rfl) (hn := Nat.le_of_ble_eq_true rfl) ?_
  intro X h1 h2 h3 h4 hX hR
  subst h4
  exact w_X6_readDigits hX ⟨h1, fun q => h2 ▸ q, h3⟩ k_x0 hR h
theorem dd_X6_readDigits : yX6_readDigits.cls = RX6 ∧ yX6_readDigits.cls ≠ "java/lang/invoke/MethodHandle" ∧ yX6_readDigits.cls ≠ "java/lang/invoke/VarHandle" ∧ (parseMethodDescriptor yX6_readDigits.desc).map (fun d => d.parameters.length) = some 0 := by decide +kernel
-- ProRataMarket$Tape.readWord
theorem hi_X6_readWord_6 : ∀ w ∈ wsX60, w ∈ wsX6_readWord := fun w h => List.mem_cons_of_mem _ (List.mem_append_right _ h)
theorem fd_X6_readWord_31 : qFd RX6 wsX6_readWord 31 6 3 0 603 := ⟨RX6, TX6, 12, _, rfl, hi_X6_readWord_6, by decide, (by decide +kernel : Cond.fieldLink RX6 31 (TX6 3).1 (TX6 3).2.1 (TX6 3).2.2.1 ∈ wsX6_readWord), rfl, rfl, by decide⟩
theorem fd_X6_readWord_28 : qFd RX6 wsX6_readWord 28 6 2 0 602 := ⟨RX6, TX6, 12, _, rfl, hi_X6_readWord_6, by decide, (by decide +kernel : Cond.fieldLink RX6 28 (TX6 2).1 (TX6 2).2.1 (TX6 2).2.2.1 ∈ wsX6_readWord), rfl, rfl, by decide⟩
theorem fd_X6_readWord_9 : qFd RX6 wsX6_readWord 9 6 0 1 600 := ⟨RX6, TX6, 12, _, rfl, hi_X6_readWord_6, by decide, (by decide +kernel : Cond.fieldLink RX6 9 (TX6 0).1 (TX6 0).2.1 (TX6 0).2.2.1 ∈ wsX6_readWord), rfl, rfl, by decide⟩
theorem fp_X6_readWord_31 : qFp RX6 wsX6_readWord 31 6 3 0 603 .int := ⟨RX6, TX6, 12, _, tyX6, rfl, hi_X6_readWord_6, by decide, (by decide +kernel : Cond.fieldLink RX6 31 (TX6 3).1 (TX6 3).2.1 (TX6 3).2.2.1 ∈ wsX6_readWord), rfl, rfl, by decide, tyX6_ok, nmX6, rfl, by decide +kernel⟩
theorem fp_X6_readWord_59 : qFp RX6 wsX6_readWord 59 6 4 0 604 .int := ⟨RX6, TX6, 12, _, tyX6, rfl, hi_X6_readWord_6, by decide, (by decide +kernel : Cond.fieldLink RX6 59 (TX6 4).1 (TX6 4).2.1 (TX6 4).2.2.1 ∈ wsX6_readWord), rfl, rfl, by decide, tyX6_ok, nmX6, rfl, by decide +kernel⟩
set_option maxHeartbeats 4000000 in
set_option maxRecDepth 20000 in
theorem w_X6_readWord_5 {X : qB} {N : Nat} (hX : qOk X cX6_readWord RX6 1 none wsX6_readWord 1 20) {r : qM} (hE : xr X = none ∧ (True → xΦ X) ∧ xμ X = r) {k5 : (Nat → qM → Option (qM))} (hk5 : ∀ (x0 : Nat) (m0 : qM), gK (xG X) x0 = 7 → qR (xG X) m0 → k5 x0 m0 = some r → qN X 1 5 [(0, .ref x0)] [] m0)
    {x0 : Nat} (k_x0 : gK (xG X) x0 = 7) {m0 : qM} (hR_m0 : qR (xG X) m0)
    (h : f_X6_readWord_5 N (xG X) k5 x0 m0 = some r) : qN X 1 5 [(0, .ref x0)] [] m0 := by
  have hT := hX.T
  unfold f_X6_readWord_5 at h
  refine qn_aload_n hX (pc := 5) dX6_readWord_5 0 rfl rfl ?_
  refine qn_getI hX (pc := 6) fd_X6_readWord_31 dX6_readWord_6 k_x0 ?_
  refine qn_aload_n hX (pc := 9) dX6_readWord_9 0 rfl rfl ?_
  refine qn_getI hX (pc := 10) fd_X6_readWord_28 dX6_readWord_10 k_x0 ?_
  refine qn_icmp_ge hX (pc := 13) (hR_m0.i 603 _ rfl) (hR_m0.i 602 _ rfl) 44 dX6_readWord_13 (by decide) (fun c1 => ?_) (fun c1 => ?_)
  · have h := ite_f h c1
    exact qn_vret hX (pc := 44) dX6_readWord_44 hE hR_m0 (Option.some.inj h)
  · have h := ite_t h c1
    refine qn_aload_n hX (pc := 16) dX6_readWord_16 0 rfl rfl ?_
    refine qn_getR hX (pc := 17) fd_X6_readWord_9 dX6_readWord_17 k_x0 ?_
    refine qn_aload_n hX (pc := 20) dX6_readWord_20 0 rfl rfl ?_
    refine qn_getI hX (pc := 21) fd_X6_readWord_31 dX6_readWord_21 k_x0 ?_
    obtain ⟨v2, e_v2, b_v2, h⟩ := rdA_e h
    have r_v2 : in32 v2 := by rw [e_v2]; exact hR_m0.a (n := 500) _ (qr_600 hT k_x0) (by decide)
    refine qn_iald hX (pc := 24) 500 dX6_readWord_24 (qr_600 hT k_x0) (by decide) b_v2 e_v2 ?_
    obtain ⟨v4, m3, e_m3, h⟩ := kb2_e h
    refine qn_callSi hX (pc := 25) [.int (iZ v2)] [.int (iZ v2)] 1 dX6_readWord_25 gX6_readWord_X6_isLetter rfl dd_X6_isLetter ⟨rfl, rfl⟩ rfl rfl rfl hR_m0 (k_X6_isLetter (xl X) hT r_v2 e_m3) (fun r_v4 hR_m3 => ?_)
    refine qn_if_eq hX (pc := 28) r_v4.i 44 dX6_readWord_28 (by decide) (fun c5 => ?_) (fun c5 => ?_)
    · have h := ite_t h c5
      exact qn_vret hX (pc := 44) dX6_readWord_44 hE hR_m3 (Option.some.inj h)
    · have h := ite_f h c5
      refine qn_aload_n hX (pc := 31) dX6_readWord_31 0 rfl rfl ?_
      refine qn_dup hX (pc := 32) dX6_readWord_32 rfl ?_
      refine qn_getI hX (pc := 33) fd_X6_readWord_31 dX6_readWord_33 k_x0 ?_
      refine qn_iconst hX (pc := 36) dX6_readWord_36 ?_
      obtain ⟨v6, e_v6, r_v6, h⟩ := ckI_e h
      refine qn_iadd hX (pc := 37) dX6_readWord_37 e_v6 ?_
      obtain ⟨m7, e_m7, h⟩ := kp_e h
      refine qn_putI hX (pc := 38) fp_X6_readWord_31 dX6_readWord_38 k_x0 hR_m3 r_v6 e_m7 (fun hR_m7 => ?_) 
      refine qn_goto hX (pc := 41) 5 dX6_readWord_41 (by decide) ?_
      refine qn_sub (ls' := [(0, .ref x0)]) [0] rfl ?_
      exact hk5 x0 m7 k_x0 hR_m7 h
set_option maxHeartbeats 4000000 in
set_option maxRecDepth 20000 in
theorem w_X6_readWord_L5 {X : qB} {N : Nat} (hX : qOk X cX6_readWord RX6 1 none wsX6_readWord 1 20) {r : qM} (hE : xr X = none ∧ (True → xΦ X) ∧ xμ X = r) 
    {x0 : Nat} (k_x0 : gK (xG X) x0 = 7) {m0 : qM} (hR_m0 : qR (xG X) m0)
    (h : f_X6_readWord_L5 N (xG X)  x0 m0 = some r) : qN X 1 5 [(0, .ref x0)] [] m0 := by
  unfold f_X6_readWord_L5 at h
  exact qLoop_w (σ := Nat × qM) (P := fun p => gK (xG X) p.1 = 7 ∧ qR (xG X) p.2) (Q := fun p => qN X 1 5 [(0, .ref p.1)] [] p.2) (fun k hrec p hp hh => w_X6_readWord_5 hX hE (fun x0 m0 q0 hRm hh => hrec (x0, m0) ⟨q0, hRm⟩ hh) hp.1 hp.2 hh) N (x0, m0) ⟨k_x0, hR_m0⟩ h
set_option maxHeartbeats 4000000 in
set_option maxRecDepth 20000 in
theorem w_X6_readWord {X : qB} {N : Nat} (hX : qOk X cX6_readWord RX6 1 none wsX6_readWord 1 20) {r : qM} (hE : xr X = none ∧ (True → xΦ X) ∧ xμ X = r) 
    {x0 : Nat} (k_x0 : gK (xG X) x0 = 7) {m0 : qM} (hR_m0 : qR (xG X) m0)
    (h : f_X6_readWord N (xG X)  x0 m0 = some r) : qN X 1 0 [(0, .ref x0)] [] m0 := by
  have hT := hX.T
  unfold f_X6_readWord at h
  refine qn_aload_n hX (pc := 0) dX6_readWord_0 0 rfl rfl ?_
  refine qn_iconst hX (pc := 1) dX6_readWord_1 ?_
  obtain ⟨m1, e_m1, h⟩ := kp_e h
  refine qn_putI hX (pc := 2) fp_X6_readWord_59 dX6_readWord_2 k_x0 hR_m0 (show in32 1 by decide) e_m1 (fun hR_m1 => ?_) 
  refine qn_sub (ls' := [(0, .ref x0)]) [0] rfl ?_
  exact w_X6_readWord_L5 hX hE  k_x0 hR_m1 h
theorem k_X6_readWord (l : Launch) {G : qG} (hT : qT G) {N : Nat} {x0 : Nat} (k_x0 : gK G x0 = 7) {m0 : qM} {r : qM} (h : f_X6_readWord N G x0 m0 = some r) : qC l yX6_readWord wsX6_readWord 1 20 G [.ref x0] m0 none True r := by
  refine qn_start (hy := by decide) hT (hw := rfl) (hn := Nat.le_of_ble_eq_true rfl) ?_
  intro X h1 h2 h3 h4 hX hR
  subst h4
  exact w_X6_readWord hX ⟨h1, fun q => h2 ▸ q, h3⟩ k_x0 hR h
theorem dd_X6_readWord : yX6_readWord.cls = RX6 ∧ yX6_readWord.cls ≠ "java/lang/invoke/MethodHandle" ∧ yX6_readWord.cls ≠ "java/lang/invoke/VarHandle" ∧ (parseMethodDescriptor yX6_readWord.desc).map (fun d => d.parameters.length) = some 0 := by decide +kernel
-- ProRataMarket$Tape.readToken
theorem hi_X6_readToken_6 : ∀ w ∈ wsX60, w ∈ wsX6_readToken := fun w h => List.mem_cons_of_mem _ (List.mem_append_right _ h)
theorem fp_X6_readToken_59 : qFp RX6 wsX6_readToken 59 6 4 0 604 .int := ⟨RX6, TX6, 12, _, tyX6, rfl, hi_X6_readToken_6, by decide, (by decide +kernel : Cond.fieldLink RX6 59 (TX6 4).1 (TX6 4).2.1 (TX6 4).2.2.1 ∈ wsX6_readToken), rfl, rfl, by decide, tyX6_ok, nmX6, rfl, by decide +kernel⟩
theorem fd_X6_readToken_31 : qFd RX6 wsX6_readToken 31 6 3 0 603 := ⟨RX6, TX6, 12, _, rfl, hi_X6_readToken_6, by decide, (by decide +kernel : Cond.fieldLink RX6 31 (TX6 3).1 (TX6 3).2.1 (TX6 3).2.2.1 ∈ wsX6_readToken), rfl, rfl, by decide⟩
theorem fp_X6_readToken_31 : qFp RX6 wsX6_readToken 31 6 3 0 603 .int := ⟨RX6, TX6, 12, _, tyX6, rfl, hi_X6_readToken_6, by decide, (by decide +kernel : Cond.fieldLink RX6 31 (TX6 3).1 (TX6 3).2.1 (TX6 3).2.2.1 ∈ wsX6_readToken), rfl, rfl, by decide, tyX6_ok, nmX6, rfl, by decide +kernel⟩
theorem fp_X6_readToken_62 : qFp RX6 wsX6_readToken 62 6 5 0 605 .int := ⟨RX6, TX6, 12, _, tyX6, rfl, hi_X6_readToken_6, by decide, (by decide +kernel : Cond.fieldLink RX6 62 (TX6 5).1 (TX6 5).2.1 (TX6 5).2.2.1 ∈ wsX6_readToken), rfl, rfl, by decide, tyX6_ok, nmX6, rfl, by decide +kernel⟩
theorem fd_X6_readToken_28 : qFd RX6 wsX6_readToken 28 6 2 0 602 := ⟨RX6, TX6, 12, _, rfl, hi_X6_readToken_6, by decide, (by decide +kernel : Cond.fieldLink RX6 28 (TX6 2).1 (TX6 2).2.1 (TX6 2).2.2.1 ∈ wsX6_readToken), rfl, rfl, by decide⟩
theorem fd_X6_readToken_9 : qFd RX6 wsX6_readToken 9 6 0 1 600 := ⟨RX6, TX6, 12, _, rfl, hi_X6_readToken_6, by decide, (by decide +kernel : Cond.fieldLink RX6 9 (TX6 0).1 (TX6 0).2.1 (TX6 0).2.2.1 ∈ wsX6_readToken), rfl, rfl, by decide⟩
set_option maxHeartbeats 4000000 in
set_option maxRecDepth 20000 in
theorem w_X6_readToken_143 {X : qB} {N : Nat} (hX : qOk X cX6_readToken RX6 1 none wsX6_readToken 2 40) {r : qM} (hE : xr X = none ∧ (True → xΦ X) ∧ xμ X = r) 
    {x0 : Nat} {s0 : Nat} {s1 : Int} (k_x0 : gK (xG X) x0 = 7) (k_s0 : gK (xG X) s0 = 7) (r_s1 : in32 s1) {m0 : qM} (hR_m0 : qR (xG X) m0)
    (h : f_X6_readToken_143 N (xG X)  x0 s0 s1 m0 = some r) : qN X 1 143 [(0, .ref x0)] [.int (iZ s1), .ref s0] m0 := by
  have hT := hX.T
  unfold f_X6_readToken_143 at h
  obtain ⟨m1, e_m1, h⟩ := kp_e h
  refine qn_putI hX (pc := 143) fp_X6_readToken_59 dX6_readToken_143 k_s0 hR_m0 r_s1 e_m1 (fun hR_m1 => ?_) 
  refine qn_aload_n hX (pc := 146) dX6_readToken_146 0 rfl rfl ?_
  refine qn_dup hX (pc := 147) dX6_readToken_147 rfl ?_
  refine qn_getI hX (pc := 148) fd_X6_readToken_31 dX6_readToken_148 k_x0 ?_
  refine qn_iconst hX (pc := 151) dX6_readToken_151 ?_
  obtain ⟨v2, e_v2, r_v2, h⟩ := ckI_e h
  refine qn_iadd hX (pc := 152) dX6_readToken_152 e_v2 ?_
  obtain ⟨m3, e_m3, h⟩ := kp_e h
  refine qn_putI hX (pc := 153) fp_X6_readToken_31 dX6_readToken_153 k_x0 hR_m1 r_v2 e_m3 (fun hR_m3 => ?_) 
  exact qn_vret hX (pc := 156) dX6_readToken_156 hE hR_m3 (Option.some.inj h)
set_option maxHeartbeats 4000000 in
set_option maxRecDepth 20000 in
theorem w_X6_readToken_52 {X : qB} {N : Nat} (hX : qOk X cX6_readToken RX6 1 none wsX6_readToken 2 40) {r : qM} (hE : xr X = none ∧ (True → xΦ X) ∧ xμ X = r) 
    {x0 : Nat} (k_x0 : gK (xG X) x0 = 7) {m0 : qM} (hR_m0 : qR (xG X) m0)
    (h : f_X6_readToken_52 N (xG X)  x0 m0 = some r) : qN X 1 52 [(0, .ref x0)] [] m0 := by
  have hT := hX.T
  unfold f_X6_readToken_52 at h
  refine qn_aload_n hX (pc := 52) dX6_readToken_52 0 rfl rfl ?_
  refine qn_aload_n hX (pc := 53) dX6_readToken_53 0 rfl rfl ?_
  refine qn_getI hX (pc := 54) fd_X6_readToken_31 dX6_readToken_54 k_x0 ?_
  obtain ⟨m1, e_m1, h⟩ := kp_e h
  refine qn_putI hX (pc := 57) fp_X6_readToken_62 dX6_readToken_57 k_x0 hR_m0 (hR_m0.i 603 _ rfl) e_m1 (fun hR_m1 => ?_) 
  refine qn_aload_n hX (pc := 60) dX6_readToken_60 0 rfl rfl ?_
  refine qn_getI hX (pc := 61) fd_X6_readToken_31 dX6_readToken_61 k_x0 ?_
  refine qn_aload_n hX (pc := 64) dX6_readToken_64 0 rfl rfl ?_
  refine qn_getI hX (pc := 65) fd_X6_readToken_28 dX6_readToken_65 k_x0 ?_
  refine qn_icmp_lt hX (pc := 68) (hR_m1.i 603 _ rfl) (hR_m1.i 602 _ rfl) 79 dX6_readToken_68 (by decide) (fun c2 => ?_) (fun c2 => ?_)
  · have h := ite_t h c2
    refine qn_aload_n hX (pc := 79) dX6_readToken_79 0 rfl rfl ?_
    refine qn_getR hX (pc := 80) fd_X6_readToken_9 dX6_readToken_80 k_x0 ?_
    refine qn_aload_n hX (pc := 83) dX6_readToken_83 0 rfl rfl ?_
    refine qn_getI hX (pc := 84) fd_X6_readToken_31 dX6_readToken_84 k_x0 ?_
    obtain ⟨v3, e_v3, b_v3, h⟩ := rdA_e h
    have r_v3 : in32 v3 := by rw [e_v3]; exact hR_m1.a (n := 500) _ (qr_600 hT k_x0) (by decide)
    refine qn_iald hX (pc := 87) 500 dX6_readToken_87 (qr_600 hT k_x0) (by decide) b_v3 e_v3 ?_
    obtain ⟨v5, m4, e_m4, h⟩ := kb2_e h
    refine qn_callSi hX (pc := 88) [.int (iZ v3)] [.int (iZ v3)] 1 dX6_readToken_88 gX6_readToken_X6_isLetter rfl dd_X6_isLetter ⟨rfl, rfl⟩ rfl rfl rfl hR_m1 (k_X6_isLetter (xl X) hT r_v3 e_m4) (fun r_v5 hR_m4 => ?_)
    refine qn_if_eq hX (pc := 91) r_v5.i 101 dX6_readToken_91 (by decide) (fun c6 => ?_) (fun c6 => ?_)
    · have h := ite_t h c6
      refine qn_aload_n hX (pc := 101) dX6_readToken_101 0 rfl rfl ?_
      refine qn_getR hX (pc := 102) fd_X6_readToken_9 dX6_readToken_102 k_x0 ?_
      refine qn_aload_n hX (pc := 105) dX6_readToken_105 0 rfl rfl ?_
      refine qn_getI hX (pc := 106) fd_X6_readToken_31 dX6_readToken_106 k_x0 ?_
      obtain ⟨v7, e_v7, b_v7, h⟩ := rdA_e h
      have r_v7 : in32 v7 := by rw [e_v7]; exact hR_m4.a (n := 500) _ (qr_600 hT k_x0) (by decide)
      refine qn_iald hX (pc := 109) 500 dX6_readToken_109 (qr_600 hT k_x0) (by decide) b_v7 e_v7 ?_
      obtain ⟨v9, m8, e_m8, h⟩ := kb2_e h
      refine qn_callSi hX (pc := 110) [.int (iZ v7)] [.int (iZ v7)] 1 dX6_readToken_110 gX6_readToken_X6_isDigit rfl dd_X6_isDigit ⟨rfl, rfl⟩ rfl rfl rfl hR_m4 (k_X6_isDigit (xl X) hT r_v7 e_m8) (fun r_v9 hR_m8 => ?_)
      refine qn_if_eq hX (pc := 113) r_v9.i 123 dX6_readToken_113 (by decide) (fun c10 => ?_) (fun c10 => ?_)
      · have h := ite_t h c10
        refine qn_aload_n hX (pc := 123) dX6_readToken_123 0 rfl rfl ?_
        refine qn_aload_n hX (pc := 124) dX6_readToken_124 0 rfl rfl ?_
        refine qn_getR hX (pc := 125) fd_X6_readToken_9 dX6_readToken_125 k_x0 ?_
        refine qn_aload_n hX (pc := 128) dX6_readToken_128 0 rfl rfl ?_
        refine qn_getI hX (pc := 129) fd_X6_readToken_31 dX6_readToken_129 k_x0 ?_
        obtain ⟨v11, e_v11, b_v11, h⟩ := rdA_e h
        have r_v11 : in32 v11 := by rw [e_v11]; exact hR_m8.a (n := 500) _ (qr_600 hT k_x0) (by decide)
        refine qn_iald hX (pc := 132) 500 dX6_readToken_132 (qr_600 hT k_x0) (by decide) b_v11 e_v11 ?_
        refine qn_bipush hX (pc := 133) dX6_readToken_133 (by decide) ?_
        refine qn_icmp_ne hX (pc := 135) r_v11 (by decide) 142 dX6_readToken_135 (by decide) (fun c12 => ?_) (fun c12 => ?_)
        · have h := ite_f h c12
          refine qn_iconst hX (pc := 142) dX6_readToken_142 ?_
          refine qn_sub (ls' := [(0, .ref x0)]) [0] rfl ?_
          exact w_X6_readToken_143 hX hE  k_x0 k_x0 (by decide) hR_m8 h
        · have h := ite_t h c12
          refine qn_iconst hX (pc := 138) dX6_readToken_138 ?_
          refine qn_goto hX (pc := 139) 143 dX6_readToken_139 (by decide) ?_
          refine qn_sub (ls' := [(0, .ref x0)]) [0] rfl ?_
          exact w_X6_readToken_143 hX hE  k_x0 k_x0 (by decide) hR_m8 h
      · have h := ite_f h c10
        refine qn_aload_n hX (pc := 116) dX6_readToken_116 0 rfl rfl ?_
        obtain ⟨m13, e_m13, h⟩ := kb_e h
        refine qn_callVv hX (pc := 117) [] [] 0 dX6_readToken_117 gX6_readToken_X6_readDigits rfl dd_X6_readDigits ⟨rfl, rfl⟩ rfl rfl (by decide) k_x0 rfl rfl hR_m8 (k_X6_readDigits (xl X) hT k_x0 e_m13) (fun r_v14 hR_m13 => ?_)
        refine qn_goto hX (pc := 120) 156 dX6_readToken_120 (by decide) ?_
        exact qn_vret hX (pc := 156) dX6_readToken_156 hE hR_m13 (Option.some.inj h)
    · have h := ite_f h c6
      refine qn_aload_n hX (pc := 94) dX6_readToken_94 0 rfl rfl ?_
      obtain ⟨m15, e_m15, h⟩ := kb_e h
      refine qn_callVv hX (pc := 95) [] [] 0 dX6_readToken_95 gX6_readToken_X6_readWord rfl dd_X6_readWord ⟨rfl, rfl⟩ rfl rfl (by decide) k_x0 rfl rfl hR_m4 (k_X6_readWord (xl X) hT k_x0 e_m15) (fun r_v16 hR_m15 => ?_)
      refine qn_goto hX (pc := 98) 156 dX6_readToken_98 (by decide) ?_
      exact qn_vret hX (pc := 156) dX6_readToken_156 hE hR_m15 (Option.some.inj h)
  · have h := ite_f h c2
    refine qn_aload_n hX (pc := 71) dX6_readToken_71 0 rfl rfl ?_
    refine qn_iconst hX (pc := 72) dX6_readToken_72 ?_
    obtain ⟨m17, e_m17, h⟩ := kp_e h
    refine qn_putI hX (pc := 73) fp_X6_readToken_59 dX6_readToken_73 k_x0 hR_m1 (show in32 0 by decide) e_m17 (fun hR_m17 => ?_) 
    refine qn_goto hX (pc := 76) 156 dX6_readToken_76 (by decide) ?_
    exact qn_vret hX (pc := 156) dX6_readToken_156 hE hR_m17 (Option.some.inj h)
set_option maxHeartbeats 4000000 in
set_option maxRecDepth 20000 in
theorem w_X6_readToken_39 {X : qB} {N : Nat} (hX : qOk X cX6_readToken RX6 1 none wsX6_readToken 2 40) {r : qM} (hE : xr X = none ∧ (True → xΦ X) ∧ xμ X = r) {k0 : (Nat → qM → Option (qM))} (hk0 : ∀ (x0 : Nat) (m0 : qM), gK (xG X) x0 = 7 → qR (xG X) m0 → k0 x0 m0 = some r → qN X 1 0 [(0, .ref x0)] [] m0)
    {x0 : Nat} (k_x0 : gK (xG X) x0 = 7) {m0 : qM} (hR_m0 : qR (xG X) m0)
    (h : f_X6_readToken_39 N (xG X) k0 x0 m0 = some r) : qN X 1 39 [(0, .ref x0)] [] m0 := by
  have hT := hX.T
  unfold f_X6_readToken_39 at h
  refine qn_aload_n hX (pc := 39) dX6_readToken_39 0 rfl rfl ?_
  refine qn_dup hX (pc := 40) dX6_readToken_40 rfl ?_
  refine qn_getI hX (pc := 41) fd_X6_readToken_31 dX6_readToken_41 k_x0 ?_
  refine qn_iconst hX (pc := 44) dX6_readToken_44 ?_
  obtain ⟨v1, e_v1, r_v1, h⟩ := ckI_e h
  refine qn_iadd hX (pc := 45) dX6_readToken_45 e_v1 ?_
  obtain ⟨m2, e_m2, h⟩ := kp_e h
  refine qn_putI hX (pc := 46) fp_X6_readToken_31 dX6_readToken_46 k_x0 hR_m0 r_v1 e_m2 (fun hR_m2 => ?_) 
  refine qn_goto hX (pc := 49) 0 dX6_readToken_49 (by decide) ?_
  refine qn_sub (ls' := [(0, .ref x0)]) [0] rfl ?_
  exact hk0 x0 m2 k_x0 hR_m2 h
set_option maxHeartbeats 4000000 in
set_option maxRecDepth 20000 in
theorem w_X6_readToken_0 {X : qB} {N : Nat} (hX : qOk X cX6_readToken RX6 1 none wsX6_readToken 2 40) {r : qM} (hE : xr X = none ∧ (True → xΦ X) ∧ xμ X = r) {k0 : (Nat → qM → Option (qM))} (hk0 : ∀ (x0 : Nat) (m0 : qM), gK (xG X) x0 = 7 → qR (xG X) m0 → k0 x0 m0 = some r → qN X 1 0 [(0, .ref x0)] [] m0)
    {x0 : Nat} (k_x0 : gK (xG X) x0 = 7) {m0 : qM} (hR_m0 : qR (xG X) m0)
    (h : f_X6_readToken_0 N (xG X) k0 x0 m0 = some r) : qN X 1 0 [(0, .ref x0)] [] m0 := by
  have hT := hX.T
  unfold f_X6_readToken_0 at h
  refine qn_aload_n hX (pc := 0) dX6_readToken_0 0 rfl rfl ?_
  refine qn_getI hX (pc := 1) fd_X6_readToken_31 dX6_readToken_1 k_x0 ?_
  refine qn_aload_n hX (pc := 4) dX6_readToken_4 0 rfl rfl ?_
  refine qn_getI hX (pc := 5) fd_X6_readToken_28 dX6_readToken_5 k_x0 ?_
  refine qn_icmp_ge hX (pc := 8) (hR_m0.i 603 _ rfl) (hR_m0.i 602 _ rfl) 52 dX6_readToken_8 (by decide) (fun c1 => ?_) (fun c1 => ?_)
  · have h := ite_f h c1
    refine qn_sub (ls' := [(0, .ref x0)]) [0] rfl ?_
    exact w_X6_readToken_52 hX hE  k_x0 hR_m0 h
  · have h := ite_t h c1
    refine qn_aload_n hX (pc := 11) dX6_readToken_11 0 rfl rfl ?_
    refine qn_getR hX (pc := 12) fd_X6_readToken_9 dX6_readToken_12 k_x0 ?_
    refine qn_aload_n hX (pc := 15) dX6_readToken_15 0 rfl rfl ?_
    refine qn_getI hX (pc := 16) fd_X6_readToken_31 dX6_readToken_16 k_x0 ?_
    obtain ⟨v2, e_v2, b_v2, h⟩ := rdA_e h
    have r_v2 : in32 v2 := by rw [e_v2]; exact hR_m0.a (n := 500) _ (qr_600 hT k_x0) (by decide)
    refine qn_iald hX (pc := 19) 500 dX6_readToken_19 (qr_600 hT k_x0) (by decide) b_v2 e_v2 ?_
    refine qn_bipush hX (pc := 20) dX6_readToken_20 (by decide) ?_
    refine qn_icmp_eq hX (pc := 22) r_v2 (by decide) 39 dX6_readToken_22 (by decide) (fun c3 => ?_) (fun c3 => ?_)
    · have h := ite_t h c3
      refine qn_sub (ls' := [(0, .ref x0)]) [0] rfl ?_
      exact w_X6_readToken_39 hX hE hk0 k_x0 hR_m0 h
    · have h := ite_f h c3
      refine qn_aload_n hX (pc := 25) dX6_readToken_25 0 rfl rfl ?_
      refine qn_getR hX (pc := 26) fd_X6_readToken_9 dX6_readToken_26 k_x0 ?_
      refine qn_aload_n hX (pc := 29) dX6_readToken_29 0 rfl rfl ?_
      refine qn_getI hX (pc := 30) fd_X6_readToken_31 dX6_readToken_30 k_x0 ?_
      obtain ⟨v4, e_v4, b_v4, h⟩ := rdA_e h
      have r_v4 : in32 v4 := by rw [e_v4]; exact hR_m0.a (n := 500) _ (qr_600 hT k_x0) (by decide)
      refine qn_iald hX (pc := 33) 500 dX6_readToken_33 (qr_600 hT k_x0) (by decide) b_v4 e_v4 ?_
      refine qn_bipush hX (pc := 34) dX6_readToken_34 (by decide) ?_
      refine qn_icmp_ne hX (pc := 36) r_v4 (by decide) 52 dX6_readToken_36 (by decide) (fun c5 => ?_) (fun c5 => ?_)
      · have h := ite_f h c5
        refine qn_sub (ls' := [(0, .ref x0)]) [0] rfl ?_
        exact w_X6_readToken_52 hX hE  k_x0 hR_m0 h
      · have h := ite_t h c5
        refine qn_sub (ls' := [(0, .ref x0)]) [0] rfl ?_
        exact w_X6_readToken_39 hX hE hk0 k_x0 hR_m0 h
set_option maxHeartbeats 4000000 in
set_option maxRecDepth 20000 in
theorem w_X6_readToken_L0 {X : qB} {N : Nat} (hX : qOk X cX6_readToken RX6 1 none wsX6_readToken 2 40) {r : qM} (hE : xr X = none ∧ (True → xΦ X) ∧ xμ X = r) 
    {x0 : Nat} (k_x0 : gK (xG X) x0 = 7) {m0 : qM} (hR_m0 : qR (xG X) m0)
    (h : f_X6_readToken_L0 N (xG X)  x0 m0 = some r) : qN X 1 0 [(0, .ref x0)] [] m0 := by
  unfold f_X6_readToken_L0 at h
  exact qLoop_w (σ := Nat × qM) (P := fun p => gK (xG X) p.1 = 7 ∧ qR (xG X) p.2) (Q := fun p => qN X 1 0 [(0, .ref p.1)] [] p.2) (fun k hrec p hp hh => w_X6_readToken_0 hX hE (fun x0 m0 q0 hRm hh => hrec (x0, m0) ⟨q0, hRm⟩ hh) hp.1 hp.2 hh) N (x0, m0) ⟨k_x0, hR_m0⟩ h
set_option maxHeartbeats 4000000 in
set_option maxRecDepth 20000 in
theorem w_X6_readToken {X : qB} {N : Nat} (hX : qOk X cX6_readToken RX6 1 none wsX6_readToken 2 40) {r : qM} (hE : xr X = none ∧ (True → xΦ X) ∧ xμ X = r) 
    {x0 : Nat} (k_x0 : gK (xG X) x0 = 7) {m0 : qM} (hR_m0 : qR (xG X) m0)
    (h : f_X6_readToken N (xG X)  x0 m0 = some r) : qN X 1 0 [(0, .ref x0)] [] m0 := by
  have hT := hX.T
  unfold f_X6_readToken at h
  refine qn_sub (ls' := [(0, .ref x0)]) [0] rfl ?_
  exact w_X6_readToken_L0 hX hE  k_x0 hR_m0 h
theorem k_X6_readToken (l : Launch) {G : qG} (hT : qT G) {N : Nat} {x0 : Nat} (k_x0 : gK G x0 = 7) {m0 : qM} {r : qM} (h : f_X6_readToken N G x0 m0 = some r) : qC l yX6_readToken wsX6_readToken 2 40 G [.ref x0] m0 none True r := by
  refine qn_start (hy := by decide) hT (hw := rfl) (hn := Nat.le_of_ble_eq_true rfl) ?_
  intro X h1 h2 h3 h4 hX hR
  subst h4
  exact w_X6_readToken hX ⟨h1, fun q => h2 ▸ q, h3⟩ k_x0 hR h
theorem dd_X6_readToken : yX6_readToken.cls = RX6 ∧ yX6_readToken.cls ≠ "java/lang/invoke/MethodHandle" ∧ yX6_readToken.cls ≠ "java/lang/invoke/VarHandle" ∧ (parseMethodDescriptor yX6_readToken.desc).map (fun d => d.parameters.length) = some 0 := by decide +kernel
-- ProRataMarket$Tape.verbText
set_option maxHeartbeats 4000000 in
set_option maxRecDepth 20000 in
theorem w_X6_verbText {X : qB} {N : Nat} (hX : qOk X cX6_verbText RX6 1 (some (.object "java/lang/String")) wsX6_verbText 0 0) {r : Nat} {nu : qM} (hE : xr X = some (.ref (gS (xG X) r)) ∧ (r < 12 → xΦ X) ∧ xμ X = nu) 
    {x0 : Int} (r_x0 : in32 x0) {m0 : qM} (hR_m0 : qR (xG X) m0)
    (h : f_X6_verbText N (xG X)  x0 m0 = some (r, nu)) : qN X 1 0 [(0, .int (iZ x0))] [] m0 := by
  have hT := hX.T
  unfold f_X6_verbText at h
  refine qn_iload_n hX (pc := 0) dX6_verbText_0 0 rfl rfl ?_
  by_cases c1 : x0 = 0
  · have h := ite_t h c1
    refine qn_tswIn hX (pc := 1) r_x0 44 dX6_verbText_1 0 c1 (by decide) rfl (by decide) ?_
    refine qn_ldcS hX (pc := 44) 0 (by decide) rfl rfl dX6_verbText_44 ?_
    exact qn_sret (v := 0) hX (pc := 46) dX6_verbText_46 hE hR_m0 (by decide) (Option.some.inj h)
  have h := ite_f h c1
  by_cases c2 : x0 = 1
  · have h := ite_t h c2
    refine qn_tswIn hX (pc := 1) r_x0 47 dX6_verbText_1 1 c2 (by decide) rfl (by decide) ?_
    refine qn_ldcS hX (pc := 47) 1 (by decide) rfl rfl dX6_verbText_47 ?_
    exact qn_sret (v := 1) hX (pc := 49) dX6_verbText_49 hE hR_m0 (by decide) (Option.some.inj h)
  have h := ite_f h c2
  by_cases c3 : x0 = 2
  · have h := ite_t h c3
    refine qn_tswIn hX (pc := 1) r_x0 50 dX6_verbText_1 2 c3 (by decide) rfl (by decide) ?_
    refine qn_ldcS hX (pc := 50) 2 (by decide) rfl rfl dX6_verbText_50 ?_
    exact qn_sret (v := 2) hX (pc := 52) dX6_verbText_52 hE hR_m0 (by decide) (Option.some.inj h)
  have h := ite_f h c3
  by_cases c4 : x0 = 3
  · have h := ite_t h c4
    refine qn_tswIn hX (pc := 1) r_x0 53 dX6_verbText_1 3 c4 (by decide) rfl (by decide) ?_
    refine qn_ldcS hX (pc := 53) 3 (by decide) rfl rfl dX6_verbText_53 ?_
    exact qn_sret (v := 3) hX (pc := 55) dX6_verbText_55 hE hR_m0 (by decide) (Option.some.inj h)
  have h := ite_f h c4
  by_cases c5 : x0 = 4
  · have h := ite_t h c5
    refine qn_tswIn hX (pc := 1) r_x0 56 dX6_verbText_1 4 c5 (by decide) rfl (by decide) ?_
    refine qn_ldcS hX (pc := 56) 4 (by decide) rfl rfl dX6_verbText_56 ?_
    exact qn_sret (v := 4) hX (pc := 58) dX6_verbText_58 hE hR_m0 (by decide) (Option.some.inj h)
  have h := ite_f h c5
  by_cases c6 : x0 = 5
  · have h := ite_t h c6
    refine qn_tswIn hX (pc := 1) r_x0 59 dX6_verbText_1 5 c6 (by decide) rfl (by decide) ?_
    refine qn_ldcS hX (pc := 59) 5 (by decide) rfl rfl dX6_verbText_59 ?_
    exact qn_sret (v := 5) hX (pc := 61) dX6_verbText_61 hE hR_m0 (by decide) (Option.some.inj h)
  have h := ite_f h c6
  by_cases c7 : x0 = 6
  · have h := ite_t h c7
    refine qn_tswIn hX (pc := 1) r_x0 62 dX6_verbText_1 6 c7 (by decide) rfl (by decide) ?_
    refine qn_ldcS hX (pc := 62) 6 (by decide) rfl rfl dX6_verbText_62 ?_
    exact qn_sret (v := 6) hX (pc := 64) dX6_verbText_64 hE hR_m0 (by decide) (Option.some.inj h)
  have h := ite_f h c7
  refine qn_tswOut hX (pc := 1) r_x0 65 dX6_verbText_1 (by omega) (by decide) ?_
  refine qn_ldcS hX (pc := 65) 7 (by decide) rfl rfl dX6_verbText_65 ?_
  exact qn_sret (v := 7) hX (pc := 67) dX6_verbText_67 hE hR_m0 (by decide) (Option.some.inj h)
theorem k_X6_verbText (l : Launch) {G : qG} (hT : qT G) {N : Nat} {x0 : Int} (r_x0 : in32 x0) {m0 : qM} {r : Nat} {nu : qM} (h : f_X6_verbText N G x0 m0 = some (r, nu)) : qC l yX6_verbText wsX6_verbText 0 0 G [.int (iZ x0)] m0 (some (.ref (gS G r))) (r < 12) nu := by
  refine qn_start (hy := by decide) hT (hw := rfl) (hn := Nat.le_of_ble_eq_true rfl) ?_
  intro X h1 h2 h3 h4 hX hR
  subst h4
  exact w_X6_verbText hX ⟨h1, fun q => h2 ▸ q, h3⟩ r_x0 hR h
theorem dd_X6_verbText : yX6_verbText.cls ≠ "java/lang/invoke/MethodHandle" ∧ yX6_verbText.cls ≠ "java/lang/invoke/VarHandle" ∧ (parseMethodDescriptor yX6_verbText.desc).map (fun d => d.parameters.length) = some 1 := by decide +kernel
-- ProRataMarket$Tape.wordIn
set_option maxHeartbeats 4000000 in
set_option maxRecDepth 20000 in
theorem w_X6_wordIn_23 {X : qB} {N : Nat} (hX : qOk X cX6_wordIn RX6 4 (some .int) wsX6_wordIn 5 133) {r : Int} {nu : qM} (hE : xr X = some (.int (iZ r)) ∧ (in32 r → xΦ X) ∧ xμ X = nu) {k2 : (Nat → Int → Int → Int → qM → Option (Int × qM))} (hk2 : ∀ (x0 : Nat) (x1 : Int) (x2 : Int) (x3 : Int) (m0 : qM), gK (xG X) x0 = 7 → in32 x1 → in01 x2 → in32 x3 → qR (xG X) m0 → k2 x0 x1 x2 x3 m0 = some (r, nu) → qN X 4 2 [(0, .ref x0), (1, .int (iZ x1)), (2, .int (iZ x2)), (3, .int (iZ x3))] [] m0)
    {x0 : Nat} {x1 : Int} {x2 : Int} {x3 : Int} {s0 : Nat} {s1 : Nat} (k_x0 : gK (xG X) x0 = 7) (r_x1 : in32 x1) (b_x2 : in01 x2) (r_x3 : in32 x3) (k_s0 : gK (xG X) s0 = 7) (k_s1 : s1 < 12) {m0 : qM} (hR_m0 : qR (xG X) m0)
    (h : f_X6_wordIn_23 N (xG X) k2 x0 x1 x2 x3 s0 s1 m0 = some (r, nu)) : qN X 4 23 [(0, .ref x0), (1, .int (iZ x1)), (2, .int (iZ x2)), (3, .int (iZ x3))] [.ref (gS (xG X) s1), .ref s0] m0 := by
  have hT := hX.T
  unfold f_X6_wordIn_23 at h
  obtain ⟨v2, m1, e_m1, h⟩ := kb2_e h
  refine qn_callVi hX (pc := 23) [.ref (gS (xG X) s1)] [.ref (gS (xG X) s1)] 1 dX6_wordIn_23 gX6_wordIn_X6_isWord rfl dd_X6_isWord ⟨rfl, rfl⟩ rfl rfl (by decide) k_s0 rfl rfl hR_m0 (k_X6_isWord (xl X) hT k_s0 k_s1 e_m1) (fun r_v2 hR_m1 => ?_)
  refine qn_if_eq hX (pc := 26) r_v2.i 31 dX6_wordIn_26 (by decide) (fun c3 => ?_) (fun c3 => ?_)
  · have h := ite_t h c3
    obtain ⟨v4, e_v4, r_v4, h⟩ := ckI_e h
    refine qn_iinc hX (pc := 31) (ls' := [(3, .int (iZ v4)), (0, .ref x0), (1, .int (iZ x1)), (2, .int (iZ x2))]) dX6_wordIn_31 3 rfl e_v4 rfl rfl ?_
    refine qn_goto hX (pc := 34) 2 dX6_wordIn_34 (by decide) ?_
    refine qn_sub (ls' := [(0, .ref x0), (1, .int (iZ x1)), (2, .int (iZ x2)), (3, .int (iZ v4))]) [1, 2, 3, 0] rfl ?_
    exact hk2 x0 x1 x2 v4 m1 k_x0 r_x1 b_x2 r_v4 hR_m1 h
  · have h := ite_f h c3
    refine qn_iload_n hX (pc := 29) dX6_wordIn_29 3 rfl rfl ?_
    exact qn_iret hX (pc := 30) dX6_wordIn_30 hE hR_m1 r_x3 (Option.some.inj h)
set_option maxHeartbeats 4000000 in
set_option maxRecDepth 20000 in
theorem w_X6_wordIn_2 {X : qB} {N : Nat} (hX : qOk X cX6_wordIn RX6 4 (some .int) wsX6_wordIn 5 133) {r : Int} {nu : qM} (hE : xr X = some (.int (iZ r)) ∧ (in32 r → xΦ X) ∧ xμ X = nu) {k2 : (Nat → Int → Int → Int → qM → Option (Int × qM))} (hk2 : ∀ (x0 : Nat) (x1 : Int) (x2 : Int) (x3 : Int) (m0 : qM), gK (xG X) x0 = 7 → in32 x1 → in01 x2 → in32 x3 → qR (xG X) m0 → k2 x0 x1 x2 x3 m0 = some (r, nu) → qN X 4 2 [(0, .ref x0), (1, .int (iZ x1)), (2, .int (iZ x2)), (3, .int (iZ x3))] [] m0)
    {x0 : Nat} {x1 : Int} {x2 : Int} {x3 : Int} (k_x0 : gK (xG X) x0 = 7) (r_x1 : in32 x1) (b_x2 : in01 x2) (r_x3 : in32 x3) {m0 : qM} (hR_m0 : qR (xG X) m0)
    (h : f_X6_wordIn_2 N (xG X) k2 x0 x1 x2 x3 m0 = some (r, nu)) : qN X 4 2 [(0, .ref x0), (1, .int (iZ x1)), (2, .int (iZ x2)), (3, .int (iZ x3))] [] m0 := by
  have hT := hX.T
  unfold f_X6_wordIn_2 at h
  refine qn_iload_n hX (pc := 2) dX6_wordIn_2 3 rfl rfl ?_
  refine qn_iload_n hX (pc := 3) dX6_wordIn_3 1 rfl rfl ?_
  refine qn_icmp_ge hX (pc := 4) r_x3 r_x1 37 dX6_wordIn_4 (by decide) (fun c1 => ?_) (fun c1 => ?_)
  · have h := ite_f h c1
    refine qn_iconst hX (pc := 37) dX6_wordIn_37 ?_
    exact qn_iret hX (pc := 38) dX6_wordIn_38 hE hR_m0 (by decide) (Option.some.inj h)
  · have h := ite_t h c1
    refine qn_aload_n hX (pc := 7) dX6_wordIn_7 0 rfl rfl ?_
    refine qn_iload_n hX (pc := 8) dX6_wordIn_8 2 rfl rfl ?_
    refine qn_if_eq hX (pc := 9) b_x2.i 19 dX6_wordIn_9 (by decide) (fun c2 => ?_) (fun c2 => ?_)
    · have h := ite_t h c2
      refine qn_iload_n hX (pc := 19) dX6_wordIn_19 3 rfl rfl ?_
      obtain ⟨v4, m3, e_m3, h⟩ := kb2_e h
      refine qn_callSs hX (pc := 20) [.int (iZ x3)] [.int (iZ x3)] 1 dX6_wordIn_20 gX6_wordIn_X6_modeText rfl dd_X6_modeText ⟨rfl, rfl⟩ rfl rfl rfl hR_m0 (k_X6_modeText (xl X) hT r_x3 e_m3) (fun r_v4 hR_m3 => ?_)
      refine qn_sub (ls' := [(0, .ref x0), (1, .int (iZ x1)), (2, .int (iZ x2)), (3, .int (iZ x3))]) [0, 1, 2, 3] rfl ?_
      exact w_X6_wordIn_23 hX hE hk2 k_x0 r_x1 b_x2 r_x3 k_x0 r_v4 hR_m3 h
    · have h := ite_f h c2
      refine qn_iload_n hX (pc := 12) dX6_wordIn_12 3 rfl rfl ?_
      obtain ⟨v6, m5, e_m5, h⟩ := kb2_e h
      refine qn_callSs hX (pc := 13) [.int (iZ x3)] [.int (iZ x3)] 1 dX6_wordIn_13 gX6_wordIn_X6_verbText rfl dd_X6_verbText ⟨rfl, rfl⟩ rfl rfl rfl hR_m0 (k_X6_verbText (xl X) hT r_x3 e_m5) (fun r_v6 hR_m5 => ?_)
      refine qn_goto hX (pc := 16) 23 dX6_wordIn_16 (by decide) ?_
      refine qn_sub (ls' := [(0, .ref x0), (1, .int (iZ x1)), (2, .int (iZ x2)), (3, .int (iZ x3))]) [0, 1, 2, 3] rfl ?_
      exact w_X6_wordIn_23 hX hE hk2 k_x0 r_x1 b_x2 r_x3 k_x0 r_v6 hR_m5 h
set_option maxHeartbeats 4000000 in
set_option maxRecDepth 20000 in
theorem w_X6_wordIn_L2 {X : qB} {N : Nat} (hX : qOk X cX6_wordIn RX6 4 (some .int) wsX6_wordIn 5 133) {r : Int} {nu : qM} (hE : xr X = some (.int (iZ r)) ∧ (in32 r → xΦ X) ∧ xμ X = nu) 
    {x0 : Nat} {x1 : Int} {x2 : Int} {x3 : Int} (k_x0 : gK (xG X) x0 = 7) (r_x1 : in32 x1) (b_x2 : in01 x2) (r_x3 : in32 x3) {m0 : qM} (hR_m0 : qR (xG X) m0)
    (h : f_X6_wordIn_L2 N (xG X)  x0 x1 x2 x3 m0 = some (r, nu)) : qN X 4 2 [(0, .ref x0), (1, .int (iZ x1)), (2, .int (iZ x2)), (3, .int (iZ x3))] [] m0 := by
  unfold f_X6_wordIn_L2 at h
  exact qLoop_w (σ := Nat × Int × Int × Int × qM) (P := fun p => gK (xG X) p.1 = 7 ∧ in32 p.2.1 ∧ in01 p.2.2.1 ∧ in32 p.2.2.2.1 ∧ qR (xG X) p.2.2.2.2) (Q := fun p => qN X 4 2 [(0, .ref p.1), (1, .int (iZ p.2.1)), (2, .int (iZ p.2.2.1)), (3, .int (iZ p.2.2.2.1))] [] p.2.2.2.2) (fun k hrec p hp hh => w_X6_wordIn_2 hX hE (fun x0 x1 x2 x3 m0 q0 q1 q2 q3 hRm hh => hrec (x0, x1, x2, x3, m0) ⟨q0, q1, q2, q3, hRm⟩ hh) hp.1 hp.2.1 hp.2.2.1 hp.2.2.2.1 hp.2.2.2.2 hh) N (x0, x1, x2, x3, m0) ⟨k_x0, r_x1, b_x2, r_x3, hR_m0⟩ h
set_option maxHeartbeats 4000000 in
set_option maxRecDepth 20000 in
theorem w_X6_wordIn {X : qB} {N : Nat} (hX : qOk X cX6_wordIn RX6 4 (some .int) wsX6_wordIn 5 133) {r : Int} {nu : qM} (hE : xr X = some (.int (iZ r)) ∧ (in32 r → xΦ X) ∧ xμ X = nu) 
    {x0 : Nat} {x1 : Int} {x2 : Int} (k_x0 : gK (xG X) x0 = 7) (r_x1 : in32 x1) (b_x2 : in01 x2) {m0 : qM} (hR_m0 : qR (xG X) m0)
    (h : f_X6_wordIn N (xG X)  x0 x1 x2 m0 = some (r, nu)) : qN X 4 0 [(0, .ref x0), (1, .int (iZ x1)), (2, .int (iZ x2))] [] m0 := by
  have hT := hX.T
  unfold f_X6_wordIn at h
  refine qn_iconst hX (pc := 0) dX6_wordIn_0 ?_
  refine qn_istore_n hX (pc := 1) (ls' := [(3, .int (iZ 0)), (0, .ref x0), (1, .int (iZ x1)), (2, .int (iZ x2))]) dX6_wordIn_1 rfl rfl rfl ?_
  refine qn_sub (ls' := [(0, .ref x0), (1, .int (iZ x1)), (2, .int (iZ x2)), (3, .int (iZ 0))]) [1, 2, 3, 0] rfl ?_
  exact w_X6_wordIn_L2 hX hE  k_x0 r_x1 b_x2 (by decide) hR_m0 h
theorem k_X6_wordIn (l : Launch) {G : qG} (hT : qT G) {N : Nat} {x0 : Nat} {x1 : Int} {x2 : Int} (k_x0 : gK G x0 = 7) (r_x1 : in32 x1) (b_x2 : in01 x2) {m0 : qM} {r : Int} {nu : qM} (h : f_X6_wordIn N G x0 x1 x2 m0 = some (r, nu)) : qC l yX6_wordIn wsX6_wordIn 5 133 G [.ref x0, .int (iZ x1), .int (iZ x2)] m0 (some (.int (iZ r))) (in32 r) nu := by
  refine qn_start (hy := by decide) hT (hw := rfl) (hn := Nat.le_of_ble_eq_true rfl) ?_
  intro X h1 h2 h3 h4 hX hR
  subst h4
  exact w_X6_wordIn hX ⟨h1, fun q => h2 ▸ q, h3⟩ k_x0 r_x1 b_x2 hR h
theorem dd_X6_wordIn : yX6_wordIn.cls = RX6 ∧ yX6_wordIn.cls ≠ "java/lang/invoke/MethodHandle" ∧ yX6_wordIn.cls ≠ "java/lang/invoke/VarHandle" ∧ (parseMethodDescriptor yX6_wordIn.desc).map (fun d => d.parameters.length) = some 2 := by decide +kernel
-- ProRataMarket$Tape.readNumber
theorem hi_X6_readNumber_6 : ∀ w ∈ wsX60, w ∈ wsX6_readNumber := fun w h => List.mem_cons_of_mem _ (List.mem_append_right _ h)
theorem fd_X6_readNumber_59 : qFd RX6 wsX6_readNumber 59 6 4 0 604 := ⟨RX6, TX6, 12, _, rfl, hi_X6_readNumber_6, by decide, (by decide +kernel : Cond.fieldLink RX6 59 (TX6 4).1 (TX6 4).2.1 (TX6 4).2.2.1 ∈ wsX6_readNumber), rfl, rfl, by decide⟩
theorem fd_X6_readNumber_78 : qFd RX6 wsX6_readNumber 78 6 6 0 606 := ⟨RX6, TX6, 12, _, rfl, hi_X6_readNumber_6, by decide, (by decide +kernel : Cond.fieldLink RX6 78 (TX6 6).1 (TX6 6).2.1 (TX6 6).2.2.1 ∈ wsX6_readNumber), rfl, rfl, by decide⟩
theorem fd_X6_readNumber_15 : qFd RX6 wsX6_readNumber 15 6 9 1 609 := ⟨RX6, TX6, 12, _, rfl, hi_X6_readNumber_6, by decide, (by decide +kernel : Cond.fieldLink RX6 15 (TX6 9).1 (TX6 9).2.1 (TX6 9).2.2.1 ∈ wsX6_readNumber), rfl, rfl, by decide⟩
set_option maxHeartbeats 4000000 in
set_option maxRecDepth 20000 in
theorem w_X6_readNumber_34 {X : qB} {N : Nat} (hX : qOk X cX6_readNumber RX6 4 (some .boolean) wsX6_readNumber 3 60) {r : Int} {nu : qM} (hE : xr X = some (.int (iZ r)) ∧ (in01 r → xΦ X) ∧ xμ X = nu) 
    {x0 : Nat} (k_x0 : gK (xG X) x0 = 7) {m0 : qM} (hR_m0 : qR (xG X) m0)
    (h : f_X6_readNumber_34 N (xG X)  x0 m0 = some (r, nu)) : qN X 4 34 [(0, .ref x0)] [] m0 := by
  have hT := hX.T
  unfold f_X6_readNumber_34 at h
  refine qn_aload_n hX (pc := 34) dX6_readNumber_34 0 rfl rfl ?_
  refine qn_iconst hX (pc := 35) dX6_readNumber_35 ?_
  obtain ⟨v2, m1, e_m1, h⟩ := kb2_e h
  refine qn_callVi hX (pc := 36) [.int (iZ 2)] [.int (iZ 2)] 1 dX6_readNumber_36 gX6_readNumber_X6_failBy rfl dd_X6_failBy ⟨rfl, rfl⟩ rfl rfl (by decide) k_x0 rfl rfl hR_m0 (k_X6_failBy (xl X) hT k_x0 (by decide) e_m1) (fun r_v2 hR_m1 => ?_)
  exact qn_zret hX (pc := 39) dX6_readNumber_39 hE hR_m1 r_v2 (Option.some.inj h)
set_option maxHeartbeats 4000000 in
set_option maxRecDepth 20000 in
theorem w_X6_readNumber {X : qB} {N : Nat} (hX : qOk X cX6_readNumber RX6 4 (some .boolean) wsX6_readNumber 3 60) {r : Int} {nu : qM} (hE : xr X = some (.int (iZ r)) ∧ (in01 r → xΦ X) ∧ xμ X = nu) 
    {x0 : Nat} {x1 : Int} {x2 : Int} {x3 : Int} (k_x0 : gK (xG X) x0 = 7) (r_x1 : in32 x1) (r_x2 : in32 x2) (r_x3 : in32 x3) {m0 : qM} (hR_m0 : qR (xG X) m0)
    (h : f_X6_readNumber N (xG X)  x0 x1 x2 x3 m0 = some (r, nu)) : qN X 4 0 [(0, .ref x0), (1, .int (iZ x1)), (2, .int (iZ x2)), (3, .int (iZ x3))] [] m0 := by
  have hT := hX.T
  unfold f_X6_readNumber at h
  refine qn_aload_n hX (pc := 0) dX6_readNumber_0 0 rfl rfl ?_
  obtain ⟨m1, e_m1, h⟩ := kb_e h
  refine qn_callVv hX (pc := 1) [] [] 0 dX6_readNumber_1 gX6_readNumber_X6_readToken rfl dd_X6_readToken ⟨rfl, rfl⟩ rfl rfl (by decide) k_x0 rfl rfl hR_m0 (k_X6_readToken (xl X) hT k_x0 e_m1) (fun r_v2 hR_m1 => ?_)
  refine qn_aload_n hX (pc := 4) dX6_readNumber_4 0 rfl rfl ?_
  refine qn_getI hX (pc := 5) fd_X6_readNumber_59 dX6_readNumber_5 k_x0 ?_
  refine qn_iconst hX (pc := 8) dX6_readNumber_8 ?_
  refine qn_icmp_eq hX (pc := 9) (hR_m1.i 604 _ rfl) (by decide) 18 dX6_readNumber_9 (by decide) (fun c3 => ?_) (fun c3 => ?_)
  · have h := ite_t h c3
    refine qn_aload_n hX (pc := 18) dX6_readNumber_18 0 rfl rfl ?_
    refine qn_getI hX (pc := 19) fd_X6_readNumber_78 dX6_readNumber_19 k_x0 ?_
    refine qn_iload_n hX (pc := 22) dX6_readNumber_22 2 rfl rfl ?_
    refine qn_icmp_lt hX (pc := 23) (hR_m1.i 606 _ rfl) r_x2 34 dX6_readNumber_23 (by decide) (fun c4 => ?_) (fun c4 => ?_)
    · have h := ite_t h c4
      refine qn_sub (ls' := [(0, .ref x0)]) [0] rfl ?_
      exact w_X6_readNumber_34 hX hE  k_x0 hR_m1 h
    · have h := ite_f h c4
      refine qn_aload_n hX (pc := 26) dX6_readNumber_26 0 rfl rfl ?_
      refine qn_getI hX (pc := 27) fd_X6_readNumber_78 dX6_readNumber_27 k_x0 ?_
      refine qn_iload_n hX (pc := 30) dX6_readNumber_30 3 rfl rfl ?_
      refine qn_icmp_le hX (pc := 31) (hR_m1.i 606 _ rfl) r_x3 40 dX6_readNumber_31 (by decide) (fun c5 => ?_) (fun c5 => ?_)
      · have h := ite_f h c5
        refine qn_aload_n hX (pc := 40) dX6_readNumber_40 0 rfl rfl ?_
        refine qn_getR hX (pc := 41) fd_X6_readNumber_15 dX6_readNumber_41 k_x0 ?_
        refine qn_iload_n hX (pc := 44) dX6_readNumber_44 1 rfl rfl ?_
        refine qn_aload_n hX (pc := 45) dX6_readNumber_45 0 rfl rfl ?_
        refine qn_getI hX (pc := 46) fd_X6_readNumber_78 dX6_readNumber_46 k_x0 ?_
        obtain ⟨m6, e_m6, b_m6, h⟩ := wrA_e h
        refine qn_iast hX (pc := 49) 3 dX6_readNumber_49 (qr_609 hT k_x0) (by decide) b_m6 hR_m1 (hR_m1.i 606 _ rfl) e_m6 (fun hR_m6 => ?_) 
        refine qn_iconst hX (pc := 50) dX6_readNumber_50 ?_
        exact qn_zret hX (pc := 51) dX6_readNumber_51 hE hR_m6 (by decide) (Option.some.inj h)
      · have h := ite_t h c5
        refine qn_sub (ls' := [(0, .ref x0)]) [0] rfl ?_
        exact w_X6_readNumber_34 hX hE  k_x0 hR_m1 h
  · have h := ite_f h c3
    refine qn_aload_n hX (pc := 12) dX6_readNumber_12 0 rfl rfl ?_
    refine qn_iconst hX (pc := 13) dX6_readNumber_13 ?_
    obtain ⟨v8, m7, e_m7, h⟩ := kb2_e h
    refine qn_callVi hX (pc := 14) [.int (iZ 1)] [.int (iZ 1)] 1 dX6_readNumber_14 gX6_readNumber_X6_failBy rfl dd_X6_failBy ⟨rfl, rfl⟩ rfl rfl (by decide) k_x0 rfl rfl hR_m1 (k_X6_failBy (xl X) hT k_x0 (by decide) e_m7) (fun r_v8 hR_m7 => ?_)
    exact qn_zret hX (pc := 17) dX6_readNumber_17 hE hR_m7 r_v8 (Option.some.inj h)
theorem k_X6_readNumber (l : Launch) {G : qG} (hT : qT G) {N : Nat} {x0 : Nat} {x1 : Int} {x2 : Int} {x3 : Int} (k_x0 : gK G x0 = 7) (r_x1 : in32 x1) (r_x2 : in32 x2) (r_x3 : in32 x3) {m0 : qM} {r : Int} {nu : qM} (h : f_X6_readNumber N G x0 x1 x2 x3 m0 = some (r, nu)) : qC l yX6_readNumber wsX6_readNumber 3 60 G [.ref x0, .int (iZ x1), .int (iZ x2), .int (iZ x3)] m0 (some (.int (iZ r))) (in01 r) nu := by
  refine qn_start (hy := by decide) hT (hw := rfl) (hn := Nat.le_of_ble_eq_true rfl) ?_
  intro X h1 h2 h3 h4 hX hR
  subst h4
  exact w_X6_readNumber hX ⟨h1, fun q => h2 ▸ q, h3⟩ k_x0 r_x1 r_x2 r_x3 hR h
theorem dd_X6_readNumber : yX6_readNumber.cls = RX6 ∧ yX6_readNumber.cls ≠ "java/lang/invoke/MethodHandle" ∧ yX6_readNumber.cls ≠ "java/lang/invoke/VarHandle" ∧ (parseMethodDescriptor yX6_readNumber.desc).map (fun d => d.parameters.length) = some 3 := by decide +kernel
-- ProRataMarket$Tape.readNumbers
theorem hi_X6_readNumbers_6 : ∀ w ∈ wsX60, w ∈ wsX6_readNumbers := fun w h => List.mem_cons_of_mem _ (List.mem_append_right _ h)
theorem fd_X6_readNumbers_45 : qFd RX6 wsX6_readNumbers 45 6 8 0 608 := ⟨RX6, TX6, 12, _, rfl, hi_X6_readNumbers_6, by decide, (by decide +kernel : Cond.fieldLink RX6 45 (TX6 8).1 (TX6 8).2.1 (TX6 8).2.2.1 ∈ wsX6_readNumbers), rfl, rfl, by decide⟩
theorem fd_X6_readNumbers_15 : qFd RX6 wsX6_readNumbers 15 6 9 1 609 := ⟨RX6, TX6, 12, _, rfl, hi_X6_readNumbers_6, by decide, (by decide +kernel : Cond.fieldLink RX6 15 (TX6 9).1 (TX6 9).2.1 (TX6 9).2.2.1 ∈ wsX6_readNumbers), rfl, rfl, by decide⟩
set_option maxHeartbeats 4000000 in
set_option maxRecDepth 20000 in
theorem w_X6_readNumbers {X : qB} {N : Nat} (hX : qOk X cX6_readNumbers RX6 1 (some .boolean) wsX6_readNumbers 4 83) {r : Int} {nu : qM} (hE : xr X = some (.int (iZ r)) ∧ (in01 r → xΦ X) ∧ xμ X = nu) 
    {x0 : Nat} (k_x0 : gK (xG X) x0 = 7) {m0 : qM} (hR_m0 : qR (xG X) m0)
    (h : f_X6_readNumbers N (xG X)  x0 m0 = some (r, nu)) : qN X 1 0 [(0, .ref x0)] [] m0 := by
  have hT := hX.T
  unfold f_X6_readNumbers at h
  refine qn_aload_n hX (pc := 0) dX6_readNumbers_0 0 rfl rfl ?_
  refine qn_getI hX (pc := 1) fd_X6_readNumbers_45 dX6_readNumbers_1 k_x0 ?_
  by_cases c1 : (gI m0 608 x0) = 0
  · have h := ite_t h c1
    refine qn_tswIn hX (pc := 4) (hR_m0.i 608 _ rfl) 44 dX6_readNumbers_4 0 c1 (by decide) rfl (by decide) ?_
    refine qn_aload_n hX (pc := 44) dX6_readNumbers_44 0 rfl rfl ?_
    refine qn_iconst hX (pc := 45) dX6_readNumbers_45 ?_
    refine qn_iconst hX (pc := 46) dX6_readNumbers_46 ?_
    refine qn_bipush hX (pc := 47) dX6_readNumbers_47 (by decide) ?_
    obtain ⟨v3, m2, e_m2, h⟩ := kb2_e h
    refine qn_callVi hX (pc := 49) [.int (iZ 0), .int (iZ 0), .int (iZ 9)] [.int (iZ 9), .int (iZ 0), .int (iZ 0)] 3 dX6_readNumbers_49 gX6_readNumbers_X6_readNumber rfl dd_X6_readNumber ⟨rfl, rfl⟩ rfl rfl (by decide) k_x0 rfl rfl hR_m0 (k_X6_readNumber (xl X) hT k_x0 (by decide) (by decide) (by decide) e_m2) (fun r_v3 hR_m2 => ?_)
    refine qn_if_eq hX (pc := 52) r_v3.i 89 dX6_readNumbers_52 (by decide) (fun c4 => ?_) (fun c4 => ?_)
    · have h := ite_t h c4
      refine qn_iconst hX (pc := 89) dX6_readNumbers_89 ?_
      exact qn_zret hX (pc := 90) dX6_readNumbers_90 hE hR_m2 (by decide) (Option.some.inj h)
    · have h := ite_f h c4
      refine qn_aload_n hX (pc := 55) dX6_readNumbers_55 0 rfl rfl ?_
      refine qn_iconst hX (pc := 56) dX6_readNumbers_56 ?_
      refine qn_iconst hX (pc := 57) dX6_readNumbers_57 ?_
      refine qn_sipush hX (pc := 58) dX6_readNumbers_58 (by decide) ?_
      obtain ⟨v6, m5, e_m5, h⟩ := kb2_e h
      refine qn_callVi hX (pc := 61) [.int (iZ 1), .int (iZ 1), .int (iZ 1000)] [.int (iZ 1000), .int (iZ 1), .int (iZ 1)] 3 dX6_readNumbers_61 gX6_readNumbers_X6_readNumber rfl dd_X6_readNumber ⟨rfl, rfl⟩ rfl rfl (by decide) k_x0 rfl rfl hR_m2 (k_X6_readNumber (xl X) hT k_x0 (by decide) (by decide) (by decide) e_m5) (fun r_v6 hR_m5 => ?_)
      refine qn_if_eq hX (pc := 64) r_v6.i 89 dX6_readNumbers_64 (by decide) (fun c7 => ?_) (fun c7 => ?_)
      · have h := ite_t h c7
        refine qn_iconst hX (pc := 89) dX6_readNumbers_89 ?_
        exact qn_zret hX (pc := 90) dX6_readNumbers_90 hE hR_m5 (by decide) (Option.some.inj h)
      · have h := ite_f h c7
        refine qn_aload_n hX (pc := 67) dX6_readNumbers_67 0 rfl rfl ?_
        refine qn_iconst hX (pc := 68) dX6_readNumbers_68 ?_
        refine qn_iconst hX (pc := 69) dX6_readNumbers_69 ?_
        refine qn_aload_n hX (pc := 70) dX6_readNumbers_70 0 rfl rfl ?_
        refine qn_getR hX (pc := 71) fd_X6_readNumbers_15 dX6_readNumbers_71 k_x0 ?_
        refine qn_iconst hX (pc := 74) dX6_readNumbers_74 ?_
        refine qn_iald hX (pc := 75) (v := gA m5 (gR (xG X) 609 x0) 1) 3 dX6_readNumbers_75 (qr_609 hT k_x0) (by decide) (by decide) rfl ?_
        obtain ⟨v9, m8, e_m8, h⟩ := kb2_e h
        refine qn_callSi hX (pc := 76) [.int (iZ (gA m5 (gR (xG X) 609 x0) 1))] [.int (iZ (gA m5 (gR (xG X) 609 x0) 1))] 1 dX6_readNumbers_76 gX6_readNumbers_X6_dearest rfl dd_X6_dearest ⟨rfl, rfl⟩ rfl rfl rfl hR_m5 (k_X6_dearest (xl X) hT (hR_m5.a (n := 3) _ (qr_609 hT k_x0) (by decide)) e_m8) (fun r_v9 hR_m8 => ?_)
        obtain ⟨v11, m10, e_m10, h⟩ := kb2_e h
        refine qn_callVi hX (pc := 79) [.int (iZ 2), .int (iZ 1), .int (iZ v9)] [.int (iZ v9), .int (iZ 1), .int (iZ 2)] 3 dX6_readNumbers_79 gX6_readNumbers_X6_readNumber rfl dd_X6_readNumber ⟨rfl, rfl⟩ rfl rfl (by decide) k_x0 rfl rfl hR_m8 (k_X6_readNumber (xl X) hT k_x0 (by decide) (by decide) r_v9 e_m10) (fun r_v11 hR_m10 => ?_)
        refine qn_if_eq hX (pc := 82) r_v11.i 89 dX6_readNumbers_82 (by decide) (fun c12 => ?_) (fun c12 => ?_)
        · have h := ite_t h c12
          refine qn_iconst hX (pc := 89) dX6_readNumbers_89 ?_
          exact qn_zret hX (pc := 90) dX6_readNumbers_90 hE hR_m10 (by decide) (Option.some.inj h)
        · have h := ite_f h c12
          refine qn_iconst hX (pc := 85) dX6_readNumbers_85 ?_
          refine qn_goto hX (pc := 86) 90 dX6_readNumbers_86 (by decide) ?_
          exact qn_zret hX (pc := 90) dX6_readNumbers_90 hE hR_m10 (by decide) (Option.some.inj h)
  have h := ite_f h c1
  by_cases c13 : (gI m0 608 x0) = 1
  · have h := ite_t h c13
    refine qn_tswIn hX (pc := 4) (hR_m0.i 608 _ rfl) 44 dX6_readNumbers_4 1 c13 (by decide) rfl (by decide) ?_
    refine qn_aload_n hX (pc := 44) dX6_readNumbers_44 0 rfl rfl ?_
    refine qn_iconst hX (pc := 45) dX6_readNumbers_45 ?_
    refine qn_iconst hX (pc := 46) dX6_readNumbers_46 ?_
    refine qn_bipush hX (pc := 47) dX6_readNumbers_47 (by decide) ?_
    obtain ⟨v15, m14, e_m14, h⟩ := kb2_e h
    refine qn_callVi hX (pc := 49) [.int (iZ 0), .int (iZ 0), .int (iZ 9)] [.int (iZ 9), .int (iZ 0), .int (iZ 0)] 3 dX6_readNumbers_49 gX6_readNumbers_X6_readNumber rfl dd_X6_readNumber ⟨rfl, rfl⟩ rfl rfl (by decide) k_x0 rfl rfl hR_m0 (k_X6_readNumber (xl X) hT k_x0 (by decide) (by decide) (by decide) e_m14) (fun r_v15 hR_m14 => ?_)
    refine qn_if_eq hX (pc := 52) r_v15.i 89 dX6_readNumbers_52 (by decide) (fun c16 => ?_) (fun c16 => ?_)
    · have h := ite_t h c16
      refine qn_iconst hX (pc := 89) dX6_readNumbers_89 ?_
      exact qn_zret hX (pc := 90) dX6_readNumbers_90 hE hR_m14 (by decide) (Option.some.inj h)
    · have h := ite_f h c16
      refine qn_aload_n hX (pc := 55) dX6_readNumbers_55 0 rfl rfl ?_
      refine qn_iconst hX (pc := 56) dX6_readNumbers_56 ?_
      refine qn_iconst hX (pc := 57) dX6_readNumbers_57 ?_
      refine qn_sipush hX (pc := 58) dX6_readNumbers_58 (by decide) ?_
      obtain ⟨v18, m17, e_m17, h⟩ := kb2_e h
      refine qn_callVi hX (pc := 61) [.int (iZ 1), .int (iZ 1), .int (iZ 1000)] [.int (iZ 1000), .int (iZ 1), .int (iZ 1)] 3 dX6_readNumbers_61 gX6_readNumbers_X6_readNumber rfl dd_X6_readNumber ⟨rfl, rfl⟩ rfl rfl (by decide) k_x0 rfl rfl hR_m14 (k_X6_readNumber (xl X) hT k_x0 (by decide) (by decide) (by decide) e_m17) (fun r_v18 hR_m17 => ?_)
      refine qn_if_eq hX (pc := 64) r_v18.i 89 dX6_readNumbers_64 (by decide) (fun c19 => ?_) (fun c19 => ?_)
      · have h := ite_t h c19
        refine qn_iconst hX (pc := 89) dX6_readNumbers_89 ?_
        exact qn_zret hX (pc := 90) dX6_readNumbers_90 hE hR_m17 (by decide) (Option.some.inj h)
      · have h := ite_f h c19
        refine qn_aload_n hX (pc := 67) dX6_readNumbers_67 0 rfl rfl ?_
        refine qn_iconst hX (pc := 68) dX6_readNumbers_68 ?_
        refine qn_iconst hX (pc := 69) dX6_readNumbers_69 ?_
        refine qn_aload_n hX (pc := 70) dX6_readNumbers_70 0 rfl rfl ?_
        refine qn_getR hX (pc := 71) fd_X6_readNumbers_15 dX6_readNumbers_71 k_x0 ?_
        refine qn_iconst hX (pc := 74) dX6_readNumbers_74 ?_
        refine qn_iald hX (pc := 75) (v := gA m17 (gR (xG X) 609 x0) 1) 3 dX6_readNumbers_75 (qr_609 hT k_x0) (by decide) (by decide) rfl ?_
        obtain ⟨v21, m20, e_m20, h⟩ := kb2_e h
        refine qn_callSi hX (pc := 76) [.int (iZ (gA m17 (gR (xG X) 609 x0) 1))] [.int (iZ (gA m17 (gR (xG X) 609 x0) 1))] 1 dX6_readNumbers_76 gX6_readNumbers_X6_dearest rfl dd_X6_dearest ⟨rfl, rfl⟩ rfl rfl rfl hR_m17 (k_X6_dearest (xl X) hT (hR_m17.a (n := 3) _ (qr_609 hT k_x0) (by decide)) e_m20) (fun r_v21 hR_m20 => ?_)
        obtain ⟨v23, m22, e_m22, h⟩ := kb2_e h
        refine qn_callVi hX (pc := 79) [.int (iZ 2), .int (iZ 1), .int (iZ v21)] [.int (iZ v21), .int (iZ 1), .int (iZ 2)] 3 dX6_readNumbers_79 gX6_readNumbers_X6_readNumber rfl dd_X6_readNumber ⟨rfl, rfl⟩ rfl rfl (by decide) k_x0 rfl rfl hR_m20 (k_X6_readNumber (xl X) hT k_x0 (by decide) (by decide) r_v21 e_m22) (fun r_v23 hR_m22 => ?_)
        refine qn_if_eq hX (pc := 82) r_v23.i 89 dX6_readNumbers_82 (by decide) (fun c24 => ?_) (fun c24 => ?_)
        · have h := ite_t h c24
          refine qn_iconst hX (pc := 89) dX6_readNumbers_89 ?_
          exact qn_zret hX (pc := 90) dX6_readNumbers_90 hE hR_m22 (by decide) (Option.some.inj h)
        · have h := ite_f h c24
          refine qn_iconst hX (pc := 85) dX6_readNumbers_85 ?_
          refine qn_goto hX (pc := 86) 90 dX6_readNumbers_86 (by decide) ?_
          exact qn_zret hX (pc := 90) dX6_readNumbers_90 hE hR_m22 (by decide) (Option.some.inj h)
  have h := ite_f h c13
  by_cases c25 : (gI m0 608 x0) = 2
  · have h := ite_t h c25
    refine qn_tswIn hX (pc := 4) (hR_m0.i 608 _ rfl) 91 dX6_readNumbers_4 2 c25 (by decide) rfl (by decide) ?_
    refine qn_aload_n hX (pc := 91) dX6_readNumbers_91 0 rfl rfl ?_
    refine qn_iconst hX (pc := 92) dX6_readNumbers_92 ?_
    refine qn_iconst hX (pc := 93) dX6_readNumbers_93 ?_
    refine qn_ldc hX (pc := 94) 9999999 dX6_readNumbers_94 (by decide +kernel : Cond.constant RX6 76 (9999999) ∈ wsX6_readNumbers) (by decide) ?_
    obtain ⟨v27, m26, e_m26, h⟩ := kb2_e h
    refine qn_callVi hX (pc := 96) [.int (iZ 0), .int (iZ 1), .int (iZ 9999999)] [.int (iZ 9999999), .int (iZ 1), .int (iZ 0)] 3 dX6_readNumbers_96 gX6_readNumbers_X6_readNumber rfl dd_X6_readNumber ⟨rfl, rfl⟩ rfl rfl (by decide) k_x0 rfl rfl hR_m0 (k_X6_readNumber (xl X) hT k_x0 (by decide) (by decide) (by decide) e_m26) (fun r_v27 hR_m26 => ?_)
    exact qn_zret hX (pc := 99) dX6_readNumbers_99 hE hR_m26 r_v27 (Option.some.inj h)
  have h := ite_f h c25
  by_cases c28 : (gI m0 608 x0) = 3
  · have h := ite_t h c28
    refine qn_tswIn hX (pc := 4) (hR_m0.i 608 _ rfl) 100 dX6_readNumbers_4 3 c28 (by decide) rfl (by decide) ?_
    refine qn_aload_n hX (pc := 100) dX6_readNumbers_100 0 rfl rfl ?_
    refine qn_iconst hX (pc := 101) dX6_readNumbers_101 ?_
    refine qn_iconst hX (pc := 102) dX6_readNumbers_102 ?_
    refine qn_ldc hX (pc := 103) 9999999 dX6_readNumbers_103 (by decide +kernel : Cond.constant RX6 76 (9999999) ∈ wsX6_readNumbers) (by decide) ?_
    obtain ⟨v30, m29, e_m29, h⟩ := kb2_e h
    refine qn_callVi hX (pc := 105) [.int (iZ 0), .int (iZ 1), .int (iZ 9999999)] [.int (iZ 9999999), .int (iZ 1), .int (iZ 0)] 3 dX6_readNumbers_105 gX6_readNumbers_X6_readNumber rfl dd_X6_readNumber ⟨rfl, rfl⟩ rfl rfl (by decide) k_x0 rfl rfl hR_m0 (k_X6_readNumber (xl X) hT k_x0 (by decide) (by decide) (by decide) e_m29) (fun r_v30 hR_m29 => ?_)
    refine qn_if_eq hX (pc := 108) r_v30.i 127 dX6_readNumbers_108 (by decide) (fun c31 => ?_) (fun c31 => ?_)
    · have h := ite_t h c31
      refine qn_iconst hX (pc := 127) dX6_readNumbers_127 ?_
      exact qn_zret hX (pc := 128) dX6_readNumbers_128 hE hR_m29 (by decide) (Option.some.inj h)
    · have h := ite_f h c31
      refine qn_aload_n hX (pc := 111) dX6_readNumbers_111 0 rfl rfl ?_
      refine qn_iconst hX (pc := 112) dX6_readNumbers_112 ?_
      refine qn_iconst hX (pc := 113) dX6_readNumbers_113 ?_
      refine qn_sipush hX (pc := 114) dX6_readNumbers_114 (by decide) ?_
      obtain ⟨v33, m32, e_m32, h⟩ := kb2_e h
      refine qn_callVi hX (pc := 117) [.int (iZ 1), .int (iZ 1), .int (iZ 1000)] [.int (iZ 1000), .int (iZ 1), .int (iZ 1)] 3 dX6_readNumbers_117 gX6_readNumbers_X6_readNumber rfl dd_X6_readNumber ⟨rfl, rfl⟩ rfl rfl (by decide) k_x0 rfl rfl hR_m29 (k_X6_readNumber (xl X) hT k_x0 (by decide) (by decide) (by decide) e_m32) (fun r_v33 hR_m32 => ?_)
      refine qn_if_eq hX (pc := 120) r_v33.i 127 dX6_readNumbers_120 (by decide) (fun c34 => ?_) (fun c34 => ?_)
      · have h := ite_t h c34
        refine qn_iconst hX (pc := 127) dX6_readNumbers_127 ?_
        exact qn_zret hX (pc := 128) dX6_readNumbers_128 hE hR_m32 (by decide) (Option.some.inj h)
      · have h := ite_f h c34
        refine qn_iconst hX (pc := 123) dX6_readNumbers_123 ?_
        refine qn_goto hX (pc := 124) 128 dX6_readNumbers_124 (by decide) ?_
        exact qn_zret hX (pc := 128) dX6_readNumbers_128 hE hR_m32 (by decide) (Option.some.inj h)
  have h := ite_f h c28
  by_cases c35 : (gI m0 608 x0) = 4
  · have h := ite_t h c35
    refine qn_tswIn hX (pc := 4) (hR_m0.i 608 _ rfl) 129 dX6_readNumbers_4 4 c35 (by decide) rfl (by decide) ?_
    refine qn_aload_n hX (pc := 129) dX6_readNumbers_129 0 rfl rfl ?_
    refine qn_iconst hX (pc := 130) dX6_readNumbers_130 ?_
    refine qn_iconst hX (pc := 131) dX6_readNumbers_131 ?_
    refine qn_sipush hX (pc := 132) dX6_readNumbers_132 (by decide) ?_
    obtain ⟨v37, m36, e_m36, h⟩ := kb2_e h
    refine qn_callVi hX (pc := 135) [.int (iZ 0), .int (iZ 0), .int (iZ 1000)] [.int (iZ 1000), .int (iZ 0), .int (iZ 0)] 3 dX6_readNumbers_135 gX6_readNumbers_X6_readNumber rfl dd_X6_readNumber ⟨rfl, rfl⟩ rfl rfl (by decide) k_x0 rfl rfl hR_m0 (k_X6_readNumber (xl X) hT k_x0 (by decide) (by decide) (by decide) e_m36) (fun r_v37 hR_m36 => ?_)
    exact qn_zret hX (pc := 138) dX6_readNumbers_138 hE hR_m36 r_v37 (Option.some.inj h)
  have h := ite_f h c35
  by_cases c38 : (gI m0 608 x0) = 5
  · have h := ite_t h c38
    refine qn_tswIn hX (pc := 4) (hR_m0.i 608 _ rfl) 139 dX6_readNumbers_4 5 c38 (by decide) rfl (by decide) ?_
    refine qn_aload_n hX (pc := 139) dX6_readNumbers_139 0 rfl rfl ?_
    refine qn_iconst hX (pc := 140) dX6_readNumbers_140 ?_
    refine qn_iconst hX (pc := 141) dX6_readNumbers_141 ?_
    refine qn_bipush hX (pc := 142) dX6_readNumbers_142 (by decide) ?_
    obtain ⟨v40, m39, e_m39, h⟩ := kb2_e h
    refine qn_callVi hX (pc := 144) [.int (iZ 0), .int (iZ 1), .int (iZ 50)] [.int (iZ 50), .int (iZ 1), .int (iZ 0)] 3 dX6_readNumbers_144 gX6_readNumbers_X6_readNumber rfl dd_X6_readNumber ⟨rfl, rfl⟩ rfl rfl (by decide) k_x0 rfl rfl hR_m0 (k_X6_readNumber (xl X) hT k_x0 (by decide) (by decide) (by decide) e_m39) (fun r_v40 hR_m39 => ?_)
    exact qn_zret hX (pc := 147) dX6_readNumbers_147 hE hR_m39 r_v40 (Option.some.inj h)
  have h := ite_f h c38
  refine qn_tswOut hX (pc := 4) (hR_m0.i 608 _ rfl) 148 dX6_readNumbers_4 (by omega) (by decide) ?_
  refine qn_iconst hX (pc := 148) dX6_readNumbers_148 ?_
  exact qn_zret hX (pc := 149) dX6_readNumbers_149 hE hR_m0 (by decide) (Option.some.inj h)
theorem k_X6_readNumbers (l : Launch) {G : qG} (hT : qT G) {N : Nat} {x0 : Nat} (k_x0 : gK G x0 = 7) {m0 : qM} {r : Int} {nu : qM} (h : f_X6_readNumbers N G x0 m0 = some (r, nu)) : qC l yX6_readNumbers wsX6_readNumbers 4 83 G [.ref x0] m0 (some (.int (iZ r))) (in01 r) nu := by
  refine qn_start (hy := by decide) hT (hw := rfl) (hn := Nat.le_of_ble_eq_true rfl) ?_
  intro X h1 h2 h3 h4 hX hR
  subst h4
  exact w_X6_readNumbers hX ⟨h1, fun q => h2 ▸ q, h3⟩ k_x0 hR h
theorem dd_X6_readNumbers : yX6_readNumbers.cls = RX6 ∧ yX6_readNumbers.cls ≠ "java/lang/invoke/MethodHandle" ∧ yX6_readNumbers.cls ≠ "java/lang/invoke/VarHandle" ∧ (parseMethodDescriptor yX6_readNumbers.desc).map (fun d => d.parameters.length) = some 0 := by decide +kernel
