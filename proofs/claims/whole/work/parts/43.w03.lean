-- ProRataMarket$Floor.loseOwn
theorem hi_X2_loseOwn_2 : ∀ w ∈ wsX20, w ∈ wsX2_loseOwn := fun w h => List.mem_cons_of_mem _ (List.mem_append_left _ (List.mem_append_right _ h))
theorem fd_X2_loseOwn_70 : qFd RX2 wsX2_loseOwn 70 2 10 0 210 := ⟨RX2, TX2, 12, _, rfl, hi_X2_loseOwn_2, by decide, (by decide +kernel : Cond.fieldLink RX2 70 (TX2 10).1 (TX2 10).2.1 (TX2 10).2.2.1 ∈ wsX2_loseOwn), rfl, rfl, by decide⟩
theorem hi_X2_loseOwn_4 : ∀ w ∈ wsX40, w ∈ wsX2_loseOwn := fun w h => List.mem_cons_of_mem _ (List.mem_append_right _ h)
theorem fd_X2_loseOwn_88 : qFd RX2 wsX2_loseOwn 88 4 4 0 404 := ⟨RX4, TX4, 6, _, rfl, hi_X2_loseOwn_4, by decide, (by decide +kernel : Cond.fieldLink RX2 88 (TX4 4).1 (TX4 4).2.1 (TX4 4).2.2.1 ∈ wsX2_loseOwn), rfl, rfl, by decide⟩
theorem fp_X2_loseOwn_70 : qFp RX2 wsX2_loseOwn 70 2 10 0 210 .int := ⟨RX2, TX2, 12, _, tyX2, rfl, hi_X2_loseOwn_2, by decide, (by decide +kernel : Cond.fieldLink RX2 70 (TX2 10).1 (TX2 10).2.1 (TX2 10).2.2.1 ∈ wsX2_loseOwn), rfl, rfl, by decide, tyX2_ok, nmX2, rfl, by decide +kernel⟩
theorem fp_X2_loseOwn_88 : qFp RX2 wsX2_loseOwn 88 4 4 0 404 .int := ⟨RX4, TX4, 6, _, tyX4, rfl, hi_X2_loseOwn_4, by decide, (by decide +kernel : Cond.fieldLink RX2 88 (TX4 4).1 (TX4 4).2.1 (TX4 4).2.2.1 ∈ wsX2_loseOwn), rfl, rfl, by decide, tyX4_ok, nmX4, rfl, by decide +kernel⟩
theorem fd_X2_loseOwn_67 : qFd RX2 wsX2_loseOwn 67 2 9 0 209 := ⟨RX2, TX2, 12, _, rfl, hi_X2_loseOwn_2, by decide, (by decide +kernel : Cond.fieldLink RX2 67 (TX2 9).1 (TX2 9).2.1 (TX2 9).2.2.1 ∈ wsX2_loseOwn), rfl, rfl, by decide⟩
theorem fp_X2_loseOwn_67 : qFp RX2 wsX2_loseOwn 67 2 9 0 209 .int := ⟨RX2, TX2, 12, _, tyX2, rfl, hi_X2_loseOwn_2, by decide, (by decide +kernel : Cond.fieldLink RX2 67 (TX2 9).1 (TX2 9).2.1 (TX2 9).2.2.1 ∈ wsX2_loseOwn), rfl, rfl, by decide, tyX2_ok, nmX2, rfl, by decide +kernel⟩
theorem fd_X2_loseOwn_42 : qFd RX2 wsX2_loseOwn 42 2 4 1 204 := ⟨RX2, TX2, 12, _, rfl, hi_X2_loseOwn_2, by decide, (by decide +kernel : Cond.fieldLink RX2 42 (TX2 4).1 (TX2 4).2.1 (TX2 4).2.2.1 ∈ wsX2_loseOwn), rfl, rfl, by decide⟩
theorem fd_X2_loseOwn_73 : qFd RX2 wsX2_loseOwn 73 2 11 0 211 := ⟨RX2, TX2, 12, _, rfl, hi_X2_loseOwn_2, by decide, (by decide +kernel : Cond.fieldLink RX2 73 (TX2 11).1 (TX2 11).2.1 (TX2 11).2.2.1 ∈ wsX2_loseOwn), rfl, rfl, by decide⟩
theorem fp_X2_loseOwn_73 : qFp RX2 wsX2_loseOwn 73 2 11 0 211 .int := ⟨RX2, TX2, 12, _, tyX2, rfl, hi_X2_loseOwn_2, by decide, (by decide +kernel : Cond.fieldLink RX2 73 (TX2 11).1 (TX2 11).2.1 (TX2 11).2.2.1 ∈ wsX2_loseOwn), rfl, rfl, by decide, tyX2_ok, nmX2, rfl, by decide +kernel⟩
set_option maxHeartbeats 4000000 in
set_option maxRecDepth 20000 in
theorem w_X2_loseOwn_9 {X : qB} {N : Nat} (hX : qOk X cX2_loseOwn RX2 4 none wsX2_loseOwn 1 24) {r : qM} (hE : xr X = none ∧ (True → xΦ X) ∧ xμ X = r) 
    {x0 : Nat} {x1 : Nat} (k_x0 : gK (xG X) x0 = 3) (k_x1 : gK (xG X) x1 = 5) {m0 : qM} (hR_m0 : qR (xG X) m0)
    (h : f_X2_loseOwn_9 N (xG X)  x0 x1 m0 = some r) : qN X 4 9 [(0, .ref x0), (1, .ref x1)] [] m0 := by
  have hT := hX.T
  unfold f_X2_loseOwn_9 at h
  refine qn_aload_n hX (pc := 9) dX2_loseOwn_9 0 rfl rfl ?_
  refine qn_dup hX (pc := 10) dX2_loseOwn_10 rfl ?_
  refine qn_getI hX (pc := 11) fd_X2_loseOwn_70 dX2_loseOwn_11 k_x0 ?_
  refine qn_aload_n hX (pc := 14) dX2_loseOwn_14 1 rfl rfl ?_
  refine qn_getI hX (pc := 15) fd_X2_loseOwn_88 dX2_loseOwn_15 k_x1 ?_
  obtain ⟨v1, e_v1, h⟩ := kp_e h
  have r_v1 : in32 v1 := by rw [e_v1]; exact w32_in _
  refine qn_iaddw hX (pc := 18) dX2_loseOwn_18 e_v1 ?_
  obtain ⟨m2, e_m2, h⟩ := kp_e h
  refine qn_putI hX (pc := 19) fp_X2_loseOwn_70 dX2_loseOwn_19 k_x0 hR_m0 r_v1 e_m2 (fun hR_m2 => ?_) 
  refine qn_aload_n hX (pc := 22) dX2_loseOwn_22 1 rfl rfl ?_
  refine qn_iconst hX (pc := 23) dX2_loseOwn_23 ?_
  obtain ⟨m3, e_m3, h⟩ := kp_e h
  refine qn_putI hX (pc := 24) fp_X2_loseOwn_88 dX2_loseOwn_24 k_x1 hR_m2 (show in32 0 by decide) e_m3 (fun hR_m3 => ?_) 
  refine qn_aload_n hX (pc := 27) dX2_loseOwn_27 0 rfl rfl ?_
  refine qn_dup hX (pc := 28) dX2_loseOwn_28 rfl ?_
  refine qn_getI hX (pc := 29) fd_X2_loseOwn_67 dX2_loseOwn_29 k_x0 ?_
  refine qn_iconst hX (pc := 32) dX2_loseOwn_32 ?_
  obtain ⟨v4, e_v4, h⟩ := kp_e h
  have r_v4 : in32 v4 := by rw [e_v4]; exact w32_in _
  refine qn_iaddw hX (pc := 33) dX2_loseOwn_33 e_v4 ?_
  obtain ⟨m5, e_m5, h⟩ := kp_e h
  refine qn_putI hX (pc := 34) fp_X2_loseOwn_67 dX2_loseOwn_34 k_x0 hR_m3 r_v4 e_m5 (fun hR_m5 => ?_) 
  refine qn_goto hX (pc := 37) 114 dX2_loseOwn_37 (by decide) ?_
  exact qn_vret hX (pc := 114) dX2_loseOwn_114 hE hR_m5 (Option.some.inj h)
set_option maxHeartbeats 4000000 in
set_option maxRecDepth 20000 in
theorem w_X2_loseOwn {X : qB} {N : Nat} (hX : qOk X cX2_loseOwn RX2 4 none wsX2_loseOwn 1 24) {r : qM} (hE : xr X = none ∧ (True → xΦ X) ∧ xμ X = r) 
    {x0 : Nat} {x1 : Nat} {x2 : Int} (k_x0 : gK (xG X) x0 = 3) (k_x1 : gK (xG X) x1 = 5) (r_x2 : in32 x2) {m0 : qM} (hR_m0 : qR (xG X) m0)
    (h : f_X2_loseOwn N (xG X)  x0 x1 x2 m0 = some r) : qN X 4 0 [(0, .ref x0), (1, .ref x1), (2, .int (iZ x2))] [] m0 := by
  have hT := hX.T
  unfold f_X2_loseOwn at h
  refine qn_iload_n hX (pc := 0) dX2_loseOwn_0 2 rfl rfl ?_
  refine qn_if_eq hX (pc := 1) r_x2 9 dX2_loseOwn_1 (by decide) (fun c1 => ?_) (fun c1 => ?_)
  · have h := ite_t h c1
    refine qn_sub (ls' := [(0, .ref x0), (1, .ref x1)]) [0, 1] rfl ?_
    exact w_X2_loseOwn_9 hX hE  k_x0 k_x1 hR_m0 h
  · have h := ite_f h c1
    refine qn_iload_n hX (pc := 4) dX2_loseOwn_4 2 rfl rfl ?_
    refine qn_iconst hX (pc := 5) dX2_loseOwn_5 ?_
    refine qn_icmp_ne hX (pc := 6) r_x2 (by decide) 40 dX2_loseOwn_6 (by decide) (fun c2 => ?_) (fun c2 => ?_)
    · have h := ite_f h c2
      refine qn_iload_n hX (pc := 40) dX2_loseOwn_40 2 rfl rfl ?_
      refine qn_iconst hX (pc := 41) dX2_loseOwn_41 ?_
      refine qn_icmp_ne hX (pc := 42) r_x2 (by decide) 114 dX2_loseOwn_42 (by decide) (fun c3 => ?_) (fun c3 => ?_)
      · have h := ite_f h c3
        exact qn_vret hX (pc := 114) dX2_loseOwn_114 hE hR_m0 (Option.some.inj h)
      · have h := ite_t h c3
        refine qn_aload_n hX (pc := 45) dX2_loseOwn_45 1 rfl rfl ?_
        refine qn_getI hX (pc := 46) fd_X2_loseOwn_88 dX2_loseOwn_46 k_x1 ?_
        refine qn_aload_n hX (pc := 49) dX2_loseOwn_49 0 rfl rfl ?_
        refine qn_getR hX (pc := 50) fd_X2_loseOwn_42 dX2_loseOwn_50 k_x0 ?_
        refine qn_getI hX (pc := 53) fd_X2_loseOwn_88 dX2_loseOwn_53 (qr_204 hT k_x0) ?_
        obtain ⟨v4, e_v4, h⟩ := kp_e h
        have r_v4 : in32 v4 := by rw [e_v4]; exact in32_min (hR_m0.i 404 _ rfl) (hR_m0.i 404 _ rfl)
        refine qn_min hX (pc := 56) (hR_m0.i 404 _ rfl) (hR_m0.i 404 _ rfl) dX2_loseOwn_56 (by decide +kernel) (by decide +kernel) (by decide +kernel) (by decide +kernel) ⟨rfl, rfl⟩ e_v4 ?_
        refine qn_istore_n hX (pc := 59) (ls' := [(3, .int (iZ v4)), (0, .ref x0), (1, .ref x1), (2, .int (iZ x2))]) dX2_loseOwn_59 rfl rfl rfl ?_
        refine qn_aload_n hX (pc := 60) dX2_loseOwn_60 2 rfl rfl ?_
        refine qn_dup hX (pc := 61) dX2_loseOwn_61 rfl ?_
        refine qn_getI hX (pc := 62) fd_X2_loseOwn_88 dX2_loseOwn_62 k_x1 ?_
        refine qn_iload_n hX (pc := 65) dX2_loseOwn_65 0 rfl rfl ?_
        obtain ⟨v5, e_v5, r_v5, h⟩ := ckI_e h
        refine qn_isub hX (pc := 66) dX2_loseOwn_66 e_v5 ?_
        obtain ⟨m6, e_m6, h⟩ := kp_e h
        refine qn_putI hX (pc := 67) fp_X2_loseOwn_88 dX2_loseOwn_67 k_x1 hR_m0 r_v5 e_m6 (fun hR_m6 => ?_) 
        refine qn_aload_n hX (pc := 70) dX2_loseOwn_70 1 rfl rfl ?_
        refine qn_getR hX (pc := 71) fd_X2_loseOwn_42 dX2_loseOwn_71 k_x0 ?_
        refine qn_dup hX (pc := 74) dX2_loseOwn_74 rfl ?_
        refine qn_getI hX (pc := 75) fd_X2_loseOwn_88 dX2_loseOwn_75 (qr_204 hT k_x0) ?_
        refine qn_iload_n hX (pc := 78) dX2_loseOwn_78 0 rfl rfl ?_
        obtain ⟨v7, e_v7, r_v7, h⟩ := ckI_e h
        refine qn_isub hX (pc := 79) dX2_loseOwn_79 e_v7 ?_
        obtain ⟨m8, e_m8, h⟩ := kp_e h
        refine qn_putI hX (pc := 80) fp_X2_loseOwn_88 dX2_loseOwn_80 (qr_204 hT k_x0) hR_m6 r_v7 e_m8 (fun hR_m8 => ?_) 
        refine qn_aload_n hX (pc := 83) dX2_loseOwn_83 1 rfl rfl ?_
        refine qn_dup hX (pc := 84) dX2_loseOwn_84 rfl ?_
        refine qn_getI hX (pc := 85) fd_X2_loseOwn_73 dX2_loseOwn_85 k_x0 ?_
        refine qn_iload_n hX (pc := 88) dX2_loseOwn_88 0 rfl rfl ?_
        obtain ⟨v9, e_v9, h⟩ := kp_e h
        have r_v9 : in32 v9 := by rw [e_v9]; exact w32_in _
        refine qn_iaddw hX (pc := 89) dX2_loseOwn_89 e_v9 ?_
        obtain ⟨m10, e_m10, h⟩ := kp_e h
        refine qn_putI hX (pc := 90) fp_X2_loseOwn_73 dX2_loseOwn_90 k_x0 hR_m8 r_v9 e_m10 (fun hR_m10 => ?_) 
        refine qn_aload_n hX (pc := 93) dX2_loseOwn_93 1 rfl rfl ?_
        refine qn_dup hX (pc := 94) dX2_loseOwn_94 rfl ?_
        refine qn_getI hX (pc := 95) fd_X2_loseOwn_67 dX2_loseOwn_95 k_x0 ?_
        refine qn_aload_n hX (pc := 98) dX2_loseOwn_98 2 rfl rfl ?_
        refine qn_getI hX (pc := 99) fd_X2_loseOwn_88 dX2_loseOwn_99 k_x1 ?_
        refine qn_if_ne hX (pc := 102) (hR_m10.i 404 _ rfl) 109 dX2_loseOwn_102 (by decide) (fun c11 => ?_) (fun c11 => ?_)
        · have h := ite_f h c11
          refine qn_iconst hX (pc := 109) dX2_loseOwn_109 ?_
          obtain ⟨v12, e_v12, h⟩ := kp_e h
          have r_v12 : in32 v12 := by rw [e_v12]; exact w32_in _
          refine qn_iaddw hX (pc := 110) dX2_loseOwn_110 e_v12 ?_
          obtain ⟨m13, e_m13, h⟩ := kp_e h
          refine qn_putI hX (pc := 111) fp_X2_loseOwn_67 dX2_loseOwn_111 k_x0 hR_m10 r_v12 e_m13 (fun hR_m13 => ?_) 
          exact qn_vret hX (pc := 114) dX2_loseOwn_114 hE hR_m13 (Option.some.inj h)
        · have h := ite_t h c11
          refine qn_iconst hX (pc := 105) dX2_loseOwn_105 ?_
          refine qn_goto hX (pc := 106) 110 dX2_loseOwn_106 (by decide) ?_
          obtain ⟨v14, e_v14, h⟩ := kp_e h
          have r_v14 : in32 v14 := by rw [e_v14]; exact w32_in _
          refine qn_iaddw hX (pc := 110) dX2_loseOwn_110 e_v14 ?_
          obtain ⟨m15, e_m15, h⟩ := kp_e h
          refine qn_putI hX (pc := 111) fp_X2_loseOwn_67 dX2_loseOwn_111 k_x0 hR_m10 r_v14 e_m15 (fun hR_m15 => ?_) 
          exact qn_vret hX (pc := 114) dX2_loseOwn_114 hE hR_m15 (Option.some.inj h)
    · have h := ite_t h c2
      refine qn_sub (ls' := [(0, .ref x0), (1, .ref x1)]) [0, 1] rfl ?_
      exact w_X2_loseOwn_9 hX hE  k_x0 k_x1 hR_m0 h
theorem k_X2_loseOwn (l : Launch) {G : qG} (hT : qT G) {N : Nat} {x0 : Nat} {x1 : Nat} {x2 : Int} (k_x0 : gK G x0 = 3) (k_x1 : gK G x1 = 5) (r_x2 : in32 x2) {m0 : qM} {r : qM} (h : f_X2_loseOwn N G x0 x1 x2 m0 = some r) : qC l yX2_loseOwn wsX2_loseOwn 1 24 G [.ref x0, .ref x1, .int (iZ x2)] m0 none True r := by
  refine qn_start (hy := by decide) hT (hw := rfl) (hn := Nat.le_of_ble_eq_true rfl) ?_
  intro X h1 h2 h3 h4 hX hR
  subst h4
  exact w_X2_loseOwn hX ⟨h1, fun q => h2 ▸ q, h3⟩ k_x0 k_x1 r_x2 hR h
theorem dd_X2_loseOwn : yX2_loseOwn.cls = RX2 ∧ yX2_loseOwn.cls ≠ "java/lang/invoke/MethodHandle" ∧ yX2_loseOwn.cls ≠ "java/lang/invoke/VarHandle" ∧ (parseMethodDescriptor yX2_loseOwn.desc).map (fun d => d.parameters.length) = some 2 := by decide +kernel
-- ProRataMarket$Floor.preventSelf
theorem hi_X2_preventSelf_2 : ∀ w ∈ wsX20, w ∈ wsX2_preventSelf := fun w h => List.mem_cons_of_mem _ (List.mem_append_left _ (List.mem_append_left _ (List.mem_append_right _ h)))
theorem fd_X2_preventSelf_12 : qFd RX2 wsX2_preventSelf 12 2 0 1 200 := ⟨RX2, TX2, 12, _, rfl, hi_X2_preventSelf_2, by decide, (by decide +kernel : Cond.fieldLink RX2 12 (TX2 0).1 (TX2 0).2.1 (TX2 0).2.2.1 ∈ wsX2_preventSelf), rfl, rfl, by decide⟩
theorem fd_X2_preventSelf_42 : qFd RX2 wsX2_preventSelf 42 2 4 1 204 := ⟨RX2, TX2, 12, _, rfl, hi_X2_preventSelf_2, by decide, (by decide +kernel : Cond.fieldLink RX2 42 (TX2 4).1 (TX2 4).2.1 (TX2 4).2.2.1 ∈ wsX2_preventSelf), rfl, rfl, by decide⟩
theorem hi_X2_preventSelf_4 : ∀ w ∈ wsX40, w ∈ wsX2_preventSelf := fun w h => List.mem_cons_of_mem _ (List.mem_append_right _ h)
theorem fp_X2_preventSelf_88 : qFp RX2 wsX2_preventSelf 88 4 4 0 404 .int := ⟨RX4, TX4, 6, _, tyX4, rfl, hi_X2_preventSelf_4, by decide, (by decide +kernel : Cond.fieldLink RX2 88 (TX4 4).1 (TX4 4).2.1 (TX4 4).2.2.1 ∈ wsX2_preventSelf), rfl, rfl, by decide, tyX4_ok, nmX4, rfl, by decide +kernel⟩
theorem hi_X2_preventSelf_0 : ∀ w ∈ wsX00, w ∈ wsX2_preventSelf := fun w h => List.mem_cons_of_mem _ (List.mem_append_left _ (List.mem_append_right _ h))
theorem fd_X2_preventSelf_127 : qFd RX2 wsX2_preventSelf 127 0 1 0 1 := ⟨RX0, TX0, 4, _, rfl, hi_X2_preventSelf_0, by decide, (by decide +kernel : Cond.fieldLink RX2 127 (TX0 1).1 (TX0 1).2.1 (TX0 1).2.2.1 ∈ wsX2_preventSelf), rfl, rfl, by decide⟩
theorem fd_X2_preventSelf_130 : qFd RX2 wsX2_preventSelf 130 0 0 1 0 := ⟨RX0, TX0, 4, _, rfl, hi_X2_preventSelf_0, by decide, (by decide +kernel : Cond.fieldLink RX2 130 (TX0 0).1 (TX0 0).2.1 (TX0 0).2.2.1 ∈ wsX2_preventSelf), rfl, rfl, by decide⟩
theorem fd_X2_preventSelf_137 : qFd RX2 wsX2_preventSelf 137 4 1 0 401 := ⟨RX4, TX4, 6, _, rfl, hi_X2_preventSelf_4, by decide, (by decide +kernel : Cond.fieldLink RX2 137 (TX4 1).1 (TX4 1).2.1 (TX4 1).2.2.1 ∈ wsX2_preventSelf), rfl, rfl, by decide⟩
set_option maxHeartbeats 4000000 in
set_option maxRecDepth 20000 in
theorem w_X2_preventSelf_98 {X : qB} {N : Nat} (hX : qOk X cX2_preventSelf RX2 7 none wsX2_preventSelf 2 47) {r : qM} (hE : xr X = none ∧ (True → xΦ X) ∧ xμ X = r) 
    {x0 : Nat} (k_x0 : gK (xG X) x0 = 3) {m0 : qM} (hR_m0 : qR (xG X) m0)
    (h : f_X2_preventSelf_98 N (xG X)  x0 m0 = some r) : qN X 7 98 [(0, .ref x0)] [] m0 := by
  have hT := hX.T
  unfold f_X2_preventSelf_98 at h
  refine qn_aload_n hX (pc := 98) dX2_preventSelf_98 0 rfl rfl ?_
  refine qn_getR hX (pc := 99) fd_X2_preventSelf_12 dX2_preventSelf_99 k_x0 ?_
  obtain ⟨m1, e_m1, h⟩ := kb_e h
  refine qn_callVv hX (pc := 102) [] [] 0 dX2_preventSelf_102 gX2_preventSelf_X0_sweep rfl dd_X0_sweep ⟨rfl, rfl⟩ rfl rfl (by decide) (qr_200 hT k_x0) rfl rfl hR_m0 (k_X0_sweep (xl X) hT (qr_200 hT k_x0) e_m1) (fun r_v2 hR_m1 => ?_)
  exact qn_vret hX (pc := 105) dX2_preventSelf_105 hE hR_m1 (Option.some.inj h)
set_option maxHeartbeats 4000000 in
set_option maxRecDepth 20000 in
theorem w_X2_preventSelf_90 {X : qB} {N : Nat} (hX : qOk X cX2_preventSelf RX2 7 none wsX2_preventSelf 2 47) {r : qM} (hE : xr X = none ∧ (True → xΦ X) ∧ xμ X = r) 
    {x0 : Nat} (k_x0 : gK (xG X) x0 = 3) {m0 : qM} (hR_m0 : qR (xG X) m0)
    (h : f_X2_preventSelf_90 N (xG X)  x0 m0 = some r) : qN X 7 90 [(0, .ref x0)] [] m0 := by
  have hT := hX.T
  unfold f_X2_preventSelf_90 at h
  refine qn_aload_n hX (pc := 90) dX2_preventSelf_90 0 rfl rfl ?_
  refine qn_getR hX (pc := 91) fd_X2_preventSelf_42 dX2_preventSelf_91 k_x0 ?_
  refine qn_iconst hX (pc := 94) dX2_preventSelf_94 ?_
  obtain ⟨m1, e_m1, h⟩ := kp_e h
  refine qn_putI hX (pc := 95) fp_X2_preventSelf_88 dX2_preventSelf_95 (qr_204 hT k_x0) hR_m0 (show in32 0 by decide) e_m1 (fun hR_m1 => ?_) 
  refine qn_sub (ls' := [(0, .ref x0)]) [0] rfl ?_
  exact w_X2_preventSelf_98 hX hE  k_x0 hR_m1 h
set_option maxHeartbeats 4000000 in
set_option maxRecDepth 20000 in
theorem w_X2_preventSelf_69 {X : qB} {N : Nat} (hX : qOk X cX2_preventSelf RX2 7 none wsX2_preventSelf 2 47) {r : qM} (hE : xr X = none ∧ (True → xΦ X) ∧ xμ X = r) {k6 : (Nat → Int → Int → Int → Int → Int → qM → Option (qM))} (hk6 : ∀ (x0 : Nat) (x1 : Int) (x2 : Int) (x3 : Int) (x4 : Int) (x5 : Int) (m0 : qM), gK (xG X) x0 = 3 → in32 x1 → in32 x2 → in32 x3 → in01 x4 → in32 x5 → qR (xG X) m0 → k6 x0 x1 x2 x3 x4 x5 m0 = some r → qN X 7 6 [(0, .ref x0), (1, .int (iZ x1)), (2, .int (iZ x2)), (3, .int (iZ x3)), (4, .int (iZ x4)), (5, .int (iZ x5))] [] m0)
    {x0 : Nat} {x1 : Int} {x2 : Int} {x3 : Int} {x4 : Int} {x5 : Int} (k_x0 : gK (xG X) x0 = 3) (r_x1 : in32 x1) (r_x2 : in32 x2) (r_x3 : in32 x3) (b_x4 : in01 x4) (r_x5 : in32 x5) {m0 : qM} (hR_m0 : qR (xG X) m0)
    (h : f_X2_preventSelf_69 N (xG X) k6 x0 x1 x2 x3 x4 x5 m0 = some r) : qN X 7 69 [(0, .ref x0), (1, .int (iZ x1)), (2, .int (iZ x2)), (3, .int (iZ x3)), (4, .int (iZ x4)), (5, .int (iZ x5))] [] m0 := by
  have hT := hX.T
  unfold f_X2_preventSelf_69 at h
  obtain ⟨v1, e_v1, r_v1, h⟩ := ckI_e h
  refine qn_iinc hX (pc := 69) (ls' := [(5, .int (iZ v1)), (0, .ref x0), (1, .int (iZ x1)), (2, .int (iZ x2)), (3, .int (iZ x3)), (4, .int (iZ x4))]) dX2_preventSelf_69 5 rfl e_v1 rfl rfl ?_
  refine qn_goto hX (pc := 72) 6 dX2_preventSelf_72 (by decide) ?_
  refine qn_sub (ls' := [(0, .ref x0), (1, .int (iZ x1)), (2, .int (iZ x2)), (3, .int (iZ x3)), (4, .int (iZ x4)), (5, .int (iZ v1))]) [1, 2, 3, 4, 5, 0] rfl ?_
  exact hk6 x0 x1 x2 x3 x4 v1 m0 k_x0 r_x1 r_x2 r_x3 b_x4 r_v1 hR_m0 h
set_option maxHeartbeats 4000000 in
set_option maxRecDepth 20000 in
theorem w_X2_preventSelf_6 {X : qB} {N : Nat} (hX : qOk X cX2_preventSelf RX2 7 none wsX2_preventSelf 2 47) {r : qM} (hE : xr X = none ∧ (True → xΦ X) ∧ xμ X = r) {k6 : (Nat → Int → Int → Int → Int → Int → qM → Option (qM))} (hk6 : ∀ (x0 : Nat) (x1 : Int) (x2 : Int) (x3 : Int) (x4 : Int) (x5 : Int) (m0 : qM), gK (xG X) x0 = 3 → in32 x1 → in32 x2 → in32 x3 → in01 x4 → in32 x5 → qR (xG X) m0 → k6 x0 x1 x2 x3 x4 x5 m0 = some r → qN X 7 6 [(0, .ref x0), (1, .int (iZ x1)), (2, .int (iZ x2)), (3, .int (iZ x3)), (4, .int (iZ x4)), (5, .int (iZ x5))] [] m0)
    {x0 : Nat} {x1 : Int} {x2 : Int} {x3 : Int} {x4 : Int} {x5 : Int} (k_x0 : gK (xG X) x0 = 3) (r_x1 : in32 x1) (r_x2 : in32 x2) (r_x3 : in32 x3) (b_x4 : in01 x4) (r_x5 : in32 x5) {m0 : qM} (hR_m0 : qR (xG X) m0)
    (h : f_X2_preventSelf_6 N (xG X) k6 x0 x1 x2 x3 x4 x5 m0 = some r) : qN X 7 6 [(0, .ref x0), (1, .int (iZ x1)), (2, .int (iZ x2)), (3, .int (iZ x3)), (4, .int (iZ x4)), (5, .int (iZ x5))] [] m0 := by
  have hT := hX.T
  unfold f_X2_preventSelf_6 at h
  refine qn_iload hX (pc := 6) dX2_preventSelf_6 5 rfl ?_
  refine qn_aload_n hX (pc := 8) dX2_preventSelf_8 0 rfl rfl ?_
  refine qn_getR hX (pc := 9) fd_X2_preventSelf_12 dX2_preventSelf_9 k_x0 ?_
  refine qn_getI hX (pc := 12) fd_X2_preventSelf_127 dX2_preventSelf_12 (qr_200 hT k_x0) ?_
  refine qn_icmp_ge hX (pc := 15) r_x5 (hR_m0.i 1 _ rfl) 75 dX2_preventSelf_15 (by decide) (fun c1 => ?_) (fun c1 => ?_)
  · have h := ite_f h c1
    refine qn_iload hX (pc := 75) dX2_preventSelf_75 4 rfl ?_
    refine qn_if_eq hX (pc := 77) b_x4.i 98 dX2_preventSelf_77 (by decide) (fun c2 => ?_) (fun c2 => ?_)
    · have h := ite_t h c2
      refine qn_sub (ls' := [(0, .ref x0)]) [0] rfl ?_
      exact w_X2_preventSelf_98 hX hE  k_x0 hR_m0 h
    · have h := ite_f h c2
      refine qn_iload_n hX (pc := 80) dX2_preventSelf_80 3 rfl rfl ?_
      refine qn_iconst hX (pc := 81) dX2_preventSelf_81 ?_
      refine qn_icmp_eq hX (pc := 82) r_x3 (by decide) 90 dX2_preventSelf_82 (by decide) (fun c3 => ?_) (fun c3 => ?_)
      · have h := ite_t h c3
        refine qn_sub (ls' := [(0, .ref x0)]) [0] rfl ?_
        exact w_X2_preventSelf_90 hX hE  k_x0 hR_m0 h
      · have h := ite_f h c3
        refine qn_iload_n hX (pc := 85) dX2_preventSelf_85 3 rfl rfl ?_
        refine qn_iconst hX (pc := 86) dX2_preventSelf_86 ?_
        refine qn_icmp_ne hX (pc := 87) r_x3 (by decide) 98 dX2_preventSelf_87 (by decide) (fun c4 => ?_) (fun c4 => ?_)
        · have h := ite_f h c4
          refine qn_sub (ls' := [(0, .ref x0)]) [0] rfl ?_
          exact w_X2_preventSelf_98 hX hE  k_x0 hR_m0 h
        · have h := ite_t h c4
          refine qn_sub (ls' := [(0, .ref x0)]) [0] rfl ?_
          exact w_X2_preventSelf_90 hX hE  k_x0 hR_m0 h
  · have h := ite_t h c1
    refine qn_aload_n hX (pc := 18) dX2_preventSelf_18 0 rfl rfl ?_
    refine qn_getR hX (pc := 19) fd_X2_preventSelf_12 dX2_preventSelf_19 k_x0 ?_
    refine qn_getR hX (pc := 22) fd_X2_preventSelf_130 dX2_preventSelf_22 (qr_200 hT k_x0) ?_
    refine qn_iload hX (pc := 25) dX2_preventSelf_25 5 rfl ?_
    obtain ⟨o5, e_o5, b_o5, k_o5, h⟩ := rdQ_e h
    refine qn_aaldO hX (pc := 27) 60 dX2_preventSelf_27 (qr_0 hT (qr_200 hT k_x0)) (by decide) b_o5 e_o5 ?_
    refine qn_astore hX (pc := 28) (ls' := [(6, .ref o5), (0, .ref x0), (1, .int (iZ x1)), (2, .int (iZ x2)), (3, .int (iZ x3)), (4, .int (iZ x4)), (5, .int (iZ x5))]) dX2_preventSelf_28 rfl rfl ?_
    refine qn_aload_n hX (pc := 30) dX2_preventSelf_30 1 rfl rfl ?_
    refine qn_getR hX (pc := 31) fd_X2_preventSelf_12 dX2_preventSelf_31 k_x0 ?_
    refine qn_iload hX (pc := 34) dX2_preventSelf_34 6 rfl ?_
    refine qn_iload_n hX (pc := 36) dX2_preventSelf_36 2 rfl rfl ?_
    refine qn_iload_n hX (pc := 37) dX2_preventSelf_37 3 rfl rfl ?_
    obtain ⟨v7, m6, e_m6, h⟩ := kb2_e h
    refine qn_callVi hX (pc := 38) [.int (iZ x5), .int (iZ x1), .int (iZ x2)] [.int (iZ x2), .int (iZ x1), .int (iZ x5)] 3 dX2_preventSelf_38 gX2_preventSelf_X0_isAt rfl dd_X0_isAt ⟨rfl, rfl⟩ rfl rfl (by decide) (qr_200 hT k_x0) rfl rfl hR_m0 (k_X0_isAt (xl X) hT (qr_200 hT k_x0) r_x5 r_x1 r_x2 e_m6) (fun r_v7 hR_m6 => ?_)
    refine qn_if_eq hX (pc := 41) r_v7.i 69 dX2_preventSelf_41 (by decide) (fun c8 => ?_) (fun c8 => ?_)
    · have h := ite_t h c8
      refine qn_sub (ls' := [(0, .ref x0), (1, .int (iZ x1)), (2, .int (iZ x2)), (3, .int (iZ x3)), (4, .int (iZ x4)), (5, .int (iZ x5))]) [1, 2, 3, 4, 5, 6] rfl ?_
      exact w_X2_preventSelf_69 hX hE hk6 k_x0 r_x1 r_x2 r_x3 b_x4 r_x5 hR_m6 h
    · have h := ite_f h c8
      refine qn_aload hX (pc := 44) dX2_preventSelf_44 0 rfl ?_
      refine qn_getI hX (pc := 46) fd_X2_preventSelf_137 dX2_preventSelf_46 k_o5 ?_
      refine qn_aload_n hX (pc := 49) dX2_preventSelf_49 1 rfl rfl ?_
      refine qn_getR hX (pc := 50) fd_X2_preventSelf_42 dX2_preventSelf_50 k_x0 ?_
      refine qn_getI hX (pc := 53) fd_X2_preventSelf_137 dX2_preventSelf_53 (qr_204 hT k_x0) ?_
      refine qn_icmp_ne hX (pc := 56) (hR_m6.i 401 _ rfl) (hR_m6.i 401 _ rfl) 69 dX2_preventSelf_56 (by decide) (fun c9 => ?_) (fun c9 => ?_)
      · have h := ite_f h c9
        refine qn_sub (ls' := [(0, .ref x0), (1, .int (iZ x1)), (2, .int (iZ x2)), (3, .int (iZ x3)), (4, .int (iZ x4)), (5, .int (iZ x5))]) [1, 2, 3, 4, 5, 6] rfl ?_
        exact w_X2_preventSelf_69 hX hE hk6 k_x0 r_x1 r_x2 r_x3 b_x4 r_x5 hR_m6 h
      · have h := ite_t h c9
        refine qn_iconst hX (pc := 59) dX2_preventSelf_59 ?_
        refine qn_istore hX (pc := 60) (ls' := [(4, .int (iZ 1)), (6, .ref o5), (0, .ref x0), (1, .int (iZ x1)), (2, .int (iZ x2)), (3, .int (iZ x3)), (5, .int (iZ x5))]) dX2_preventSelf_60 rfl rfl ?_
        refine qn_aload_n hX (pc := 62) dX2_preventSelf_62 2 rfl rfl ?_
        refine qn_aload hX (pc := 63) dX2_preventSelf_63 1 rfl ?_
        refine qn_iload_n hX (pc := 65) dX2_preventSelf_65 5 rfl rfl ?_
        obtain ⟨m10, e_m10, h⟩ := kb_e h
        refine qn_callVv hX (pc := 66) [.ref o5, .int (iZ x3)] [.int (iZ x3), .ref o5] 2 dX2_preventSelf_66 gX2_preventSelf_X2_loseOwn rfl dd_X2_loseOwn ⟨rfl, rfl⟩ rfl rfl (by decide) k_x0 rfl rfl hR_m6 (k_X2_loseOwn (xl X) hT k_x0 k_o5 r_x3 e_m10) (fun r_v11 hR_m10 => ?_)
        refine qn_sub (ls' := [(0, .ref x0), (1, .int (iZ x1)), (2, .int (iZ x2)), (3, .int (iZ x3)), (4, .int (iZ 1)), (5, .int (iZ x5))]) [2, 3, 4, 5, 0, 6] rfl ?_
        exact w_X2_preventSelf_69 hX hE hk6 k_x0 r_x1 r_x2 r_x3 (by decide) r_x5 hR_m10 h
set_option maxHeartbeats 4000000 in
set_option maxRecDepth 20000 in
theorem w_X2_preventSelf_L6 {X : qB} {N : Nat} (hX : qOk X cX2_preventSelf RX2 7 none wsX2_preventSelf 2 47) {r : qM} (hE : xr X = none ∧ (True → xΦ X) ∧ xμ X = r) 
    {x0 : Nat} {x1 : Int} {x2 : Int} {x3 : Int} {x4 : Int} {x5 : Int} (k_x0 : gK (xG X) x0 = 3) (r_x1 : in32 x1) (r_x2 : in32 x2) (r_x3 : in32 x3) (b_x4 : in01 x4) (r_x5 : in32 x5) {m0 : qM} (hR_m0 : qR (xG X) m0)
    (h : f_X2_preventSelf_L6 N (xG X)  x0 x1 x2 x3 x4 x5 m0 = some r) : qN X 7 6 [(0, .ref x0), (1, .int (iZ x1)), (2, .int (iZ x2)), (3, .int (iZ x3)), (4, .int (iZ x4)), (5, .int (iZ x5))] [] m0 := by
  unfold f_X2_preventSelf_L6 at h
  exact qLoop_w (σ := Nat × Int × Int × Int × Int × Int × qM) (P := fun p => gK (xG X) p.1 = 3 ∧ in32 p.2.1 ∧ in32 p.2.2.1 ∧ in32 p.2.2.2.1 ∧ in01 p.2.2.2.2.1 ∧ in32 p.2.2.2.2.2.1 ∧ qR (xG X) p.2.2.2.2.2.2) (Q := fun p => qN X 7 6 [(0, .ref p.1), (1, .int (iZ p.2.1)), (2, .int (iZ p.2.2.1)), (3, .int (iZ p.2.2.2.1)), (4, .int (iZ p.2.2.2.2.1)), (5, .int (iZ p.2.2.2.2.2.1))] [] p.2.2.2.2.2.2) (fun k hrec p hp hh => w_X2_preventSelf_6 hX hE (fun x0 x1 x2 x3 x4 x5 m0 q0 q1 q2 q3 q4 q5 hRm hh => hrec (x0, x1, x2, x3, x4, x5, m0) ⟨q0, q1, q2, q3, q4, q5, hRm⟩ hh) hp.1 hp.2.1 hp.2.2.1 hp.2.2.2.1 hp.2.2.2.2.1 hp.2.2.2.2.2.1 hp.2.2.2.2.2.2 hh) N (x0, x1, x2, x3, x4, x5, m0) ⟨k_x0, r_x1, r_x2, r_x3, b_x4, r_x5, hR_m0⟩ h
set_option maxHeartbeats 4000000 in
set_option maxRecDepth 20000 in
theorem w_X2_preventSelf {X : qB} {N : Nat} (hX : qOk X cX2_preventSelf RX2 7 none wsX2_preventSelf 2 47) {r : qM} (hE : xr X = none ∧ (True → xΦ X) ∧ xμ X = r) 
    {x0 : Nat} {x1 : Int} {x2 : Int} {x3 : Int} (k_x0 : gK (xG X) x0 = 3) (r_x1 : in32 x1) (r_x2 : in32 x2) (r_x3 : in32 x3) {m0 : qM} (hR_m0 : qR (xG X) m0)
    (h : f_X2_preventSelf N (xG X)  x0 x1 x2 x3 m0 = some r) : qN X 7 0 [(0, .ref x0), (1, .int (iZ x1)), (2, .int (iZ x2)), (3, .int (iZ x3))] [] m0 := by
  have hT := hX.T
  unfold f_X2_preventSelf at h
  refine qn_iconst hX (pc := 0) dX2_preventSelf_0 ?_
  refine qn_istore hX (pc := 1) (ls' := [(4, .int (iZ 0)), (0, .ref x0), (1, .int (iZ x1)), (2, .int (iZ x2)), (3, .int (iZ x3))]) dX2_preventSelf_1 rfl rfl ?_
  refine qn_iconst hX (pc := 3) dX2_preventSelf_3 ?_
  refine qn_istore hX (pc := 4) (ls' := [(5, .int (iZ 0)), (4, .int (iZ 0)), (0, .ref x0), (1, .int (iZ x1)), (2, .int (iZ x2)), (3, .int (iZ x3))]) dX2_preventSelf_4 rfl rfl ?_
  refine qn_sub (ls' := [(0, .ref x0), (1, .int (iZ x1)), (2, .int (iZ x2)), (3, .int (iZ x3)), (4, .int (iZ 0)), (5, .int (iZ 0))]) [2, 3, 4, 5, 1, 0] rfl ?_
  exact w_X2_preventSelf_L6 hX hE  k_x0 r_x1 r_x2 r_x3 (by decide) (by decide) hR_m0 h
theorem k_X2_preventSelf (l : Launch) {G : qG} (hT : qT G) {N : Nat} {x0 : Nat} {x1 : Int} {x2 : Int} {x3 : Int} (k_x0 : gK G x0 = 3) (r_x1 : in32 x1) (r_x2 : in32 x2) (r_x3 : in32 x3) {m0 : qM} {r : qM} (h : f_X2_preventSelf N G x0 x1 x2 x3 m0 = some r) : qC l yX2_preventSelf wsX2_preventSelf 2 47 G [.ref x0, .int (iZ x1), .int (iZ x2), .int (iZ x3)] m0 none True r := by
  refine qn_start (hy := by decide) hT (hw := rfl) (hn := Nat.le_of_ble_eq_true rfl) ?_
  intro X h1 h2 h3 h4 hX hR
  subst h4
  exact w_X2_preventSelf hX ⟨h1, fun q => h2 ▸ q, h3⟩ k_x0 r_x1 r_x2 r_x3 hR h
theorem dd_X2_preventSelf : yX2_preventSelf.cls = RX2 ∧ yX2_preventSelf.cls ≠ "java/lang/invoke/MethodHandle" ∧ yX2_preventSelf.cls ≠ "java/lang/invoke/VarHandle" ∧ (parseMethodDescriptor yX2_preventSelf.desc).map (fun d => d.parameters.length) = some 3 := by decide +kernel
-- ProRataMarket$Floor.takeAt
theorem hi_X2_takeAt_2 : ∀ w ∈ wsX20, w ∈ wsX2_takeAt := fun w h => List.mem_cons_of_mem _ (List.mem_append_left _ (List.mem_append_left _ (List.mem_append_left _ (List.mem_append_left _ (List.mem_append_right _ h)))))
theorem fd_X2_takeAt_28 : qFd RX2 wsX2_takeAt 28 2 2 1 202 := ⟨RX2, TX2, 12, _, rfl, hi_X2_takeAt_2, by decide, (by decide +kernel : Cond.fieldLink RX2 28 (TX2 2).1 (TX2 2).2.1 (TX2 2).2.2.1 ∈ wsX2_takeAt), rfl, rfl, by decide⟩
theorem fd_X2_takeAt_12 : qFd RX2 wsX2_takeAt 12 2 0 1 200 := ⟨RX2, TX2, 12, _, rfl, hi_X2_takeAt_2, by decide, (by decide +kernel : Cond.fieldLink RX2 12 (TX2 0).1 (TX2 0).2.1 (TX2 0).2.2.1 ∈ wsX2_takeAt), rfl, rfl, by decide⟩
theorem fd_X2_takeAt_42 : qFd RX2 wsX2_takeAt 42 2 4 1 204 := ⟨RX2, TX2, 12, _, rfl, hi_X2_takeAt_2, by decide, (by decide +kernel : Cond.fieldLink RX2 42 (TX2 4).1 (TX2 4).2.1 (TX2 4).2.2.1 ∈ wsX2_takeAt), rfl, rfl, by decide⟩
theorem hi_X2_takeAt_4 : ∀ w ∈ wsX40, w ∈ wsX2_takeAt := fun w h => List.mem_cons_of_mem _ (List.mem_append_left _ (List.mem_append_left _ (List.mem_append_left _ (List.mem_append_right _ h))))
theorem fd_X2_takeAt_88 : qFd RX2 wsX2_takeAt 88 4 4 0 404 := ⟨RX4, TX4, 6, _, rfl, hi_X2_takeAt_4, by decide, (by decide +kernel : Cond.fieldLink RX2 88 (TX4 4).1 (TX4 4).2.1 (TX4 4).2.2.1 ∈ wsX2_takeAt), rfl, rfl, by decide⟩
theorem hi_X2_takeAt_5 : ∀ w ∈ wsX50, w ∈ wsX2_takeAt := fun w h => List.mem_cons_of_mem _ (List.mem_append_left _ (List.mem_append_left _ (List.mem_append_right _ h)))
theorem fd_X2_takeAt_156 : qFd RX2 wsX2_takeAt 156 5 7 0 507 := ⟨RX5, TX5, 8, _, rfl, hi_X2_takeAt_5, by decide, (by decide +kernel : Cond.fieldLink RX2 156 (TX5 7).1 (TX5 7).2.1 (TX5 7).2.2.1 ∈ wsX2_takeAt), rfl, rfl, by decide⟩
theorem fd_X2_takeAt_50 : qFd RX2 wsX2_takeAt 50 2 6 0 206 := ⟨RX2, TX2, 12, _, rfl, hi_X2_takeAt_2, by decide, (by decide +kernel : Cond.fieldLink RX2 50 (TX2 6).1 (TX2 6).2.1 (TX2 6).2.2.1 ∈ wsX2_takeAt), rfl, rfl, by decide⟩
theorem fd_X2_takeAt_162 : qFd RX2 wsX2_takeAt 162 5 3 1 503 := ⟨RX5, TX5, 8, _, rfl, hi_X2_takeAt_5, by decide, (by decide +kernel : Cond.fieldLink RX2 162 (TX5 3).1 (TX5 3).2.1 (TX5 3).2.2.1 ∈ wsX2_takeAt), rfl, rfl, by decide⟩
theorem fd_X2_takeAt_166 : qFd RX2 wsX2_takeAt 166 4 0 0 400 := ⟨RX4, TX4, 6, _, rfl, hi_X2_takeAt_4, by decide, (by decide +kernel : Cond.fieldLink RX2 166 (TX4 0).1 (TX4 0).2.1 (TX4 0).2.2.1 ∈ wsX2_takeAt), rfl, rfl, by decide⟩
theorem fd_X2_takeAt_173 : qFd RX2 wsX2_takeAt 173 5 4 1 504 := ⟨RX5, TX5, 8, _, rfl, hi_X2_takeAt_5, by decide, (by decide +kernel : Cond.fieldLink RX2 173 (TX5 4).1 (TX5 4).2.1 (TX5 4).2.2.1 ∈ wsX2_takeAt), rfl, rfl, by decide⟩
theorem fd_X2_takeAt_176 : qFd RX2 wsX2_takeAt 176 5 5 1 505 := ⟨RX5, TX5, 8, _, rfl, hi_X2_takeAt_5, by decide, (by decide +kernel : Cond.fieldLink RX2 176 (TX5 5).1 (TX5 5).2.1 (TX5 5).2.2.1 ∈ wsX2_takeAt), rfl, rfl, by decide⟩
theorem fd_X2_takeAt_21 : qFd RX2 wsX2_takeAt 21 2 1 1 201 := ⟨RX2, TX2, 12, _, rfl, hi_X2_takeAt_2, by decide, (by decide +kernel : Cond.fieldLink RX2 21 (TX2 1).1 (TX2 1).2.1 (TX2 1).2.2.1 ∈ wsX2_takeAt), rfl, rfl, by decide⟩
theorem fd_X2_takeAt_137 : qFd RX2 wsX2_takeAt 137 4 1 0 401 := ⟨RX4, TX4, 6, _, rfl, hi_X2_takeAt_4, by decide, (by decide +kernel : Cond.fieldLink RX2 137 (TX4 1).1 (TX4 1).2.1 (TX4 1).2.2.1 ∈ wsX2_takeAt), rfl, rfl, by decide⟩
theorem fd_X2_takeAt_94 : qFd RX2 wsX2_takeAt 94 4 2 0 402 := ⟨RX4, TX4, 6, _, rfl, hi_X2_takeAt_4, by decide, (by decide +kernel : Cond.fieldLink RX2 94 (TX4 2).1 (TX4 2).2.1 (TX4 2).2.2.1 ∈ wsX2_takeAt), rfl, rfl, by decide⟩
theorem hi_X2_takeAt_3 : ∀ w ∈ wsX30, w ∈ wsX2_takeAt := fun w h => List.mem_cons_of_mem _ (List.mem_append_left _ (List.mem_append_right _ h))
theorem fd_X2_takeAt_183 : qFd RX2 wsX2_takeAt 183 3 4 0 304 := ⟨RX3, TX3, 7, _, rfl, hi_X2_takeAt_3, by decide, (by decide +kernel : Cond.fieldLink RX2 183 (TX3 4).1 (TX3 4).2.1 (TX3 4).2.2.1 ∈ wsX2_takeAt), rfl, rfl, by decide⟩
theorem fp_X2_takeAt_183 : qFp RX2 wsX2_takeAt 183 3 4 0 304 .int := ⟨RX3, TX3, 7, _, tyX3, rfl, hi_X2_takeAt_3, by decide, (by decide +kernel : Cond.fieldLink RX2 183 (TX3 4).1 (TX3 4).2.1 (TX3 4).2.2.1 ∈ wsX2_takeAt), rfl, rfl, by decide, tyX3_ok, nmX3, rfl, by decide +kernel⟩
theorem fp_X2_takeAt_88 : qFp RX2 wsX2_takeAt 88 4 4 0 404 .int := ⟨RX4, TX4, 6, _, tyX4, rfl, hi_X2_takeAt_4, by decide, (by decide +kernel : Cond.fieldLink RX2 88 (TX4 4).1 (TX4 4).2.1 (TX4 4).2.2.1 ∈ wsX2_takeAt), rfl, rfl, by decide, tyX4_ok, nmX4, rfl, by decide +kernel⟩
set_option maxHeartbeats 4000000 in
set_option maxRecDepth 20000 in
theorem w_X2_takeAt {X : qB} {N : Nat} (hX : qOk X cX2_takeAt RX2 4 none wsX2_takeAt 3 76) {r : qM} (hE : xr X = none ∧ (True → xΦ X) ∧ xμ X = r) 
    {x0 : Nat} {x1 : Int} {x2 : Int} (k_x0 : gK (xG X) x0 = 3) (r_x1 : in32 x1) (r_x2 : in32 x2) {m0 : qM} (hR_m0 : qR (xG X) m0)
    (h : f_X2_takeAt N (xG X)  x0 x1 x2 m0 = some r) : qN X 4 0 [(0, .ref x0), (1, .int (iZ x1)), (2, .int (iZ x2))] [] m0 := by
  have hT := hX.T
  unfold f_X2_takeAt at h
  refine qn_aload_n hX (pc := 0) dX2_takeAt_0 0 rfl rfl ?_
  refine qn_getR hX (pc := 1) fd_X2_takeAt_28 dX2_takeAt_1 k_x0 ?_
  refine qn_aload_n hX (pc := 4) dX2_takeAt_4 0 rfl rfl ?_
  refine qn_getR hX (pc := 5) fd_X2_takeAt_12 dX2_takeAt_5 k_x0 ?_
  refine qn_iload_n hX (pc := 8) dX2_takeAt_8 1 rfl rfl ?_
  refine qn_iload_n hX (pc := 9) dX2_takeAt_9 2 rfl rfl ?_
  obtain ⟨m1, e_m1, h⟩ := kb_e h
  refine qn_callVv hX (pc := 10) [.ref (gR (xG X) 200 x0), .int (iZ x1), .int (iZ x2)] [.int (iZ x2), .int (iZ x1), .ref (gR (xG X) 200 x0)] 3 dX2_takeAt_10 gX2_takeAt_X5_load rfl dd_X5_load ⟨rfl, rfl⟩ rfl rfl (by decide) (qr_202 hT k_x0) rfl rfl hR_m0 (k_X5_load (xl X) hT (qr_202 hT k_x0) (qr_200 hT k_x0) r_x1 r_x2 e_m1) (fun r_v2 hR_m1 => ?_)
  refine qn_aload_n hX (pc := 13) dX2_takeAt_13 0 rfl rfl ?_
  refine qn_getR hX (pc := 14) fd_X2_takeAt_42 dX2_takeAt_14 k_x0 ?_
  refine qn_getI hX (pc := 17) fd_X2_takeAt_88 dX2_takeAt_17 (qr_204 hT k_x0) ?_
  refine qn_aload_n hX (pc := 20) dX2_takeAt_20 0 rfl rfl ?_
  refine qn_getR hX (pc := 21) fd_X2_takeAt_28 dX2_takeAt_21 k_x0 ?_
  refine qn_getI hX (pc := 24) fd_X2_takeAt_156 dX2_takeAt_24 (qr_202 hT k_x0) ?_
  obtain ⟨v3, e_v3, h⟩ := kp_e h
  have r_v3 : in32 v3 := by rw [e_v3]; exact in32_min (hR_m1.i 404 _ rfl) (hR_m1.i 507 _ rfl)
  refine qn_min hX (pc := 27) (hR_m1.i 404 _ rfl) (hR_m1.i 507 _ rfl) dX2_takeAt_27 (by decide +kernel) (by decide +kernel) (by decide +kernel) (by decide +kernel) ⟨rfl, rfl⟩ e_v3 ?_
  refine qn_istore_n hX (pc := 30) (ls' := [(3, .int (iZ v3)), (0, .ref x0), (1, .int (iZ x1)), (2, .int (iZ x2))]) dX2_takeAt_30 rfl rfl rfl ?_
  refine qn_iload_n hX (pc := 31) dX2_takeAt_31 0 rfl rfl ?_
  refine qn_if_gt hX (pc := 32) r_v3 36 dX2_takeAt_32 (by decide) (fun c4 => ?_) (fun c4 => ?_)
  · have h := ite_t h c4
    refine qn_aload_n hX (pc := 36) dX2_takeAt_36 1 rfl rfl ?_
    refine qn_getR hX (pc := 37) fd_X2_takeAt_28 dX2_takeAt_37 k_x0 ?_
    refine qn_iload_n hX (pc := 40) dX2_takeAt_40 0 rfl rfl ?_
    refine qn_aload_n hX (pc := 41) dX2_takeAt_41 1 rfl rfl ?_
    refine qn_getI hX (pc := 42) fd_X2_takeAt_50 dX2_takeAt_42 k_x0 ?_
    obtain ⟨m5, e_m5, h⟩ := kb_e h
    refine qn_callVv hX (pc := 45) [.int (iZ v3), .int (iZ (gI m1 206 x0))] [.int (iZ (gI m1 206 x0)), .int (iZ v3)] 2 dX2_takeAt_45 gX2_takeAt_X5_deal rfl dd_X5_deal ⟨rfl, rfl⟩ rfl rfl (by decide) (qr_202 hT k_x0) rfl rfl hR_m1 (k_X5_deal (xl X) hT (qr_202 hT k_x0) r_v3 (hR_m1.i 206 _ rfl) e_m5) (fun r_v6 hR_m5 => ?_)
    refine qn_aload_n hX (pc := 48) dX2_takeAt_48 1 rfl rfl ?_
    refine qn_aload_n hX (pc := 49) dX2_takeAt_49 1 rfl rfl ?_
    refine qn_getR hX (pc := 50) fd_X2_takeAt_28 dX2_takeAt_50 k_x0 ?_
    refine qn_getR hX (pc := 53) fd_X2_takeAt_162 dX2_takeAt_53 (qr_202 hT k_x0) ?_
    refine qn_aload_n hX (pc := 56) dX2_takeAt_56 1 rfl rfl ?_
    refine qn_getR hX (pc := 57) fd_X2_takeAt_42 dX2_takeAt_57 k_x0 ?_
    refine qn_getI hX (pc := 60) fd_X2_takeAt_166 dX2_takeAt_60 (qr_204 hT k_x0) ?_
    refine qn_iload_n hX (pc := 63) dX2_takeAt_63 3 rfl rfl ?_
    refine qn_iconst hX (pc := 64) dX2_takeAt_64 ?_
    obtain ⟨m7, e_m7, h⟩ := kb_e h
    refine qn_callVv hX (pc := 65) [.ref (gR (xG X) 503 (gR (xG X) 202 x0)), .int (iZ (gI m5 400 (gR (xG X) 204 x0))), .int (iZ x2), .int (iZ 0)] [.int (iZ 0), .int (iZ x2), .int (iZ (gI m5 400 (gR (xG X) 204 x0))), .ref (gR (xG X) 503 (gR (xG X) 202 x0))] 4 dX2_takeAt_65 gX2_takeAt_X2_tradeRows rfl dd_X2_tradeRows ⟨rfl, rfl⟩ rfl rfl (by decide) k_x0 rfl rfl hR_m5 (k_X2_tradeRows (xl X) hT k_x0 (qr_503 hT (qr_202 hT k_x0)) (hR_m5.i 400 _ rfl) r_x2 (by decide) e_m7) (fun r_v8 hR_m7 => ?_)
    refine qn_aload_n hX (pc := 68) dX2_takeAt_68 1 rfl rfl ?_
    refine qn_aload_n hX (pc := 69) dX2_takeAt_69 1 rfl rfl ?_
    refine qn_getR hX (pc := 70) fd_X2_takeAt_28 dX2_takeAt_70 k_x0 ?_
    refine qn_getR hX (pc := 73) fd_X2_takeAt_173 dX2_takeAt_73 (qr_202 hT k_x0) ?_
    refine qn_aload_n hX (pc := 76) dX2_takeAt_76 1 rfl rfl ?_
    refine qn_getR hX (pc := 77) fd_X2_takeAt_42 dX2_takeAt_77 k_x0 ?_
    refine qn_getI hX (pc := 80) fd_X2_takeAt_166 dX2_takeAt_80 (qr_204 hT k_x0) ?_
    refine qn_iload_n hX (pc := 83) dX2_takeAt_83 3 rfl rfl ?_
    refine qn_iconst hX (pc := 84) dX2_takeAt_84 ?_
    obtain ⟨m9, e_m9, h⟩ := kb_e h
    refine qn_callVv hX (pc := 85) [.ref (gR (xG X) 504 (gR (xG X) 202 x0)), .int (iZ (gI m7 400 (gR (xG X) 204 x0))), .int (iZ x2), .int (iZ 1)] [.int (iZ 1), .int (iZ x2), .int (iZ (gI m7 400 (gR (xG X) 204 x0))), .ref (gR (xG X) 504 (gR (xG X) 202 x0))] 4 dX2_takeAt_85 gX2_takeAt_X2_tradeRows rfl dd_X2_tradeRows ⟨rfl, rfl⟩ rfl rfl (by decide) k_x0 rfl rfl hR_m7 (k_X2_tradeRows (xl X) hT k_x0 (qr_504 hT (qr_202 hT k_x0)) (hR_m7.i 400 _ rfl) r_x2 (by decide) e_m9) (fun r_v10 hR_m9 => ?_)
    refine qn_aload_n hX (pc := 88) dX2_takeAt_88 1 rfl rfl ?_
    refine qn_aload_n hX (pc := 89) dX2_takeAt_89 1 rfl rfl ?_
    refine qn_getR hX (pc := 90) fd_X2_takeAt_28 dX2_takeAt_90 k_x0 ?_
    refine qn_getR hX (pc := 93) fd_X2_takeAt_176 dX2_takeAt_93 (qr_202 hT k_x0) ?_
    refine qn_aload_n hX (pc := 96) dX2_takeAt_96 1 rfl rfl ?_
    refine qn_getR hX (pc := 97) fd_X2_takeAt_42 dX2_takeAt_97 k_x0 ?_
    refine qn_getI hX (pc := 100) fd_X2_takeAt_166 dX2_takeAt_100 (qr_204 hT k_x0) ?_
    refine qn_iload_n hX (pc := 103) dX2_takeAt_103 3 rfl rfl ?_
    refine qn_iconst hX (pc := 104) dX2_takeAt_104 ?_
    obtain ⟨m11, e_m11, h⟩ := kb_e h
    refine qn_callVv hX (pc := 105) [.ref (gR (xG X) 505 (gR (xG X) 202 x0)), .int (iZ (gI m9 400 (gR (xG X) 204 x0))), .int (iZ x2), .int (iZ 2)] [.int (iZ 2), .int (iZ x2), .int (iZ (gI m9 400 (gR (xG X) 204 x0))), .ref (gR (xG X) 505 (gR (xG X) 202 x0))] 4 dX2_takeAt_105 gX2_takeAt_X2_tradeRows rfl dd_X2_tradeRows ⟨rfl, rfl⟩ rfl rfl (by decide) k_x0 rfl rfl hR_m9 (k_X2_tradeRows (xl X) hT k_x0 (qr_505 hT (qr_202 hT k_x0)) (hR_m9.i 400 _ rfl) r_x2 (by decide) e_m11) (fun r_v12 hR_m11 => ?_)
    refine qn_aload_n hX (pc := 108) dX2_takeAt_108 1 rfl rfl ?_
    refine qn_getR hX (pc := 109) fd_X2_takeAt_21 dX2_takeAt_109 k_x0 ?_
    refine qn_aload_n hX (pc := 112) dX2_takeAt_112 1 rfl rfl ?_
    refine qn_getR hX (pc := 113) fd_X2_takeAt_42 dX2_takeAt_113 k_x0 ?_
    refine qn_getI hX (pc := 116) fd_X2_takeAt_137 dX2_takeAt_116 (qr_204 hT k_x0) ?_
    refine qn_aload_n hX (pc := 119) dX2_takeAt_119 1 rfl rfl ?_
    refine qn_getR hX (pc := 120) fd_X2_takeAt_42 dX2_takeAt_120 k_x0 ?_
    refine qn_getI hX (pc := 123) fd_X2_takeAt_94 dX2_takeAt_123 (qr_204 hT k_x0) ?_
    refine qn_iload_n hX (pc := 126) dX2_takeAt_126 3 rfl rfl ?_
    refine qn_iload_n hX (pc := 127) dX2_takeAt_127 0 rfl rfl ?_
    obtain ⟨m13, e_m13, h⟩ := kb_e h
    refine qn_callVv hX (pc := 128) [.int (iZ (gI m11 401 (gR (xG X) 204 x0))), .int (iZ (gI m11 402 (gR (xG X) 204 x0))), .int (iZ x2), .int (iZ v3)] [.int (iZ v3), .int (iZ x2), .int (iZ (gI m11 402 (gR (xG X) 204 x0))), .int (iZ (gI m11 401 (gR (xG X) 204 x0)))] 4 dX2_takeAt_128 gX2_takeAt_X3_enter rfl dd_X3_enter ⟨rfl, rfl⟩ rfl rfl (by decide) (qr_201 hT k_x0) rfl rfl hR_m11 (k_X3_enter (xl X) hT (qr_201 hT k_x0) (hR_m11.i 401 _ rfl) (hR_m11.i 402 _ rfl) r_x2 r_v3 e_m13) (fun r_v14 hR_m13 => ?_)
    refine qn_aload_n hX (pc := 131) dX2_takeAt_131 1 rfl rfl ?_
    refine qn_getR hX (pc := 132) fd_X2_takeAt_21 dX2_takeAt_132 k_x0 ?_
    refine qn_dup hX (pc := 135) dX2_takeAt_135 rfl ?_
    refine qn_getI hX (pc := 136) fd_X2_takeAt_183 dX2_takeAt_136 (qr_201 hT k_x0) ?_
    refine qn_iload_n hX (pc := 139) dX2_takeAt_139 0 rfl rfl ?_
    obtain ⟨v15, e_v15, h⟩ := kp_e h
    have r_v15 : in32 v15 := by rw [e_v15]; exact w32_in _
    refine qn_iaddw hX (pc := 140) dX2_takeAt_140 e_v15 ?_
    obtain ⟨m16, e_m16, h⟩ := kp_e h
    refine qn_putI hX (pc := 141) fp_X2_takeAt_183 dX2_takeAt_141 (qr_201 hT k_x0) hR_m13 r_v15 e_m16 (fun hR_m16 => ?_) 
    refine qn_aload_n hX (pc := 144) dX2_takeAt_144 1 rfl rfl ?_
    refine qn_getR hX (pc := 145) fd_X2_takeAt_42 dX2_takeAt_145 k_x0 ?_
    refine qn_dup hX (pc := 148) dX2_takeAt_148 rfl ?_
    refine qn_getI hX (pc := 149) fd_X2_takeAt_88 dX2_takeAt_149 (qr_204 hT k_x0) ?_
    refine qn_iload_n hX (pc := 152) dX2_takeAt_152 0 rfl rfl ?_
    obtain ⟨v17, e_v17, r_v17, h⟩ := ckI_e h
    refine qn_isub hX (pc := 153) dX2_takeAt_153 e_v17 ?_
    obtain ⟨m18, e_m18, h⟩ := kp_e h
    refine qn_putI hX (pc := 154) fp_X2_takeAt_88 dX2_takeAt_154 (qr_204 hT k_x0) hR_m16 r_v17 e_m18 (fun hR_m18 => ?_) 
    refine qn_aload_n hX (pc := 157) dX2_takeAt_157 1 rfl rfl ?_
    refine qn_getR hX (pc := 158) fd_X2_takeAt_12 dX2_takeAt_158 k_x0 ?_
    obtain ⟨m19, e_m19, h⟩ := kb_e h
    refine qn_callVv hX (pc := 161) [] [] 0 dX2_takeAt_161 gX2_takeAt_X0_sweep rfl dd_X0_sweep ⟨rfl, rfl⟩ rfl rfl (by decide) (qr_200 hT k_x0) rfl rfl hR_m18 (k_X0_sweep (xl X) hT (qr_200 hT k_x0) e_m19) (fun r_v20 hR_m19 => ?_)
    exact qn_vret hX (pc := 164) dX2_takeAt_164 hE hR_m19 (Option.some.inj h)
  · have h := ite_f h c4
    exact qn_vret hX (pc := 35) dX2_takeAt_35 hE hR_m1 (Option.some.inj h)
theorem k_X2_takeAt (l : Launch) {G : qG} (hT : qT G) {N : Nat} {x0 : Nat} {x1 : Int} {x2 : Int} (k_x0 : gK G x0 = 3) (r_x1 : in32 x1) (r_x2 : in32 x2) {m0 : qM} {r : qM} (h : f_X2_takeAt N G x0 x1 x2 m0 = some r) : qC l yX2_takeAt wsX2_takeAt 3 76 G [.ref x0, .int (iZ x1), .int (iZ x2)] m0 none True r := by
  refine qn_start (hy := by decide) hT (hw := rfl) (hn := Nat.le_of_ble_eq_true rfl) ?_
  intro X h1 h2 h3 h4 hX hR
  subst h4
  exact w_X2_takeAt hX ⟨h1, fun q => h2 ▸ q, h3⟩ k_x0 r_x1 r_x2 hR h
theorem dd_X2_takeAt : yX2_takeAt.cls = RX2 ∧ yX2_takeAt.cls ≠ "java/lang/invoke/MethodHandle" ∧ yX2_takeAt.cls ≠ "java/lang/invoke/VarHandle" ∧ (parseMethodDescriptor yX2_takeAt.desc).map (fun d => d.parameters.length) = some 2 := by decide +kernel
-- ProRataMarket$Floor.meet
theorem hi_X2_meet_2 : ∀ w ∈ wsX20, w ∈ wsX2_meet := fun w h => List.mem_cons_of_mem _ (List.mem_append_left _ (List.mem_append_left _ (List.mem_append_left _ (List.mem_append_left _ (List.mem_append_right _ h)))))
theorem fd_X2_meet_42 : qFd RX2 wsX2_meet 42 2 4 1 204 := ⟨RX2, TX2, 12, _, rfl, hi_X2_meet_2, by decide, (by decide +kernel : Cond.fieldLink RX2 42 (TX2 4).1 (TX2 4).2.1 (TX2 4).2.2.1 ∈ wsX2_meet), rfl, rfl, by decide⟩
theorem hi_X2_meet_4 : ∀ w ∈ wsX40, w ∈ wsX2_meet := fun w h => List.mem_cons_of_mem _ (List.mem_append_left _ (List.mem_append_left _ (List.mem_append_left _ (List.mem_append_right _ h))))
theorem fd_X2_meet_88 : qFd RX2 wsX2_meet 88 4 4 0 404 := ⟨RX4, TX4, 6, _, rfl, hi_X2_meet_4, by decide, (by decide +kernel : Cond.fieldLink RX2 88 (TX4 4).1 (TX4 4).2.1 (TX4 4).2.2.1 ∈ wsX2_meet), rfl, rfl, by decide⟩
theorem fd_X2_meet_12 : qFd RX2 wsX2_meet 12 2 0 1 200 := ⟨RX2, TX2, 12, _, rfl, hi_X2_meet_2, by decide, (by decide +kernel : Cond.fieldLink RX2 12 (TX2 0).1 (TX2 0).2.1 (TX2 0).2.2.1 ∈ wsX2_meet), rfl, rfl, by decide⟩
theorem fd_X2_meet_101 : qFd RX2 wsX2_meet 101 4 3 0 403 := ⟨RX4, TX4, 6, _, rfl, hi_X2_meet_4, by decide, (by decide +kernel : Cond.fieldLink RX2 101 (TX4 3).1 (TX4 3).2.1 (TX4 3).2.2.1 ∈ wsX2_meet), rfl, rfl, by decide⟩
theorem fd_X2_meet_94 : qFd RX2 wsX2_meet 94 4 2 0 402 := ⟨RX4, TX4, 6, _, rfl, hi_X2_meet_4, by decide, (by decide +kernel : Cond.fieldLink RX2 94 (TX4 2).1 (TX4 2).2.1 (TX4 2).2.2.1 ∈ wsX2_meet), rfl, rfl, by decide⟩
set_option maxHeartbeats 4000000 in
set_option maxRecDepth 20000 in
theorem w_X2_meet_91 {X : qB} {N : Nat} (hX : qOk X cX2_meet RX2 5 none wsX2_meet 4 99) {r : qM} (hE : xr X = none ∧ (True → xΦ X) ∧ xμ X = r) {k18 : (Nat → Int → Int → Int → qM → Option (qM))} (hk18 : ∀ (x0 : Nat) (x1 : Int) (x2 : Int) (x3 : Int) (m0 : qM), gK (xG X) x0 = 3 → in32 x1 → in01 x2 → in32 x3 → qR (xG X) m0 → k18 x0 x1 x2 x3 m0 = some r → qN X 5 18 [(0, .ref x0), (1, .int (iZ x1)), (2, .int (iZ x2)), (3, .int (iZ x3))] [] m0)
    {x0 : Nat} {x1 : Int} {x2 : Int} {x3 : Int} (k_x0 : gK (xG X) x0 = 3) (r_x1 : in32 x1) (b_x2 : in01 x2) (r_x3 : in32 x3) {m0 : qM} (hR_m0 : qR (xG X) m0)
    (h : f_X2_meet_91 N (xG X) k18 x0 x1 x2 x3 m0 = some r) : qN X 5 91 [(0, .ref x0), (1, .int (iZ x1)), (2, .int (iZ x2)), (3, .int (iZ x3))] [] m0 := by
  have hT := hX.T
  unfold f_X2_meet_91 at h
  obtain ⟨v1, e_v1, r_v1, h⟩ := ckI_e h
  refine qn_iinc hX (pc := 91) (ls' := [(3, .int (iZ v1)), (0, .ref x0), (1, .int (iZ x1)), (2, .int (iZ x2))]) dX2_meet_91 3 rfl e_v1 rfl rfl ?_
  refine qn_goto hX (pc := 94) 18 dX2_meet_94 (by decide) ?_
  refine qn_sub (ls' := [(0, .ref x0), (1, .int (iZ x1)), (2, .int (iZ x2)), (3, .int (iZ v1))]) [1, 2, 3, 0] rfl ?_
  exact hk18 x0 x1 x2 v1 m0 k_x0 r_x1 b_x2 r_v1 hR_m0 h
set_option maxHeartbeats 4000000 in
set_option maxRecDepth 20000 in
theorem w_X2_meet_18 {X : qB} {N : Nat} (hX : qOk X cX2_meet RX2 5 none wsX2_meet 4 99) {r : qM} (hE : xr X = none ∧ (True → xΦ X) ∧ xμ X = r) {k18 : (Nat → Int → Int → Int → qM → Option (qM))} (hk18 : ∀ (x0 : Nat) (x1 : Int) (x2 : Int) (x3 : Int) (m0 : qM), gK (xG X) x0 = 3 → in32 x1 → in01 x2 → in32 x3 → qR (xG X) m0 → k18 x0 x1 x2 x3 m0 = some r → qN X 5 18 [(0, .ref x0), (1, .int (iZ x1)), (2, .int (iZ x2)), (3, .int (iZ x3))] [] m0)
    {x0 : Nat} {x1 : Int} {x2 : Int} {x3 : Int} (k_x0 : gK (xG X) x0 = 3) (r_x1 : in32 x1) (b_x2 : in01 x2) (r_x3 : in32 x3) {m0 : qM} (hR_m0 : qR (xG X) m0)
    (h : f_X2_meet_18 N (xG X) k18 x0 x1 x2 x3 m0 = some r) : qN X 5 18 [(0, .ref x0), (1, .int (iZ x1)), (2, .int (iZ x2)), (3, .int (iZ x3))] [] m0 := by
  have hT := hX.T
  unfold f_X2_meet_18 at h
  refine qn_iload_n hX (pc := 18) dX2_meet_18 3 rfl rfl ?_
  refine qn_bipush hX (pc := 19) dX2_meet_19 (by decide) ?_
  refine qn_icmp_ge hX (pc := 21) r_x3 (by decide) 97 dX2_meet_21 (by decide) (fun c1 => ?_) (fun c1 => ?_)
  · have h := ite_f h c1
    exact qn_vret hX (pc := 97) dX2_meet_97 hE hR_m0 (Option.some.inj h)
  · have h := ite_t h c1
    refine qn_aload_n hX (pc := 24) dX2_meet_24 0 rfl rfl ?_
    refine qn_getR hX (pc := 25) fd_X2_meet_42 dX2_meet_25 k_x0 ?_
    refine qn_getI hX (pc := 28) fd_X2_meet_88 dX2_meet_28 (qr_204 hT k_x0) ?_
    refine qn_if_le hX (pc := 31) (hR_m0.i 404 _ rfl) 97 dX2_meet_31 (by decide) (fun c2 => ?_) (fun c2 => ?_)
    · have h := ite_f h c2
      exact qn_vret hX (pc := 97) dX2_meet_97 hE hR_m0 (Option.some.inj h)
    · have h := ite_t h c2
      refine qn_aload_n hX (pc := 34) dX2_meet_34 0 rfl rfl ?_
      refine qn_getR hX (pc := 35) fd_X2_meet_12 dX2_meet_35 k_x0 ?_
      refine qn_iload_n hX (pc := 38) dX2_meet_38 2 rfl rfl ?_
      obtain ⟨v4, m3, e_m3, h⟩ := kb2_e h
      refine qn_callVi hX (pc := 39) [.int (iZ x2)] [.int (iZ x2)] 1 dX2_meet_39 gX2_meet_X0_best rfl dd_X0_best ⟨rfl, rfl⟩ rfl rfl (by decide) (qr_200 hT k_x0) rfl rfl hR_m0 (k_X0_best (xl X) hT (qr_200 hT k_x0) b_x2.i e_m3) (fun r_v4 hR_m3 => ?_)
      refine qn_istore hX (pc := 42) (ls' := [(4, .int (iZ v4)), (0, .ref x0), (1, .int (iZ x1)), (2, .int (iZ x2)), (3, .int (iZ x3))]) dX2_meet_42 rfl rfl ?_
      refine qn_iload hX (pc := 44) dX2_meet_44 0 rfl ?_
      refine qn_if_eq hX (pc := 46) r_v4 65 dX2_meet_46 (by decide) (fun c5 => ?_) (fun c5 => ?_)
      · have h := ite_t h c5
        exact qn_vret hX (pc := 65) dX2_meet_65 hE hR_m3 (Option.some.inj h)
      · have h := ite_f h c5
        refine qn_iload_n hX (pc := 49) dX2_meet_49 3 rfl rfl ?_
        refine qn_aload_n hX (pc := 50) dX2_meet_50 1 rfl rfl ?_
        refine qn_getR hX (pc := 51) fd_X2_meet_42 dX2_meet_51 k_x0 ?_
        refine qn_getI hX (pc := 54) fd_X2_meet_101 dX2_meet_54 (qr_204 hT k_x0) ?_
        refine qn_iload hX (pc := 57) dX2_meet_57 0 rfl ?_
        obtain ⟨v7, m6, e_m6, h⟩ := kb2_e h
        refine qn_callSNi hX (pc := 59) [.int (iZ x2), .int (iZ (gI m3 403 (gR (xG X) 204 x0))), .int (iZ v4)] [.int (iZ v4), .int (iZ (gI m3 403 (gR (xG X) 204 x0))), .int (iZ x2)] 3 dX2_meet_59 gX2_meet_X7_isBetter_n104 hX.Z.2.1 (by decide +kernel) (by decide +kernel) rfl dd_X7_isBetter ⟨rfl, rfl⟩ rfl rfl rfl hR_m3 (k_X7_isBetter (xl X) hT b_x2.i (hR_m3.i 403 _ rfl) r_v4 e_m6) (fun r_v7 hR_m6 => ?_)
        refine qn_if_eq hX (pc := 62) r_v7.i 66 dX2_meet_62 (by decide) (fun c8 => ?_) (fun c8 => ?_)
        · have h := ite_t h c8
          refine qn_aload_n hX (pc := 66) dX2_meet_66 1 rfl rfl ?_
          refine qn_iload_n hX (pc := 67) dX2_meet_67 3 rfl rfl ?_
          refine qn_iload hX (pc := 68) dX2_meet_68 0 rfl ?_
          refine qn_iload_n hX (pc := 70) dX2_meet_70 2 rfl rfl ?_
          obtain ⟨m9, e_m9, h⟩ := kb_e h
          refine qn_callVv hX (pc := 71) [.int (iZ x2), .int (iZ v4), .int (iZ x1)] [.int (iZ x1), .int (iZ v4), .int (iZ x2)] 3 dX2_meet_71 gX2_meet_X2_preventSelf rfl dd_X2_preventSelf ⟨rfl, rfl⟩ rfl rfl (by decide) k_x0 rfl rfl hR_m6 (k_X2_preventSelf (xl X) hT k_x0 b_x2.i r_v4 r_x1 e_m9) (fun r_v10 hR_m9 => ?_)
          refine qn_aload_n hX (pc := 74) dX2_meet_74 1 rfl rfl ?_
          refine qn_getR hX (pc := 75) fd_X2_meet_42 dX2_meet_75 k_x0 ?_
          refine qn_getI hX (pc := 78) fd_X2_meet_88 dX2_meet_78 (qr_204 hT k_x0) ?_
          refine qn_if_le hX (pc := 81) (hR_m9.i 404 _ rfl) 91 dX2_meet_81 (by decide) (fun c11 => ?_) (fun c11 => ?_)
          · have h := ite_f h c11
            refine qn_sub (ls' := [(0, .ref x0), (1, .int (iZ x1)), (2, .int (iZ x2)), (3, .int (iZ x3))]) [1, 2, 3, 4] rfl ?_
            exact w_X2_meet_91 hX hE hk18 k_x0 r_x1 b_x2 r_x3 hR_m9 h
          · have h := ite_t h c11
            refine qn_aload_n hX (pc := 84) dX2_meet_84 1 rfl rfl ?_
            refine qn_iload_n hX (pc := 85) dX2_meet_85 3 rfl rfl ?_
            refine qn_iload hX (pc := 86) dX2_meet_86 0 rfl ?_
            obtain ⟨m12, e_m12, h⟩ := kb_e h
            refine qn_callVv hX (pc := 88) [.int (iZ x2), .int (iZ v4)] [.int (iZ v4), .int (iZ x2)] 2 dX2_meet_88 gX2_meet_X2_takeAt rfl dd_X2_takeAt ⟨rfl, rfl⟩ rfl rfl (by decide) k_x0 rfl rfl hR_m9 (k_X2_takeAt (xl X) hT k_x0 b_x2.i r_v4 e_m12) (fun r_v13 hR_m12 => ?_)
            refine qn_sub (ls' := [(0, .ref x0), (1, .int (iZ x1)), (2, .int (iZ x2)), (3, .int (iZ x3))]) [1, 2, 3, 4] rfl ?_
            exact w_X2_meet_91 hX hE hk18 k_x0 r_x1 b_x2 r_x3 hR_m12 h
        · have h := ite_f h c8
          exact qn_vret hX (pc := 65) dX2_meet_65 hE hR_m6 (Option.some.inj h)
set_option maxHeartbeats 4000000 in
set_option maxRecDepth 20000 in
theorem w_X2_meet_L18 {X : qB} {N : Nat} (hX : qOk X cX2_meet RX2 5 none wsX2_meet 4 99) {r : qM} (hE : xr X = none ∧ (True → xΦ X) ∧ xμ X = r) 
    {x0 : Nat} {x1 : Int} {x2 : Int} {x3 : Int} (k_x0 : gK (xG X) x0 = 3) (r_x1 : in32 x1) (b_x2 : in01 x2) (r_x3 : in32 x3) {m0 : qM} (hR_m0 : qR (xG X) m0)
    (h : f_X2_meet_L18 N (xG X)  x0 x1 x2 x3 m0 = some r) : qN X 5 18 [(0, .ref x0), (1, .int (iZ x1)), (2, .int (iZ x2)), (3, .int (iZ x3))] [] m0 := by
  unfold f_X2_meet_L18 at h
  exact qLoop_w (σ := Nat × Int × Int × Int × qM) (P := fun p => gK (xG X) p.1 = 3 ∧ in32 p.2.1 ∧ in01 p.2.2.1 ∧ in32 p.2.2.2.1 ∧ qR (xG X) p.2.2.2.2) (Q := fun p => qN X 5 18 [(0, .ref p.1), (1, .int (iZ p.2.1)), (2, .int (iZ p.2.2.1)), (3, .int (iZ p.2.2.2.1))] [] p.2.2.2.2) (fun k hrec p hp hh => w_X2_meet_18 hX hE (fun x0 x1 x2 x3 m0 q0 q1 q2 q3 hRm hh => hrec (x0, x1, x2, x3, m0) ⟨q0, q1, q2, q3, hRm⟩ hh) hp.1 hp.2.1 hp.2.2.1 hp.2.2.2.1 hp.2.2.2.2 hh) N (x0, x1, x2, x3, m0) ⟨k_x0, r_x1, b_x2, r_x3, hR_m0⟩ h
set_option maxHeartbeats 4000000 in
set_option maxRecDepth 20000 in
theorem w_X2_meet_15 {X : qB} {N : Nat} (hX : qOk X cX2_meet RX2 5 none wsX2_meet 4 99) {r : qM} (hE : xr X = none ∧ (True → xΦ X) ∧ xμ X = r) 
    {x0 : Nat} {x1 : Int} {s0 : Int} (k_x0 : gK (xG X) x0 = 3) (r_x1 : in32 x1) (b_s0 : in01 s0) {m0 : qM} (hR_m0 : qR (xG X) m0)
    (h : f_X2_meet_15 N (xG X)  x0 x1 s0 m0 = some r) : qN X 5 15 [(0, .ref x0), (1, .int (iZ x1))] [.int (iZ s0)] m0 := by
  have hT := hX.T
  unfold f_X2_meet_15 at h
  refine qn_istore_n hX (pc := 15) (ls' := [(2, .int (iZ s0)), (0, .ref x0), (1, .int (iZ x1))]) dX2_meet_15 rfl rfl rfl ?_
  refine qn_iconst hX (pc := 16) dX2_meet_16 ?_
  refine qn_istore_n hX (pc := 17) (ls' := [(3, .int (iZ 0)), (2, .int (iZ s0)), (0, .ref x0), (1, .int (iZ x1))]) dX2_meet_17 rfl rfl rfl ?_
  refine qn_sub (ls' := [(0, .ref x0), (1, .int (iZ x1)), (2, .int (iZ s0)), (3, .int (iZ 0))]) [2, 3, 1, 0] rfl ?_
  exact w_X2_meet_L18 hX hE  k_x0 r_x1 b_s0 (by decide) hR_m0 h
set_option maxHeartbeats 4000000 in
set_option maxRecDepth 20000 in
theorem w_X2_meet {X : qB} {N : Nat} (hX : qOk X cX2_meet RX2 5 none wsX2_meet 4 99) {r : qM} (hE : xr X = none ∧ (True → xΦ X) ∧ xμ X = r) 
    {x0 : Nat} {x1 : Int} (k_x0 : gK (xG X) x0 = 3) (r_x1 : in32 x1) {m0 : qM} (hR_m0 : qR (xG X) m0)
    (h : f_X2_meet N (xG X)  x0 x1 m0 = some r) : qN X 5 0 [(0, .ref x0), (1, .int (iZ x1))] [] m0 := by
  have hT := hX.T
  unfold f_X2_meet at h
  refine qn_aload_n hX (pc := 0) dX2_meet_0 0 rfl rfl ?_
  refine qn_getR hX (pc := 1) fd_X2_meet_42 dX2_meet_1 k_x0 ?_
  refine qn_getI hX (pc := 4) fd_X2_meet_94 dX2_meet_4 (qr_204 hT k_x0) ?_
  refine qn_if_ne hX (pc := 7) (hR_m0.i 402 _ rfl) 14 dX2_meet_7 (by decide) (fun c1 => ?_) (fun c1 => ?_)
  · have h := ite_f h c1
    refine qn_iconst hX (pc := 14) dX2_meet_14 ?_
    refine qn_sub (ls' := [(0, .ref x0), (1, .int (iZ x1))]) [0, 1] rfl ?_
    exact w_X2_meet_15 hX hE  k_x0 r_x1 (by decide) hR_m0 h
  · have h := ite_t h c1
    refine qn_iconst hX (pc := 10) dX2_meet_10 ?_
    refine qn_goto hX (pc := 11) 15 dX2_meet_11 (by decide) ?_
    refine qn_sub (ls' := [(0, .ref x0), (1, .int (iZ x1))]) [0, 1] rfl ?_
    exact w_X2_meet_15 hX hE  k_x0 r_x1 (by decide) hR_m0 h
theorem k_X2_meet (l : Launch) {G : qG} (hT : qT G) {N : Nat} {x0 : Nat} {x1 : Int} (k_x0 : gK G x0 = 3) (r_x1 : in32 x1) {m0 : qM} {r : qM} (h : f_X2_meet N G x0 x1 m0 = some r) : qC l yX2_meet wsX2_meet 4 99 G [.ref x0, .int (iZ x1)] m0 none True r := by
  refine qn_start (hy := by decide) hT (hw := rfl) (hn := Nat.le_of_ble_eq_true rfl) ?_
  intro X h1 h2 h3 h4 hX hR
  subst h4
  exact w_X2_meet hX ⟨h1, fun q => h2 ▸ q, h3⟩ k_x0 r_x1 hR h
theorem dd_X2_meet : yX2_meet.cls = RX2 ∧ yX2_meet.cls ≠ "java/lang/invoke/MethodHandle" ∧ yX2_meet.cls ≠ "java/lang/invoke/VarHandle" ∧ (parseMethodDescriptor yX2_meet.desc).map (fun d => d.parameters.length) = some 1 := by decide +kernel
-- ProRataMarket$Floor.restComing
theorem hi_X2_restComing_2 : ∀ w ∈ wsX20, w ∈ wsX2_restComing := fun w h => List.mem_cons_of_mem _ (List.mem_append_left _ (List.mem_append_left _ (List.mem_append_right _ h)))
theorem fd_X2_restComing_12 : qFd RX2 wsX2_restComing 12 2 0 1 200 := ⟨RX2, TX2, 12, _, rfl, hi_X2_restComing_2, by decide, (by decide +kernel : Cond.fieldLink RX2 12 (TX2 0).1 (TX2 0).2.1 (TX2 0).2.2.1 ∈ wsX2_restComing), rfl, rfl, by decide⟩
theorem fd_X2_restComing_42 : qFd RX2 wsX2_restComing 42 2 4 1 204 := ⟨RX2, TX2, 12, _, rfl, hi_X2_restComing_2, by decide, (by decide +kernel : Cond.fieldLink RX2 42 (TX2 4).1 (TX2 4).2.1 (TX2 4).2.2.1 ∈ wsX2_restComing), rfl, rfl, by decide⟩
theorem fd_X2_restComing_60 : qFd RX2 wsX2_restComing 60 2 7 0 207 := ⟨RX2, TX2, 12, _, rfl, hi_X2_restComing_2, by decide, (by decide +kernel : Cond.fieldLink RX2 60 (TX2 7).1 (TX2 7).2.1 (TX2 7).2.2.1 ∈ wsX2_restComing), rfl, rfl, by decide⟩
theorem hi_X2_restComing_4 : ∀ w ∈ wsX40, w ∈ wsX2_restComing := fun w h => List.mem_cons_of_mem _ (List.mem_append_left _ (List.mem_append_right _ h))
theorem fd_X2_restComing_88 : qFd RX2 wsX2_restComing 88 4 4 0 404 := ⟨RX4, TX4, 6, _, rfl, hi_X2_restComing_4, by decide, (by decide +kernel : Cond.fieldLink RX2 88 (TX4 4).1 (TX4 4).2.1 (TX4 4).2.2.1 ∈ wsX2_restComing), rfl, rfl, by decide⟩
theorem fd_X2_restComing_112 : qFd RX2 wsX2_restComing 112 4 5 0 405 := ⟨RX4, TX4, 6, _, rfl, hi_X2_restComing_4, by decide, (by decide +kernel : Cond.fieldLink RX2 112 (TX4 5).1 (TX4 5).2.1 (TX4 5).2.2.1 ∈ wsX2_restComing), rfl, rfl, by decide⟩
theorem fd_X2_restComing_46 : qFd RX2 wsX2_restComing 46 2 5 0 205 := ⟨RX2, TX2, 12, _, rfl, hi_X2_restComing_2, by decide, (by decide +kernel : Cond.fieldLink RX2 46 (TX2 5).1 (TX2 5).2.1 (TX2 5).2.2.1 ∈ wsX2_restComing), rfl, rfl, by decide⟩
theorem fd_X2_restComing_94 : qFd RX2 wsX2_restComing 94 4 2 0 402 := ⟨RX4, TX4, 6, _, rfl, hi_X2_restComing_4, by decide, (by decide +kernel : Cond.fieldLink RX2 94 (TX4 2).1 (TX4 2).2.1 (TX4 2).2.2.1 ∈ wsX2_restComing), rfl, rfl, by decide⟩
theorem fd_X2_restComing_101 : qFd RX2 wsX2_restComing 101 4 3 0 403 := ⟨RX4, TX4, 6, _, rfl, hi_X2_restComing_4, by decide, (by decide +kernel : Cond.fieldLink RX2 101 (TX4 3).1 (TX4 3).2.1 (TX4 3).2.2.1 ∈ wsX2_restComing), rfl, rfl, by decide⟩
set_option maxHeartbeats 4000000 in
set_option maxRecDepth 20000 in
theorem w_X2_restComing_45 {X : qB} {N : Nat} (hX : qOk X cX2_restComing RX2 3 none wsX2_restComing 3 68) {r : qM} (hE : xr X = none ∧ (True → xΦ X) ∧ xμ X = r) 
    {x0 : Nat} {s0 : Int} (k_x0 : gK (xG X) x0 = 3) (b_s0 : in01 s0) {m0 : qM} (hR_m0 : qR (xG X) m0)
    (h : f_X2_restComing_45 N (xG X)  x0 s0 m0 = some r) : qN X 3 45 [(0, .ref x0)] [.int (iZ s0)] m0 := by
  have hT := hX.T
  unfold f_X2_restComing_45 at h
  refine qn_istore_n hX (pc := 45) (ls' := [(2, .int (iZ s0)), (0, .ref x0)]) dX2_restComing_45 rfl rfl rfl ?_
  refine qn_aload_n hX (pc := 46) dX2_restComing_46 1 rfl rfl ?_
  refine qn_getR hX (pc := 47) fd_X2_restComing_12 dX2_restComing_47 k_x0 ?_
  refine qn_aload_n hX (pc := 50) dX2_restComing_50 1 rfl rfl ?_
  refine qn_getR hX (pc := 51) fd_X2_restComing_42 dX2_restComing_51 k_x0 ?_
  obtain ⟨m1, e_m1, h⟩ := kb_e h
  refine qn_callVv hX (pc := 54) [.ref (gR (xG X) 204 x0)] [.ref (gR (xG X) 204 x0)] 1 dX2_restComing_54 gX2_restComing_X0_add rfl dd_X0_add ⟨rfl, rfl⟩ rfl rfl (by decide) (qr_200 hT k_x0) rfl rfl hR_m0 (k_X0_add (xl X) hT (qr_200 hT k_x0) (qr_204 hT k_x0) e_m1) (fun r_v2 hR_m1 => ?_)
  refine qn_aload_n hX (pc := 57) dX2_restComing_57 1 rfl rfl ?_
  refine qn_getI hX (pc := 58) fd_X2_restComing_60 dX2_restComing_58 k_x0 ?_
  refine qn_if_ne hX (pc := 61) ((hR_m1.zz 207 _ rfl).i) 107 dX2_restComing_61 (by decide) (fun c3 => ?_) (fun c3 => ?_)
  · have h := ite_f h c3
    exact qn_vret hX (pc := 107) dX2_restComing_107 hE hR_m1 (Option.some.inj h)
  · have h := ite_t h c3
    refine qn_iload_n hX (pc := 64) dX2_restComing_64 0 rfl rfl ?_
    refine qn_if_eq hX (pc := 65) b_s0.i 107 dX2_restComing_65 (by decide) (fun c4 => ?_) (fun c4 => ?_)
    · have h := ite_t h c4
      exact qn_vret hX (pc := 107) dX2_restComing_107 hE hR_m1 (Option.some.inj h)
    · have h := ite_f h c4
      refine qn_aload_n hX (pc := 68) dX2_restComing_68 1 rfl rfl ?_
      refine qn_getR hX (pc := 69) fd_X2_restComing_42 dX2_restComing_69 k_x0 ?_
      refine qn_getI hX (pc := 72) fd_X2_restComing_88 dX2_restComing_72 (qr_204 hT k_x0) ?_
      refine qn_aload_n hX (pc := 75) dX2_restComing_75 1 rfl rfl ?_
      refine qn_getR hX (pc := 76) fd_X2_restComing_42 dX2_restComing_76 k_x0 ?_
      refine qn_getI hX (pc := 79) fd_X2_restComing_112 dX2_restComing_79 (qr_204 hT k_x0) ?_
      refine qn_icmp_ne hX (pc := 82) (hR_m1.i 404 _ rfl) (hR_m1.i 405 _ rfl) 107 dX2_restComing_82 (by decide) (fun c5 => ?_) (fun c5 => ?_)
      · have h := ite_f h c5
        exact qn_vret hX (pc := 107) dX2_restComing_107 hE hR_m1 (Option.some.inj h)
      · have h := ite_t h c5
        refine qn_aload_n hX (pc := 85) dX2_restComing_85 1 rfl rfl ?_
        refine qn_getI hX (pc := 86) fd_X2_restComing_46 dX2_restComing_86 k_x0 ?_
        refine qn_if_le hX (pc := 89) (hR_m1.i 205 _ rfl) 107 dX2_restComing_89 (by decide) (fun c6 => ?_) (fun c6 => ?_)
        · have h := ite_f h c6
          exact qn_vret hX (pc := 107) dX2_restComing_107 hE hR_m1 (Option.some.inj h)
        · have h := ite_t h c6
          refine qn_aload_n hX (pc := 92) dX2_restComing_92 1 rfl rfl ?_
          refine qn_getR hX (pc := 93) fd_X2_restComing_12 dX2_restComing_93 k_x0 ?_
          refine qn_aload_n hX (pc := 96) dX2_restComing_96 1 rfl rfl ?_
          refine qn_getR hX (pc := 97) fd_X2_restComing_42 dX2_restComing_97 k_x0 ?_
          refine qn_aload_n hX (pc := 100) dX2_restComing_100 1 rfl rfl ?_
          refine qn_getI hX (pc := 101) fd_X2_restComing_46 dX2_restComing_101 k_x0 ?_
          obtain ⟨m7, e_m7, h⟩ := kb_e h
          refine qn_callVv hX (pc := 104) [.ref (gR (xG X) 204 x0), .int (iZ (gI m1 205 x0))] [.int (iZ (gI m1 205 x0)), .ref (gR (xG X) 204 x0)] 2 dX2_restComing_104 gX2_restComing_X0_makeTop rfl dd_X0_makeTop ⟨rfl, rfl⟩ rfl rfl (by decide) (qr_200 hT k_x0) rfl rfl hR_m1 (k_X0_makeTop (xl X) hT (qr_200 hT k_x0) (qr_204 hT k_x0) (hR_m1.i 205 _ rfl) e_m7) (fun r_v8 hR_m7 => ?_)
          exact qn_vret hX (pc := 107) dX2_restComing_107 hE hR_m7 (Option.some.inj h)
set_option maxHeartbeats 4000000 in
set_option maxRecDepth 20000 in
theorem w_X2_restComing_40 {X : qB} {N : Nat} (hX : qOk X cX2_restComing RX2 3 none wsX2_restComing 3 68) {r : qM} (hE : xr X = none ∧ (True → xΦ X) ∧ xμ X = r) 
    {x0 : Nat} (k_x0 : gK (xG X) x0 = 3) {m0 : qM} (hR_m0 : qR (xG X) m0)
    (h : f_X2_restComing_40 N (xG X)  x0 m0 = some r) : qN X 3 40 [(0, .ref x0)] [] m0 := by
  have hT := hX.T
  unfold f_X2_restComing_40 at h
  refine qn_iconst hX (pc := 40) dX2_restComing_40 ?_
  refine qn_goto hX (pc := 41) 45 dX2_restComing_41 (by decide) ?_
  refine qn_sub (ls' := [(0, .ref x0)]) [0] rfl ?_
  exact w_X2_restComing_45 hX hE  k_x0 (by decide) hR_m0 h
set_option maxHeartbeats 4000000 in
set_option maxRecDepth 20000 in
theorem w_X2_restComing {X : qB} {N : Nat} (hX : qOk X cX2_restComing RX2 3 none wsX2_restComing 3 68) {r : qM} (hE : xr X = none ∧ (True → xΦ X) ∧ xμ X = r) 
    {x0 : Nat} (k_x0 : gK (xG X) x0 = 3) {m0 : qM} (hR_m0 : qR (xG X) m0)
    (h : f_X2_restComing N (xG X)  x0 m0 = some r) : qN X 3 0 [(0, .ref x0)] [] m0 := by
  have hT := hX.T
  unfold f_X2_restComing at h
  refine qn_aload_n hX (pc := 0) dX2_restComing_0 0 rfl rfl ?_
  refine qn_getR hX (pc := 1) fd_X2_restComing_12 dX2_restComing_1 k_x0 ?_
  refine qn_aload_n hX (pc := 4) dX2_restComing_4 0 rfl rfl ?_
  refine qn_getR hX (pc := 5) fd_X2_restComing_42 dX2_restComing_5 k_x0 ?_
  refine qn_getI hX (pc := 8) fd_X2_restComing_94 dX2_restComing_8 (qr_204 hT k_x0) ?_
  obtain ⟨v2, m1, e_m1, h⟩ := kb2_e h
  refine qn_callVi hX (pc := 11) [.int (iZ (gI m0 402 (gR (xG X) 204 x0)))] [.int (iZ (gI m0 402 (gR (xG X) 204 x0)))] 1 dX2_restComing_11 gX2_restComing_X0_best rfl dd_X0_best ⟨rfl, rfl⟩ rfl rfl (by decide) (qr_200 hT k_x0) rfl rfl hR_m0 (k_X0_best (xl X) hT (qr_200 hT k_x0) (hR_m0.i 402 _ rfl) e_m1) (fun r_v2 hR_m1 => ?_)
  refine qn_istore_n hX (pc := 14) (ls' := [(1, .int (iZ v2)), (0, .ref x0)]) dX2_restComing_14 rfl rfl rfl ?_
  refine qn_iload_n hX (pc := 15) dX2_restComing_15 0 rfl rfl ?_
  refine qn_if_eq hX (pc := 16) r_v2 40 dX2_restComing_16 (by decide) (fun c3 => ?_) (fun c3 => ?_)
  · have h := ite_t h c3
    refine qn_sub (ls' := [(0, .ref x0)]) [1] rfl ?_
    exact w_X2_restComing_40 hX hE  k_x0 hR_m1 h
  · have h := ite_f h c3
    refine qn_aload_n hX (pc := 19) dX2_restComing_19 1 rfl rfl ?_
    refine qn_getR hX (pc := 20) fd_X2_restComing_42 dX2_restComing_20 k_x0 ?_
    refine qn_getI hX (pc := 23) fd_X2_restComing_94 dX2_restComing_23 (qr_204 hT k_x0) ?_
    refine qn_aload_n hX (pc := 26) dX2_restComing_26 1 rfl rfl ?_
    refine qn_getR hX (pc := 27) fd_X2_restComing_42 dX2_restComing_27 k_x0 ?_
    refine qn_getI hX (pc := 30) fd_X2_restComing_101 dX2_restComing_30 (qr_204 hT k_x0) ?_
    refine qn_iload_n hX (pc := 33) dX2_restComing_33 0 rfl rfl ?_
    obtain ⟨v5, m4, e_m4, h⟩ := kb2_e h
    refine qn_callSNi hX (pc := 34) [.int (iZ (gI m1 402 (gR (xG X) 204 x0))), .int (iZ (gI m1 403 (gR (xG X) 204 x0))), .int (iZ v2)] [.int (iZ v2), .int (iZ (gI m1 403 (gR (xG X) 204 x0))), .int (iZ (gI m1 402 (gR (xG X) 204 x0)))] 3 dX2_restComing_34 gX2_restComing_X7_isBetter_n104 hX.Z.2.1 (by decide +kernel) (by decide +kernel) rfl dd_X7_isBetter ⟨rfl, rfl⟩ rfl rfl rfl hR_m1 (k_X7_isBetter (xl X) hT (hR_m1.i 402 _ rfl) (hR_m1.i 403 _ rfl) r_v2 e_m4) (fun r_v5 hR_m4 => ?_)
    refine qn_if_eq hX (pc := 37) r_v5.i 44 dX2_restComing_37 (by decide) (fun c6 => ?_) (fun c6 => ?_)
    · have h := ite_t h c6
      refine qn_iconst hX (pc := 44) dX2_restComing_44 ?_
      refine qn_sub (ls' := [(0, .ref x0)]) [1] rfl ?_
      exact w_X2_restComing_45 hX hE  k_x0 (by decide) hR_m4 h
    · have h := ite_f h c6
      refine qn_sub (ls' := [(0, .ref x0)]) [1] rfl ?_
      exact w_X2_restComing_40 hX hE  k_x0 hR_m4 h
theorem k_X2_restComing (l : Launch) {G : qG} (hT : qT G) {N : Nat} {x0 : Nat} (k_x0 : gK G x0 = 3) {m0 : qM} {r : qM} (h : f_X2_restComing N G x0 m0 = some r) : qC l yX2_restComing wsX2_restComing 3 68 G [.ref x0] m0 none True r := by
  refine qn_start (hy := by decide) hT (hw := rfl) (hn := Nat.le_of_ble_eq_true rfl) ?_
  intro X h1 h2 h3 h4 hX hR
  subst h4
  exact w_X2_restComing hX ⟨h1, fun q => h2 ▸ q, h3⟩ k_x0 hR h
theorem dd_X2_restComing : yX2_restComing.cls = RX2 ∧ yX2_restComing.cls ≠ "java/lang/invoke/MethodHandle" ∧ yX2_restComing.cls ≠ "java/lang/invoke/VarHandle" ∧ (parseMethodDescriptor yX2_restComing.desc).map (fun d => d.parameters.length) = some 0 := by decide +kernel
-- ProRataMarket$Floor.comeIn
theorem hi_X2_comeIn_2 : ∀ w ∈ wsX20, w ∈ wsX2_comeIn := fun w h => List.mem_cons_of_mem _ (List.mem_append_left _ (List.mem_append_left _ (List.mem_append_left _ (List.mem_append_left _ (List.mem_append_right _ h)))))
theorem fd_X2_comeIn_42 : qFd RX2 wsX2_comeIn 42 2 4 1 204 := ⟨RX2, TX2, 12, _, rfl, hi_X2_comeIn_2, by decide, (by decide +kernel : Cond.fieldLink RX2 42 (TX2 4).1 (TX2 4).2.1 (TX2 4).2.2.1 ∈ wsX2_comeIn), rfl, rfl, by decide⟩
theorem hi_X2_comeIn_4 : ∀ w ∈ wsX40, w ∈ wsX2_comeIn := fun w h => List.mem_cons_of_mem _ (List.mem_append_left _ (List.mem_append_left _ (List.mem_append_left _ (List.mem_append_right _ h))))
theorem fd_X2_comeIn_88 : qFd RX2 wsX2_comeIn 88 4 4 0 404 := ⟨RX4, TX4, 6, _, rfl, hi_X2_comeIn_4, by decide, (by decide +kernel : Cond.fieldLink RX2 88 (TX4 4).1 (TX4 4).2.1 (TX4 4).2.2.1 ∈ wsX2_comeIn), rfl, rfl, by decide⟩
theorem fd_X2_comeIn_64 : qFd RX2 wsX2_comeIn 64 2 8 0 208 := ⟨RX2, TX2, 12, _, rfl, hi_X2_comeIn_2, by decide, (by decide +kernel : Cond.fieldLink RX2 64 (TX2 8).1 (TX2 8).2.1 (TX2 8).2.2.1 ∈ wsX2_comeIn), rfl, rfl, by decide⟩
theorem fd_X2_comeIn_12 : qFd RX2 wsX2_comeIn 12 2 0 1 200 := ⟨RX2, TX2, 12, _, rfl, hi_X2_comeIn_2, by decide, (by decide +kernel : Cond.fieldLink RX2 12 (TX2 0).1 (TX2 0).2.1 (TX2 0).2.2.1 ∈ wsX2_comeIn), rfl, rfl, by decide⟩
theorem fp_X2_comeIn_88 : qFp RX2 wsX2_comeIn 88 4 4 0 404 .int := ⟨RX4, TX4, 6, _, tyX4, rfl, hi_X2_comeIn_4, by decide, (by decide +kernel : Cond.fieldLink RX2 88 (TX4 4).1 (TX4 4).2.1 (TX4 4).2.2.1 ∈ wsX2_comeIn), rfl, rfl, by decide, tyX4_ok, nmX4, rfl, by decide +kernel⟩
theorem fp_X2_comeIn_64 : qFp RX2 wsX2_comeIn 64 2 8 0 208 .int := ⟨RX2, TX2, 12, _, tyX2, rfl, hi_X2_comeIn_2, by decide, (by decide +kernel : Cond.fieldLink RX2 64 (TX2 8).1 (TX2 8).2.1 (TX2 8).2.2.1 ∈ wsX2_comeIn), rfl, rfl, by decide, tyX2_ok, nmX2, rfl, by decide +kernel⟩
theorem fd_X2_comeIn_60 : qFd RX2 wsX2_comeIn 60 2 7 0 207 := ⟨RX2, TX2, 12, _, rfl, hi_X2_comeIn_2, by decide, (by decide +kernel : Cond.fieldLink RX2 60 (TX2 7).1 (TX2 7).2.1 (TX2 7).2.2.1 ∈ wsX2_comeIn), rfl, rfl, by decide⟩
set_option maxHeartbeats 4000000 in
set_option maxRecDepth 20000 in
theorem w_X2_comeIn_77 {X : qB} {N : Nat} (hX : qOk X cX2_comeIn RX2 6 (some .int) wsX2_comeIn 5 123) {r : Int} {nu : qM} (hE : xr X = some (.int (iZ r)) ∧ (in32 r → xΦ X) ∧ xμ X = nu) 
    {x0 : Nat} (k_x0 : gK (xG X) x0 = 3) {m0 : qM} (hR_m0 : qR (xG X) m0)
    (h : f_X2_comeIn_77 N (xG X)  x0 m0 = some (r, nu)) : qN X 6 77 [(0, .ref x0)] [] m0 := by
  have hT := hX.T
  unfold f_X2_comeIn_77 at h
  refine qn_aload_n hX (pc := 77) dX2_comeIn_77 0 rfl rfl ?_
  refine qn_getR hX (pc := 78) fd_X2_comeIn_42 dX2_comeIn_78 k_x0 ?_
  refine qn_getI hX (pc := 81) fd_X2_comeIn_88 dX2_comeIn_81 (qr_204 hT k_x0) ?_
  refine qn_if_le hX (pc := 84) (hR_m0.i 404 _ rfl) 91 dX2_comeIn_84 (by decide) (fun c1 => ?_) (fun c1 => ?_)
  · have h := ite_f h c1
    refine qn_aload_n hX (pc := 91) dX2_comeIn_91 0 rfl rfl ?_
    refine qn_getI hX (pc := 92) fd_X2_comeIn_64 dX2_comeIn_92 k_x0 ?_
    exact qn_iret hX (pc := 95) dX2_comeIn_95 hE hR_m0 (hR_m0.i 208 _ rfl) (Option.some.inj h)
  · have h := ite_t h c1
    refine qn_aload_n hX (pc := 87) dX2_comeIn_87 0 rfl rfl ?_
    obtain ⟨m2, e_m2, h⟩ := kb_e h
    refine qn_callVv hX (pc := 88) [] [] 0 dX2_comeIn_88 gX2_comeIn_X2_restComing rfl dd_X2_restComing ⟨rfl, rfl⟩ rfl rfl (by decide) k_x0 rfl rfl hR_m0 (k_X2_restComing (xl X) hT k_x0 e_m2) (fun r_v3 hR_m2 => ?_)
    refine qn_aload_n hX (pc := 91) dX2_comeIn_91 0 rfl rfl ?_
    refine qn_getI hX (pc := 92) fd_X2_comeIn_64 dX2_comeIn_92 k_x0 ?_
    exact qn_iret hX (pc := 95) dX2_comeIn_95 hE hR_m2 (hR_m2.i 208 _ rfl) (Option.some.inj h)
set_option maxHeartbeats 4000000 in
set_option maxRecDepth 20000 in
theorem w_X2_comeIn_59 {X : qB} {N : Nat} (hX : qOk X cX2_comeIn RX2 6 (some .int) wsX2_comeIn 5 123) {r : Int} {nu : qM} (hE : xr X = some (.int (iZ r)) ∧ (in32 r → xΦ X) ∧ xμ X = nu) 
    {x0 : Nat} (k_x0 : gK (xG X) x0 = 3) {m0 : qM} (hR_m0 : qR (xG X) m0)
    (h : f_X2_comeIn_59 N (xG X)  x0 m0 = some (r, nu)) : qN X 6 59 [(0, .ref x0)] [] m0 := by
  have hT := hX.T
  unfold f_X2_comeIn_59 at h
  refine qn_aload_n hX (pc := 59) dX2_comeIn_59 0 rfl rfl ?_
  refine qn_getR hX (pc := 60) fd_X2_comeIn_12 dX2_comeIn_60 k_x0 ?_
  obtain ⟨v2, m1, e_m1, h⟩ := kb2_e h
  refine qn_callVi hX (pc := 63) [] [] 0 dX2_comeIn_63 gX2_comeIn_X0_isFull rfl dd_X0_isFull ⟨rfl, rfl⟩ rfl rfl (by decide) (qr_200 hT k_x0) rfl rfl hR_m0 (k_X0_isFull (xl X) hT (qr_200 hT k_x0) e_m1) (fun r_v2 hR_m1 => ?_)
  refine qn_if_eq hX (pc := 66) r_v2.i 77 dX2_comeIn_66 (by decide) (fun c3 => ?_) (fun c3 => ?_)
  · have h := ite_t h c3
    refine qn_sub (ls' := [(0, .ref x0)]) [0] rfl ?_
    exact w_X2_comeIn_77 hX hE  k_x0 hR_m1 h
  · have h := ite_f h c3
    refine qn_aload_n hX (pc := 69) dX2_comeIn_69 0 rfl rfl ?_
    refine qn_getR hX (pc := 70) fd_X2_comeIn_42 dX2_comeIn_70 k_x0 ?_
    refine qn_iconst hX (pc := 73) dX2_comeIn_73 ?_
    obtain ⟨m4, e_m4, h⟩ := kp_e h
    refine qn_putI hX (pc := 74) fp_X2_comeIn_88 dX2_comeIn_74 (qr_204 hT k_x0) hR_m1 (show in32 0 by decide) e_m4 (fun hR_m4 => ?_) 
    refine qn_sub (ls' := [(0, .ref x0)]) [0] rfl ?_
    exact w_X2_comeIn_77 hX hE  k_x0 hR_m4 h
set_option maxHeartbeats 4000000 in
set_option maxRecDepth 20000 in
theorem w_X2_comeIn_20 {X : qB} {N : Nat} (hX : qOk X cX2_comeIn RX2 6 (some .int) wsX2_comeIn 5 123) {r : Int} {nu : qM} (hE : xr X = some (.int (iZ r)) ∧ (in32 r → xΦ X) ∧ xμ X = nu) 
    {x0 : Nat} {x1 : Int} {x2 : Int} {x3 : Int} {x4 : Int} {x5 : Int} (k_x0 : gK (xG X) x0 = 3) (r_x1 : in32 x1) (r_x2 : in32 x2) (r_x3 : in32 x3) (r_x4 : in32 x4) (r_x5 : in32 x5) {m0 : qM} (hR_m0 : qR (xG X) m0)
    (h : f_X2_comeIn_20 N (xG X)  x0 x1 x2 x3 x4 x5 m0 = some (r, nu)) : qN X 6 20 [(0, .ref x0), (1, .int (iZ x1)), (2, .int (iZ x2)), (3, .int (iZ x3)), (4, .int (iZ x4)), (5, .int (iZ x5))] [] m0 := by
  have hT := hX.T
  unfold f_X2_comeIn_20 at h
  refine qn_aload_n hX (pc := 20) dX2_comeIn_20 0 rfl rfl ?_
  refine qn_dup hX (pc := 21) dX2_comeIn_21 rfl ?_
  refine qn_getI hX (pc := 22) fd_X2_comeIn_64 dX2_comeIn_22 k_x0 ?_
  refine qn_iconst hX (pc := 25) dX2_comeIn_25 ?_
  obtain ⟨v1, e_v1, r_v1, h⟩ := ckI_e h
  refine qn_iadd hX (pc := 26) dX2_comeIn_26 e_v1 ?_
  obtain ⟨m2, e_m2, h⟩ := kp_e h
  refine qn_putI hX (pc := 27) fp_X2_comeIn_64 dX2_comeIn_27 k_x0 hR_m0 r_v1 e_m2 (fun hR_m2 => ?_) 
  refine qn_aload_n hX (pc := 30) dX2_comeIn_30 0 rfl rfl ?_
  refine qn_getR hX (pc := 31) fd_X2_comeIn_42 dX2_comeIn_31 k_x0 ?_
  refine qn_aload_n hX (pc := 34) dX2_comeIn_34 0 rfl rfl ?_
  refine qn_getI hX (pc := 35) fd_X2_comeIn_64 dX2_comeIn_35 k_x0 ?_
  refine qn_iload_n hX (pc := 38) dX2_comeIn_38 1 rfl rfl ?_
  refine qn_iload_n hX (pc := 39) dX2_comeIn_39 2 rfl rfl ?_
  refine qn_iload_n hX (pc := 40) dX2_comeIn_40 3 rfl rfl ?_
  refine qn_iload hX (pc := 41) dX2_comeIn_41 4 rfl ?_
  obtain ⟨m3, e_m3, h⟩ := kb_e h
  refine qn_callVv hX (pc := 43) [.int (iZ (gI m2 208 x0)), .int (iZ x1), .int (iZ x2), .int (iZ x3), .int (iZ x4)] [.int (iZ x4), .int (iZ x3), .int (iZ x2), .int (iZ x1), .int (iZ (gI m2 208 x0))] 5 dX2_comeIn_43 gX2_comeIn_X4_become rfl dd_X4_become ⟨rfl, rfl⟩ rfl rfl (by decide) (qr_204 hT k_x0) rfl rfl hR_m2 (k_X4_become (xl X) hT (qr_204 hT k_x0) (hR_m2.i 208 _ rfl) r_x1 r_x2 r_x3 r_x4 e_m3) (fun r_v4 hR_m3 => ?_)
  refine qn_aload_n hX (pc := 46) dX2_comeIn_46 0 rfl rfl ?_
  refine qn_getI hX (pc := 47) fd_X2_comeIn_60 dX2_comeIn_47 k_x0 ?_
  refine qn_if_ne hX (pc := 50) ((hR_m3.zz 207 _ rfl).i) 59 dX2_comeIn_50 (by decide) (fun c5 => ?_) (fun c5 => ?_)
  · have h := ite_f h c5
    refine qn_sub (ls' := [(0, .ref x0)]) [0] rfl ?_
    exact w_X2_comeIn_59 hX hE  k_x0 hR_m3 h
  · have h := ite_t h c5
    refine qn_aload_n hX (pc := 53) dX2_comeIn_53 0 rfl rfl ?_
    refine qn_iload hX (pc := 54) dX2_comeIn_54 5 rfl ?_
    obtain ⟨m6, e_m6, h⟩ := kb_e h
    refine qn_callVv hX (pc := 56) [.int (iZ x5)] [.int (iZ x5)] 1 dX2_comeIn_56 gX2_comeIn_X2_meet rfl dd_X2_meet ⟨rfl, rfl⟩ rfl rfl (by decide) k_x0 rfl rfl hR_m3 (k_X2_meet (xl X) hT k_x0 r_x5 e_m6) (fun r_v7 hR_m6 => ?_)
    refine qn_sub (ls' := [(0, .ref x0)]) [0] rfl ?_
    exact w_X2_comeIn_59 hX hE  k_x0 hR_m6 h
set_option maxHeartbeats 4000000 in
set_option maxRecDepth 20000 in
theorem w_X2_comeIn {X : qB} {N : Nat} (hX : qOk X cX2_comeIn RX2 6 (some .int) wsX2_comeIn 5 123) {r : Int} {nu : qM} (hE : xr X = some (.int (iZ r)) ∧ (in32 r → xΦ X) ∧ xμ X = nu) 
    {x0 : Nat} {x1 : Int} {x2 : Int} {x3 : Int} {x4 : Int} {x5 : Int} (k_x0 : gK (xG X) x0 = 3) (r_x1 : in32 x1) (r_x2 : in32 x2) (r_x3 : in32 x3) (r_x4 : in32 x4) (r_x5 : in32 x5) {m0 : qM} (hR_m0 : qR (xG X) m0)
    (h : f_X2_comeIn N (xG X)  x0 x1 x2 x3 x4 x5 m0 = some (r, nu)) : qN X 6 0 [(0, .ref x0), (1, .int (iZ x1)), (2, .int (iZ x2)), (3, .int (iZ x3)), (4, .int (iZ x4)), (5, .int (iZ x5))] [] m0 := by
  have hT := hX.T
  unfold f_X2_comeIn at h
  refine qn_aload_n hX (pc := 0) dX2_comeIn_0 0 rfl rfl ?_
  refine qn_getI hX (pc := 1) fd_X2_comeIn_60 dX2_comeIn_1 k_x0 ?_
  refine qn_if_eq hX (pc := 4) ((hR_m0.zz 207 _ rfl).i) 20 dX2_comeIn_4 (by decide) (fun c1 => ?_) (fun c1 => ?_)
  · have h := ite_t h c1
    refine qn_sub (ls' := [(0, .ref x0), (1, .int (iZ x1)), (2, .int (iZ x2)), (3, .int (iZ x3)), (4, .int (iZ x4)), (5, .int (iZ x5))]) [0, 1, 2, 3, 4, 5] rfl ?_
    exact w_X2_comeIn_20 hX hE  k_x0 r_x1 r_x2 r_x3 r_x4 r_x5 hR_m0 h
  · have h := ite_f h c1
    refine qn_aload_n hX (pc := 7) dX2_comeIn_7 0 rfl rfl ?_
    refine qn_getR hX (pc := 8) fd_X2_comeIn_12 dX2_comeIn_8 k_x0 ?_
    obtain ⟨v3, m2, e_m2, h⟩ := kb2_e h
    refine qn_callVi hX (pc := 11) [] [] 0 dX2_comeIn_11 gX2_comeIn_X0_isFull rfl dd_X0_isFull ⟨rfl, rfl⟩ rfl rfl (by decide) (qr_200 hT k_x0) rfl rfl hR_m0 (k_X0_isFull (xl X) hT (qr_200 hT k_x0) e_m2) (fun r_v3 hR_m2 => ?_)
    refine qn_if_eq hX (pc := 14) r_v3.i 20 dX2_comeIn_14 (by decide) (fun c4 => ?_) (fun c4 => ?_)
    · have h := ite_t h c4
      refine qn_sub (ls' := [(0, .ref x0), (1, .int (iZ x1)), (2, .int (iZ x2)), (3, .int (iZ x3)), (4, .int (iZ x4)), (5, .int (iZ x5))]) [0, 1, 2, 3, 4, 5] rfl ?_
      exact w_X2_comeIn_20 hX hE  k_x0 r_x1 r_x2 r_x3 r_x4 r_x5 hR_m2 h
    · have h := ite_f h c4
      refine qn_bipush hX (pc := 17) dX2_comeIn_17 (by decide) ?_
      exact qn_iret hX (pc := 19) dX2_comeIn_19 hE hR_m2 (by decide) (Option.some.inj h)
theorem k_X2_comeIn (l : Launch) {G : qG} (hT : qT G) {N : Nat} {x0 : Nat} {x1 : Int} {x2 : Int} {x3 : Int} {x4 : Int} {x5 : Int} (k_x0 : gK G x0 = 3) (r_x1 : in32 x1) (r_x2 : in32 x2) (r_x3 : in32 x3) (r_x4 : in32 x4) (r_x5 : in32 x5) {m0 : qM} {r : Int} {nu : qM} (h : f_X2_comeIn N G x0 x1 x2 x3 x4 x5 m0 = some (r, nu)) : qC l yX2_comeIn wsX2_comeIn 5 123 G [.ref x0, .int (iZ x1), .int (iZ x2), .int (iZ x3), .int (iZ x4), .int (iZ x5)] m0 (some (.int (iZ r))) (in32 r) nu := by
  refine qn_start (hy := by decide) hT (hw := rfl) (hn := Nat.le_of_ble_eq_true rfl) ?_
  intro X h1 h2 h3 h4 hX hR
  subst h4
  exact w_X2_comeIn hX ⟨h1, fun q => h2 ▸ q, h3⟩ k_x0 r_x1 r_x2 r_x3 r_x4 r_x5 hR h
theorem dd_X2_comeIn : yX2_comeIn.cls = RX2 ∧ yX2_comeIn.cls ≠ "java/lang/invoke/MethodHandle" ∧ yX2_comeIn.cls ≠ "java/lang/invoke/VarHandle" ∧ (parseMethodDescriptor yX2_comeIn.desc).map (fun d => d.parameters.length) = some 5 := by decide +kernel
-- ProRataMarket$Ledger.clear
theorem hi_X3_clear_3 : ∀ w ∈ wsX30, w ∈ wsX3_clear := fun w h => List.mem_cons_of_mem _ (List.mem_append_right _ h)
theorem fd_X3_clear_16 : qFd RX3 wsX3_clear 16 3 5 1 305 := ⟨RX3, TX3, 7, _, rfl, hi_X3_clear_3, by decide, (by decide +kernel : Cond.fieldLink RX3 16 (TX3 5).1 (TX3 5).2.1 (TX3 5).2.2.1 ∈ wsX3_clear), rfl, rfl, by decide⟩
theorem fd_X3_clear_20 : qFd RX3 wsX3_clear 20 3 6 1 306 := ⟨RX3, TX3, 7, _, rfl, hi_X3_clear_3, by decide, (by decide +kernel : Cond.fieldLink RX3 20 (TX3 6).1 (TX3 6).2.1 (TX3 6).2.2.1 ∈ wsX3_clear), rfl, rfl, by decide⟩
theorem fp_X3_clear_24 : qFp RX3 wsX3_clear 24 3 1 0 301 .int := ⟨RX3, TX3, 7, _, tyX3, rfl, hi_X3_clear_3, by decide, (by decide +kernel : Cond.fieldLink RX3 24 (TX3 1).1 (TX3 1).2.1 (TX3 1).2.2.1 ∈ wsX3_clear), rfl, rfl, by decide, tyX3_ok, nmX3, rfl, by decide +kernel⟩
theorem fp_X3_clear_28 : qFp RX3 wsX3_clear 28 3 2 0 302 .int := ⟨RX3, TX3, 7, _, tyX3, rfl, hi_X3_clear_3, by decide, (by decide +kernel : Cond.fieldLink RX3 28 (TX3 2).1 (TX3 2).2.1 (TX3 2).2.2.1 ∈ wsX3_clear), rfl, rfl, by decide, tyX3_ok, nmX3, rfl, by decide +kernel⟩
theorem fp_X3_clear_31 : qFp RX3 wsX3_clear 31 3 3 0 303 .int := ⟨RX3, TX3, 7, _, tyX3, rfl, hi_X3_clear_3, by decide, (by decide +kernel : Cond.fieldLink RX3 31 (TX3 3).1 (TX3 3).2.1 (TX3 3).2.2.1 ∈ wsX3_clear), rfl, rfl, by decide, tyX3_ok, nmX3, rfl, by decide +kernel⟩
theorem fp_X3_clear_34 : qFp RX3 wsX3_clear 34 3 4 0 304 .int := ⟨RX3, TX3, 7, _, tyX3, rfl, hi_X3_clear_3, by decide, (by decide +kernel : Cond.fieldLink RX3 34 (TX3 4).1 (TX3 4).2.1 (TX3 4).2.2.1 ∈ wsX3_clear), rfl, rfl, by decide, tyX3_ok, nmX3, rfl, by decide +kernel⟩
set_option maxHeartbeats 4000000 in
set_option maxRecDepth 20000 in
theorem w_X3_clear_22 {X : qB} {N : Nat} (hX : qOk X cX3_clear RX3 2 none wsX3_clear 0 0) {r : qM} (hE : xr X = none ∧ (True → xΦ X) ∧ xμ X = r) {k22 : (Nat → Int → qM → Option (qM))} (hk22 : ∀ (x0 : Nat) (x1 : Int) (m0 : qM), gK (xG X) x0 = 4 → in32 x1 → qR (xG X) m0 → k22 x0 x1 m0 = some r → qN X 2 22 [(0, .ref x0), (1, .int (iZ x1))] [] m0)
    {x0 : Nat} {x1 : Int} (k_x0 : gK (xG X) x0 = 4) (r_x1 : in32 x1) {m0 : qM} (hR_m0 : qR (xG X) m0)
    (h : f_X3_clear_22 N (xG X) k22 x0 x1 m0 = some r) : qN X 2 22 [(0, .ref x0), (1, .int (iZ x1))] [] m0 := by
  have hT := hX.T
  unfold f_X3_clear_22 at h
  refine qn_iload_n hX (pc := 22) dX3_clear_22 1 rfl rfl ?_
  refine qn_bipush hX (pc := 23) dX3_clear_23 (by decide) ?_
  refine qn_icmp_ge hX (pc := 25) r_x1 (by decide) 48 dX3_clear_25 (by decide) (fun c1 => ?_) (fun c1 => ?_)
  · have h := ite_f h c1
    exact qn_vret hX (pc := 48) dX3_clear_48 hE hR_m0 (Option.some.inj h)
  · have h := ite_t h c1
    refine qn_aload_n hX (pc := 28) dX3_clear_28 0 rfl rfl ?_
    refine qn_getR hX (pc := 29) fd_X3_clear_16 dX3_clear_29 k_x0 ?_
    refine qn_iload_n hX (pc := 32) dX3_clear_32 1 rfl rfl ?_
    refine qn_iconst hX (pc := 33) dX3_clear_33 ?_
    obtain ⟨m2, e_m2, b_m2, h⟩ := wrA_e h
    refine qn_iast hX (pc := 34) 10 dX3_clear_34 (qr_305 hT k_x0) (by decide) b_m2 hR_m0 (by decide) e_m2 (fun hR_m2 => ?_) 
    refine qn_aload_n hX (pc := 35) dX3_clear_35 0 rfl rfl ?_
    refine qn_getR hX (pc := 36) fd_X3_clear_20 dX3_clear_36 k_x0 ?_
    refine qn_iload_n hX (pc := 39) dX3_clear_39 1 rfl rfl ?_
    refine qn_lconst hX (pc := 40) 0 dX3_clear_40 (by decide) ?_
    obtain ⟨m3, e_m3, b_m3, h⟩ := wrA_e h
    refine qn_last hX (pc := 41) 10 dX3_clear_41 (qr_306 hT k_x0) (by decide) b_m3 hR_m2 (by decide) e_m3 (fun hR_m3 => ?_) 
    obtain ⟨v4, e_v4, r_v4, h⟩ := ckI_e h
    refine qn_iinc hX (pc := 42) (ls' := [(1, .int (iZ v4)), (0, .ref x0)]) dX3_clear_42 1 rfl e_v4 rfl rfl ?_
    refine qn_goto hX (pc := 45) 22 dX3_clear_45 (by decide) ?_
    refine qn_sub (ls' := [(0, .ref x0), (1, .int (iZ v4))]) [1, 0] rfl ?_
    exact hk22 x0 v4 m3 k_x0 r_v4 hR_m3 h
set_option maxHeartbeats 4000000 in
set_option maxRecDepth 20000 in
theorem w_X3_clear_L22 {X : qB} {N : Nat} (hX : qOk X cX3_clear RX3 2 none wsX3_clear 0 0) {r : qM} (hE : xr X = none ∧ (True → xΦ X) ∧ xμ X = r) 
    {x0 : Nat} {x1 : Int} (k_x0 : gK (xG X) x0 = 4) (r_x1 : in32 x1) {m0 : qM} (hR_m0 : qR (xG X) m0)
    (h : f_X3_clear_L22 N (xG X)  x0 x1 m0 = some r) : qN X 2 22 [(0, .ref x0), (1, .int (iZ x1))] [] m0 := by
  unfold f_X3_clear_L22 at h
  exact qLoop_w (σ := Nat × Int × qM) (P := fun p => gK (xG X) p.1 = 4 ∧ in32 p.2.1 ∧ qR (xG X) p.2.2) (Q := fun p => qN X 2 22 [(0, .ref p.1), (1, .int (iZ p.2.1))] [] p.2.2) (fun k hrec p hp hh => w_X3_clear_22 hX hE (fun x0 x1 m0 q0 q1 hRm hh => hrec (x0, x1, m0) ⟨q0, q1, hRm⟩ hh) hp.1 hp.2.1 hp.2.2 hh) N (x0, x1, m0) ⟨k_x0, r_x1, hR_m0⟩ h
set_option maxHeartbeats 4000000 in
set_option maxRecDepth 20000 in
theorem w_X3_clear {X : qB} {N : Nat} (hX : qOk X cX3_clear RX3 2 none wsX3_clear 0 0) {r : qM} (hE : xr X = none ∧ (True → xΦ X) ∧ xμ X = r) 
    {x0 : Nat} (k_x0 : gK (xG X) x0 = 4) {m0 : qM} (hR_m0 : qR (xG X) m0)
    (h : f_X3_clear N (xG X)  x0 m0 = some r) : qN X 2 0 [(0, .ref x0)] [] m0 := by
  have hT := hX.T
  unfold f_X3_clear at h
  refine qn_aload_n hX (pc := 0) dX3_clear_0 0 rfl rfl ?_
  refine qn_iconst hX (pc := 1) dX3_clear_1 ?_
  obtain ⟨m1, e_m1, h⟩ := kp_e h
  refine qn_putI hX (pc := 2) fp_X3_clear_24 dX3_clear_2 k_x0 hR_m0 (show in32 0 by decide) e_m1 (fun hR_m1 => ?_) 
  refine qn_aload_n hX (pc := 5) dX3_clear_5 0 rfl rfl ?_
  refine qn_iconst hX (pc := 6) dX3_clear_6 ?_
  obtain ⟨m2, e_m2, h⟩ := kp_e h
  refine qn_putI hX (pc := 7) fp_X3_clear_28 dX3_clear_7 k_x0 hR_m1 (show in32 0 by decide) e_m2 (fun hR_m2 => ?_) 
  refine qn_aload_n hX (pc := 10) dX3_clear_10 0 rfl rfl ?_
  refine qn_iconst hX (pc := 11) dX3_clear_11 ?_
  obtain ⟨m3, e_m3, h⟩ := kp_e h
  refine qn_putI hX (pc := 12) fp_X3_clear_31 dX3_clear_12 k_x0 hR_m2 (show in32 0 by decide) e_m3 (fun hR_m3 => ?_) 
  refine qn_aload_n hX (pc := 15) dX3_clear_15 0 rfl rfl ?_
  refine qn_iconst hX (pc := 16) dX3_clear_16 ?_
  obtain ⟨m4, e_m4, h⟩ := kp_e h
  refine qn_putI hX (pc := 17) fp_X3_clear_34 dX3_clear_17 k_x0 hR_m3 (show in32 0 by decide) e_m4 (fun hR_m4 => ?_) 
  refine qn_iconst hX (pc := 20) dX3_clear_20 ?_
  refine qn_istore_n hX (pc := 21) (ls' := [(1, .int (iZ 0)), (0, .ref x0)]) dX3_clear_21 rfl rfl rfl ?_
  refine qn_sub (ls' := [(0, .ref x0), (1, .int (iZ 0))]) [1, 0] rfl ?_
  exact w_X3_clear_L22 hX hE  k_x0 (by decide) hR_m4 h
theorem k_X3_clear (l : Launch) {G : qG} (hT : qT G) {N : Nat} {x0 : Nat} (k_x0 : gK G x0 = 4) {m0 : qM} {r : qM} (h : f_X3_clear N G x0 m0 = some r) : qC l yX3_clear wsX3_clear 0 0 G [.ref x0] m0 none True r := by
  refine qn_start (hy := by decide) hT (hw := rfl) (hn := Nat.le_of_ble_eq_true rfl) ?_
  intro X h1 h2 h3 h4 hX hR
  subst h4
  exact w_X3_clear hX ⟨h1, fun q => h2 ▸ q, h3⟩ k_x0 hR h
theorem dd_X3_clear : yX3_clear.cls = RX3 ∧ yX3_clear.cls ≠ "java/lang/invoke/MethodHandle" ∧ yX3_clear.cls ≠ "java/lang/invoke/VarHandle" ∧ (parseMethodDescriptor yX3_clear.desc).map (fun d => d.parameters.length) = some 0 := by decide +kernel
-- ProRataMarket$Floor.prepareTrial
theorem hi_X2_prepareTrial_2 : ∀ w ∈ wsX20, w ∈ wsX2_prepareTrial := fun w h => List.mem_cons_of_mem _ (List.mem_append_left _ (List.mem_append_left _ (List.mem_append_left _ (List.mem_append_right _ h))))
theorem fd_X2_prepareTrial_12 : qFd RX2 wsX2_prepareTrial 12 2 0 1 200 := ⟨RX2, TX2, 12, _, rfl, hi_X2_prepareTrial_2, by decide, (by decide +kernel : Cond.fieldLink RX2 12 (TX2 0).1 (TX2 0).2.1 (TX2 0).2.2.1 ∈ wsX2_prepareTrial), rfl, rfl, by decide⟩
theorem fd_X2_prepareTrial_21 : qFd RX2 wsX2_prepareTrial 21 2 1 1 201 := ⟨RX2, TX2, 12, _, rfl, hi_X2_prepareTrial_2, by decide, (by decide +kernel : Cond.fieldLink RX2 21 (TX2 1).1 (TX2 1).2.1 (TX2 1).2.2.1 ∈ wsX2_prepareTrial), rfl, rfl, by decide⟩
theorem fd_X2_prepareTrial_46 : qFd RX2 wsX2_prepareTrial 46 2 5 0 205 := ⟨RX2, TX2, 12, _, rfl, hi_X2_prepareTrial_2, by decide, (by decide +kernel : Cond.fieldLink RX2 46 (TX2 5).1 (TX2 5).2.1 (TX2 5).2.2.1 ∈ wsX2_prepareTrial), rfl, rfl, by decide⟩
theorem fp_X2_prepareTrial_46 : qFp RX2 wsX2_prepareTrial 46 2 5 0 205 .int := ⟨RX2, TX2, 12, _, tyX2, rfl, hi_X2_prepareTrial_2, by decide, (by decide +kernel : Cond.fieldLink RX2 46 (TX2 5).1 (TX2 5).2.1 (TX2 5).2.2.1 ∈ wsX2_prepareTrial), rfl, rfl, by decide, tyX2_ok, nmX2, rfl, by decide +kernel⟩
theorem fd_X2_prepareTrial_50 : qFd RX2 wsX2_prepareTrial 50 2 6 0 206 := ⟨RX2, TX2, 12, _, rfl, hi_X2_prepareTrial_2, by decide, (by decide +kernel : Cond.fieldLink RX2 50 (TX2 6).1 (TX2 6).2.1 (TX2 6).2.2.1 ∈ wsX2_prepareTrial), rfl, rfl, by decide⟩
theorem fp_X2_prepareTrial_50 : qFp RX2 wsX2_prepareTrial 50 2 6 0 206 .int := ⟨RX2, TX2, 12, _, tyX2, rfl, hi_X2_prepareTrial_2, by decide, (by decide +kernel : Cond.fieldLink RX2 50 (TX2 6).1 (TX2 6).2.1 (TX2 6).2.2.1 ∈ wsX2_prepareTrial), rfl, rfl, by decide, tyX2_ok, nmX2, rfl, by decide +kernel⟩
theorem fp_X2_prepareTrial_60 : qFp RX2 wsX2_prepareTrial 60 2 7 0 207 .boolean := ⟨RX2, TX2, 12, _, tyX2, rfl, hi_X2_prepareTrial_2, by decide, (by decide +kernel : Cond.fieldLink RX2 60 (TX2 7).1 (TX2 7).2.1 (TX2 7).2.2.1 ∈ wsX2_prepareTrial), rfl, rfl, by decide, tyX2_ok, nmX2, rfl, by decide +kernel⟩
theorem fd_X2_prepareTrial_64 : qFd RX2 wsX2_prepareTrial 64 2 8 0 208 := ⟨RX2, TX2, 12, _, rfl, hi_X2_prepareTrial_2, by decide, (by decide +kernel : Cond.fieldLink RX2 64 (TX2 8).1 (TX2 8).2.1 (TX2 8).2.2.1 ∈ wsX2_prepareTrial), rfl, rfl, by decide⟩
theorem fp_X2_prepareTrial_64 : qFp RX2 wsX2_prepareTrial 64 2 8 0 208 .int := ⟨RX2, TX2, 12, _, tyX2, rfl, hi_X2_prepareTrial_2, by decide, (by decide +kernel : Cond.fieldLink RX2 64 (TX2 8).1 (TX2 8).2.1 (TX2 8).2.2.1 ∈ wsX2_prepareTrial), rfl, rfl, by decide, tyX2_ok, nmX2, rfl, by decide +kernel⟩
theorem fp_X2_prepareTrial_67 : qFp RX2 wsX2_prepareTrial 67 2 9 0 209 .int := ⟨RX2, TX2, 12, _, tyX2, rfl, hi_X2_prepareTrial_2, by decide, (by decide +kernel : Cond.fieldLink RX2 67 (TX2 9).1 (TX2 9).2.1 (TX2 9).2.2.1 ∈ wsX2_prepareTrial), rfl, rfl, by decide, tyX2_ok, nmX2, rfl, by decide +kernel⟩
theorem fp_X2_prepareTrial_70 : qFp RX2 wsX2_prepareTrial 70 2 10 0 210 .int := ⟨RX2, TX2, 12, _, tyX2, rfl, hi_X2_prepareTrial_2, by decide, (by decide +kernel : Cond.fieldLink RX2 70 (TX2 10).1 (TX2 10).2.1 (TX2 10).2.2.1 ∈ wsX2_prepareTrial), rfl, rfl, by decide, tyX2_ok, nmX2, rfl, by decide +kernel⟩
theorem fp_X2_prepareTrial_73 : qFp RX2 wsX2_prepareTrial 73 2 11 0 211 .int := ⟨RX2, TX2, 12, _, tyX2, rfl, hi_X2_prepareTrial_2, by decide, (by decide +kernel : Cond.fieldLink RX2 73 (TX2 11).1 (TX2 11).2.1 (TX2 11).2.2.1 ∈ wsX2_prepareTrial), rfl, rfl, by decide, tyX2_ok, nmX2, rfl, by decide +kernel⟩
set_option maxHeartbeats 4000000 in
set_option maxRecDepth 20000 in
theorem w_X2_prepareTrial {X : qB} {N : Nat} (hX : qOk X cX2_prepareTrial RX2 2 none wsX2_prepareTrial 3 68) {r : qM} (hE : xr X = none ∧ (True → xΦ X) ∧ xμ X = r) 
    {x0 : Nat} {x1 : Nat} (k_x0 : gK (xG X) x0 = 3) (k_x1 : gK (xG X) x1 = 3) {m0 : qM} (hR_m0 : qR (xG X) m0)
    (h : f_X2_prepareTrial N (xG X)  x0 x1 m0 = some r) : qN X 2 0 [(0, .ref x0), (1, .ref x1)] [] m0 := by
  have hT := hX.T
  unfold f_X2_prepareTrial at h
  refine qn_aload_n hX (pc := 0) dX2_prepareTrial_0 0 rfl rfl ?_
  refine qn_getR hX (pc := 1) fd_X2_prepareTrial_12 dX2_prepareTrial_1 k_x0 ?_
  refine qn_aload_n hX (pc := 4) dX2_prepareTrial_4 1 rfl rfl ?_
  refine qn_getR hX (pc := 5) fd_X2_prepareTrial_12 dX2_prepareTrial_5 k_x1 ?_
  obtain ⟨m1, e_m1, h⟩ := kb_e h
  refine qn_callVv hX (pc := 8) [.ref (gR (xG X) 200 x1)] [.ref (gR (xG X) 200 x1)] 1 dX2_prepareTrial_8 gX2_prepareTrial_X0_copyFrom rfl dd_X0_copyFrom ⟨rfl, rfl⟩ rfl rfl (by decide) (qr_200 hT k_x0) rfl rfl hR_m0 (k_X0_copyFrom (xl X) hT (qr_200 hT k_x0) (qr_200 hT k_x1) e_m1) (fun r_v2 hR_m1 => ?_)
  refine qn_aload_n hX (pc := 11) dX2_prepareTrial_11 0 rfl rfl ?_
  refine qn_getR hX (pc := 12) fd_X2_prepareTrial_21 dX2_prepareTrial_12 k_x0 ?_
  obtain ⟨m3, e_m3, h⟩ := kb_e h
  refine qn_callVv hX (pc := 15) [] [] 0 dX2_prepareTrial_15 gX2_prepareTrial_X3_clear rfl dd_X3_clear ⟨rfl, rfl⟩ rfl rfl (by decide) (qr_201 hT k_x0) rfl rfl hR_m1 (k_X3_clear (xl X) hT (qr_201 hT k_x0) e_m3) (fun r_v4 hR_m3 => ?_)
  refine qn_aload_n hX (pc := 18) dX2_prepareTrial_18 0 rfl rfl ?_
  refine qn_aload_n hX (pc := 19) dX2_prepareTrial_19 1 rfl rfl ?_
  refine qn_getI hX (pc := 20) fd_X2_prepareTrial_46 dX2_prepareTrial_20 k_x1 ?_
  obtain ⟨m5, e_m5, h⟩ := kp_e h
  refine qn_putI hX (pc := 23) fp_X2_prepareTrial_46 dX2_prepareTrial_23 k_x0 hR_m3 (hR_m3.i 205 _ rfl) e_m5 (fun hR_m5 => ?_) 
  refine qn_aload_n hX (pc := 26) dX2_prepareTrial_26 0 rfl rfl ?_
  refine qn_aload_n hX (pc := 27) dX2_prepareTrial_27 1 rfl rfl ?_
  refine qn_getI hX (pc := 28) fd_X2_prepareTrial_50 dX2_prepareTrial_28 k_x1 ?_
  obtain ⟨m6, e_m6, h⟩ := kp_e h
  refine qn_putI hX (pc := 31) fp_X2_prepareTrial_50 dX2_prepareTrial_31 k_x0 hR_m5 (hR_m5.i 206 _ rfl) e_m6 (fun hR_m6 => ?_) 
  refine qn_aload_n hX (pc := 34) dX2_prepareTrial_34 0 rfl rfl ?_
  refine qn_iconst hX (pc := 35) dX2_prepareTrial_35 ?_
  obtain ⟨m7, e_m7, h⟩ := kp_e h
  refine qn_putZ hX (pc := 36) fp_X2_prepareTrial_60 dX2_prepareTrial_36 k_x0 hR_m6 (show in01 0 by decide) (by decide) e_m7 (fun hR_m7 => ?_) 
  refine qn_aload_n hX (pc := 39) dX2_prepareTrial_39 0 rfl rfl ?_
  refine qn_aload_n hX (pc := 40) dX2_prepareTrial_40 1 rfl rfl ?_
  refine qn_getI hX (pc := 41) fd_X2_prepareTrial_64 dX2_prepareTrial_41 k_x1 ?_
  obtain ⟨m8, e_m8, h⟩ := kp_e h
  refine qn_putI hX (pc := 44) fp_X2_prepareTrial_64 dX2_prepareTrial_44 k_x0 hR_m7 (hR_m7.i 208 _ rfl) e_m8 (fun hR_m8 => ?_) 
  refine qn_aload_n hX (pc := 47) dX2_prepareTrial_47 0 rfl rfl ?_
  refine qn_iconst hX (pc := 48) dX2_prepareTrial_48 ?_
  obtain ⟨m9, e_m9, h⟩ := kp_e h
  refine qn_putI hX (pc := 49) fp_X2_prepareTrial_67 dX2_prepareTrial_49 k_x0 hR_m8 (show in32 0 by decide) e_m9 (fun hR_m9 => ?_) 
  refine qn_aload_n hX (pc := 52) dX2_prepareTrial_52 0 rfl rfl ?_
  refine qn_iconst hX (pc := 53) dX2_prepareTrial_53 ?_
  obtain ⟨m10, e_m10, h⟩ := kp_e h
  refine qn_putI hX (pc := 54) fp_X2_prepareTrial_70 dX2_prepareTrial_54 k_x0 hR_m9 (show in32 0 by decide) e_m10 (fun hR_m10 => ?_) 
  refine qn_aload_n hX (pc := 57) dX2_prepareTrial_57 0 rfl rfl ?_
  refine qn_iconst hX (pc := 58) dX2_prepareTrial_58 ?_
  obtain ⟨m11, e_m11, h⟩ := kp_e h
  refine qn_putI hX (pc := 59) fp_X2_prepareTrial_73 dX2_prepareTrial_59 k_x0 hR_m10 (show in32 0 by decide) e_m11 (fun hR_m11 => ?_) 
  exact qn_vret hX (pc := 62) dX2_prepareTrial_62 hE hR_m11 (Option.some.inj h)
theorem k_X2_prepareTrial (l : Launch) {G : qG} (hT : qT G) {N : Nat} {x0 : Nat} {x1 : Nat} (k_x0 : gK G x0 = 3) (k_x1 : gK G x1 = 3) {m0 : qM} {r : qM} (h : f_X2_prepareTrial N G x0 x1 m0 = some r) : qC l yX2_prepareTrial wsX2_prepareTrial 3 68 G [.ref x0, .ref x1] m0 none True r := by
  refine qn_start (hy := by decide) hT (hw := rfl) (hn := Nat.le_of_ble_eq_true rfl) ?_
  intro X h1 h2 h3 h4 hX hR
  subst h4
  exact w_X2_prepareTrial hX ⟨h1, fun q => h2 ▸ q, h3⟩ k_x0 k_x1 hR h
theorem dd_X2_prepareTrial : yX2_prepareTrial.cls = RX2 ∧ yX2_prepareTrial.cls ≠ "java/lang/invoke/MethodHandle" ∧ yX2_prepareTrial.cls ≠ "java/lang/invoke/VarHandle" ∧ (parseMethodDescriptor yX2_prepareTrial.desc).map (fun d => d.parameters.length) = some 1 := by decide +kernel
-- ProRataMarket$Ledger.told
theorem hi_X3_told_3 : ∀ w ∈ wsX30, w ∈ wsX3_told := fun w h => List.mem_cons_of_mem _ (List.mem_append_right _ h)
theorem fd_X3_told_11 : qFd RX3 wsX3_told 11 3 0 1 300 := ⟨RX3, TX3, 7, _, rfl, hi_X3_told_3, by decide, (by decide +kernel : Cond.fieldLink RX3 11 (TX3 0).1 (TX3 0).2.1 (TX3 0).2.2.1 ∈ wsX3_told), rfl, rfl, by decide⟩
theorem fd_X3_told_28 : qFd RX3 wsX3_told 28 3 2 0 302 := ⟨RX3, TX3, 7, _, rfl, hi_X3_told_3, by decide, (by decide +kernel : Cond.fieldLink RX3 28 (TX3 2).1 (TX3 2).2.1 (TX3 2).2.2.1 ∈ wsX3_told), rfl, rfl, by decide⟩
set_option maxHeartbeats 4000000 in
set_option maxRecDepth 20000 in
theorem w_X3_told {X : qB} {N : Nat} (hX : qOk X cX3_told RX3 3 (some .int) wsX3_told 1 22) {r : Int} {nu : qM} (hE : xr X = some (.int (iZ r)) ∧ (in32 r → xΦ X) ∧ xμ X = nu) 
    {x0 : Nat} {x1 : Int} {x2 : Int} (k_x0 : gK (xG X) x0 = 4) (r_x1 : in32 x1) (r_x2 : in32 x2) {m0 : qM} (hR_m0 : qR (xG X) m0)
    (h : f_X3_told N (xG X)  x0 x1 x2 m0 = some (r, nu)) : qN X 3 0 [(0, .ref x0), (1, .int (iZ x1)), (2, .int (iZ x2))] [] m0 := by
  have hT := hX.T
  unfold f_X3_told at h
  refine qn_aload_n hX (pc := 0) dX3_told_0 0 rfl rfl ?_
  refine qn_getR hX (pc := 1) fd_X3_told_11 dX3_told_1 k_x0 ?_
  refine qn_aload_n hX (pc := 4) dX3_told_4 0 rfl rfl ?_
  refine qn_getI hX (pc := 5) fd_X3_told_28 dX3_told_5 k_x0 ?_
  refine qn_iconst hX (pc := 8) dX3_told_8 ?_
  obtain ⟨v1, e_v1, r_v1, h⟩ := ckI_e h
  refine qn_isub hX (pc := 9) dX3_told_9 e_v1 ?_
  refine qn_iload_n hX (pc := 10) dX3_told_10 1 rfl rfl ?_
  obtain ⟨v2, e_v2, r_v2, h⟩ := ckI_e h
  refine qn_isub hX (pc := 11) dX3_told_11 e_v2 ?_
  refine qn_bipush hX (pc := 12) dX3_told_12 (by decide) ?_
  obtain ⟨v4, m3, e_m3, h⟩ := kb2_e h
  refine qn_callSi hX (pc := 14) [.int (iZ v2), .int (iZ 60)] [.int (iZ 60), .int (iZ v2)] 2 dX3_told_14 gX3_told_J9_floorMod_7cf53 rfl dd_J9_floorMod_7cf53 ⟨rfl, rfl⟩ rfl rfl rfl hR_m0 (k_J9_floorMod_7cf53 (xl X) hT r_v2 (by decide) e_m3) (fun r_v4 hR_m3 => ?_)
  obtain ⟨o5, e_o5, b_o5, k_o5, h⟩ := rdQ_e h
  refine qn_aaldR hX (pc := 17) 60 dX3_told_17 (qr_300 hT k_x0) (by decide) b_o5 e_o5 ?_
  refine qn_iload_n hX (pc := 18) dX3_told_18 2 rfl rfl ?_
  obtain ⟨v6, e_v6, b_v6, h⟩ := rdA_e h
  have r_v6 : in32 v6 := by rw [e_v6]; exact hR_m3.a (n := 5) _ k_o5 (by decide)
  refine qn_iald hX (pc := 19) 5 dX3_told_19 k_o5 (by decide) b_v6 e_v6 ?_
  exact qn_iret hX (pc := 20) dX3_told_20 hE hR_m3 r_v6 (Option.some.inj h)
theorem k_X3_told (l : Launch) {G : qG} (hT : qT G) {N : Nat} {x0 : Nat} {x1 : Int} {x2 : Int} (k_x0 : gK G x0 = 4) (r_x1 : in32 x1) (r_x2 : in32 x2) {m0 : qM} {r : Int} {nu : qM} (h : f_X3_told N G x0 x1 x2 m0 = some (r, nu)) : qC l yX3_told wsX3_told 1 22 G [.ref x0, .int (iZ x1), .int (iZ x2)] m0 (some (.int (iZ r))) (in32 r) nu := by
  refine qn_start (hy := by decide) hT (hw := rfl) (hn := Nat.le_of_ble_eq_true rfl) ?_
  intro X h1 h2 h3 h4 hX hR
  subst h4
  exact w_X3_told hX ⟨h1, fun q => h2 ▸ q, h3⟩ k_x0 r_x1 r_x2 hR h
theorem dd_X3_told : yX3_told.cls = RX3 ∧ yX3_told.cls ≠ "java/lang/invoke/MethodHandle" ∧ yX3_told.cls ≠ "java/lang/invoke/VarHandle" ∧ (parseMethodDescriptor yX3_told.desc).map (fun d => d.parameters.length) = some 2 := by decide +kernel
