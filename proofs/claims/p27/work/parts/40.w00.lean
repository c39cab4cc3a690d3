-- java/lang/Math.floorMod
set_option maxHeartbeats 4000000 in
set_option maxRecDepth 20000 in
theorem w_J9_floorMod_7cf53 {X : qB} {N : Nat} (hX : qOk X cJ9_floorMod_7cf53 RJ9 3 (some .int) wsJ9_floorMod_7cf53 0 0) {r : Int} {nu : qM} (hE : xr X = some (.int (iZ r)) ∧ (in32 r → xΦ X) ∧ xμ X = nu) 
    {x0 : Int} {x1 : Int} (r_x0 : in32 x0) (r_x1 : in32 x1) {m0 : qM} (hR_m0 : qR (xG X) m0)
    (h : f_J9_floorMod_7cf53 N (xG X)  x0 x1 m0 = some (r, nu)) : qN X 3 0 [(0, .int (iZ x0)), (1, .int (iZ x1))] [] m0 := by
  have hT := hX.T
  unfold f_J9_floorMod_7cf53 at h
  refine qn_iload_n hX (pc := 0) dJ9_floorMod_7cf53_0 0 rfl rfl ?_
  refine qn_iload_n hX (pc := 1) dJ9_floorMod_7cf53_1 1 rfl rfl ?_
  obtain ⟨n_v1, h⟩ := ckD_e h
  obtain ⟨v1, e_v1, r_v1, h⟩ := ckI_e h
  refine qn_irem hX (pc := 2) r_x0 r_x1 n_v1 dJ9_floorMod_7cf53_2 e_v1 ?_
  refine qn_istore_n hX (pc := 3) (ls' := [(2, .int (iZ v1)), (0, .int (iZ x0)), (1, .int (iZ x1))]) dJ9_floorMod_7cf53_3 rfl rfl rfl ?_
  refine qn_iload_n hX (pc := 4) dJ9_floorMod_7cf53_4 1 rfl rfl ?_
  refine qn_iload_n hX (pc := 5) dJ9_floorMod_7cf53_5 2 rfl rfl ?_
  obtain ⟨v2, e_v2, h⟩ := kp_e h
  have r_v2 : in32 v2 := by rw [e_v2]; exact in32_of _
  refine qn_ixor hX (pc := 6) dJ9_floorMod_7cf53_6 e_v2 ?_
  refine qn_if_ge hX (pc := 7) r_v2 18 dJ9_floorMod_7cf53_7 (by decide) (fun c3 => ?_) (fun c3 => ?_)
  · have h := ite_f h c3
    refine qn_iload_n hX (pc := 18) dJ9_floorMod_7cf53_18 0 rfl rfl ?_
    exact qn_iret hX (pc := 19) dJ9_floorMod_7cf53_19 hE hR_m0 r_v1 (Option.some.inj h)
  · have h := ite_t h c3
    refine qn_iload_n hX (pc := 10) dJ9_floorMod_7cf53_10 0 rfl rfl ?_
    refine qn_if_eq hX (pc := 11) r_v1 18 dJ9_floorMod_7cf53_11 (by decide) (fun c4 => ?_) (fun c4 => ?_)
    · have h := ite_t h c4
      refine qn_iload_n hX (pc := 18) dJ9_floorMod_7cf53_18 0 rfl rfl ?_
      exact qn_iret hX (pc := 19) dJ9_floorMod_7cf53_19 hE hR_m0 r_v1 (Option.some.inj h)
    · have h := ite_f h c4
      refine qn_iload_n hX (pc := 14) dJ9_floorMod_7cf53_14 0 rfl rfl ?_
      refine qn_iload_n hX (pc := 15) dJ9_floorMod_7cf53_15 2 rfl rfl ?_
      obtain ⟨v5, e_v5, r_v5, h⟩ := ckI_e h
      refine qn_iadd hX (pc := 16) dJ9_floorMod_7cf53_16 e_v5 ?_
      exact qn_iret hX (pc := 17) dJ9_floorMod_7cf53_17 hE hR_m0 r_v5 (Option.some.inj h)
theorem k_J9_floorMod_7cf53 (l : Launch) {G : qG} (hT : qT G) {N : Nat} {x0 : Int} {x1 : Int} (r_x0 : in32 x0) (r_x1 : in32 x1) {m0 : qM} {r : Int} {nu : qM} (h : f_J9_floorMod_7cf53 N G x0 x1 m0 = some (r, nu)) : qC l yJ9_floorMod_7cf53 wsJ9_floorMod_7cf53 0 0 G [.int (iZ x0), .int (iZ x1)] m0 (some (.int (iZ r))) (in32 r) nu := by
  refine qn_startF (hy := by decide +kernel) hT (hw := rfl) (hn := Nat.le_of_ble_eq_true rfl) ?_
  intro X h1 h2 h3 h4 hX hR
  subst h4
  exact w_J9_floorMod_7cf53 hX ⟨h1, fun q => h2 ▸ q, h3⟩ r_x0 r_x1 hR h
theorem dd_J9_floorMod_7cf53 : yJ9_floorMod_7cf53.cls ≠ "java/lang/invoke/MethodHandle" ∧ yJ9_floorMod_7cf53.cls ≠ "java/lang/invoke/VarHandle" ∧ (parseMethodDescriptor yJ9_floorMod_7cf53.desc).map (fun d => d.parameters.length) = some 2 := by decide +kernel
-- ProRataMarket$Book.isFull
theorem hi_X0_isFull_0 : ∀ w ∈ wsX00, w ∈ wsX0_isFull := fun w h => List.mem_cons_of_mem _ (List.mem_append_right _ h)
theorem fd_X0_isFull_25 : qFd RX0 wsX0_isFull 25 0 1 0 1 := ⟨RX0, TX0, 4, _, rfl, hi_X0_isFull_0, by decide, (by decide +kernel : Cond.fieldLink RX0 25 (TX0 1).1 (TX0 1).2.1 (TX0 1).2.2.1 ∈ wsX0_isFull), rfl, rfl, by decide⟩
set_option maxHeartbeats 4000000 in
set_option maxRecDepth 20000 in
theorem w_X0_isFull {X : qB} {N : Nat} (hX : qOk X cX0_isFull RX0 1 (some .boolean) wsX0_isFull 0 0) {r : Int} {nu : qM} (hE : xr X = some (.int (iZ r)) ∧ (in01 r → xΦ X) ∧ xμ X = nu) 
    {x0 : Nat} (k_x0 : gK (xG X) x0 = 1) {m0 : qM} (hR_m0 : qR (xG X) m0)
    (h : f_X0_isFull N (xG X)  x0 m0 = some (r, nu)) : qN X 1 0 [(0, .ref x0)] [] m0 := by
  have hT := hX.T
  unfold f_X0_isFull at h
  refine qn_aload_n hX (pc := 0) dX0_isFull_0 0 rfl rfl ?_
  refine qn_getI hX (pc := 1) fd_X0_isFull_25 dX0_isFull_1 k_x0 ?_
  refine qn_bipush hX (pc := 4) dX0_isFull_4 (by decide) ?_
  refine qn_icmp_lt hX (pc := 6) (hR_m0.i 1 _ rfl) (by decide) 13 dX0_isFull_6 (by decide) (fun c1 => ?_) (fun c1 => ?_)
  · have h := ite_t h c1
    refine qn_iconst hX (pc := 13) dX0_isFull_13 ?_
    exact qn_zret hX (pc := 14) dX0_isFull_14 hE hR_m0 (by decide) (Option.some.inj h)
  · have h := ite_f h c1
    refine qn_iconst hX (pc := 9) dX0_isFull_9 ?_
    refine qn_goto hX (pc := 10) 14 dX0_isFull_10 (by decide) ?_
    exact qn_zret hX (pc := 14) dX0_isFull_14 hE hR_m0 (by decide) (Option.some.inj h)
theorem k_X0_isFull (l : Launch) {G : qG} (hT : qT G) {N : Nat} {x0 : Nat} (k_x0 : gK G x0 = 1) {m0 : qM} {r : Int} {nu : qM} (h : f_X0_isFull N G x0 m0 = some (r, nu)) : qC l yX0_isFull wsX0_isFull 0 0 G [.ref x0] m0 (some (.int (iZ r))) (in01 r) nu := by
  refine qn_start (hy := by decide) hT (hw := rfl) (hn := Nat.le_of_ble_eq_true rfl) ?_
  intro X h1 h2 h3 h4 hX hR
  subst h4
  exact w_X0_isFull hX ⟨h1, fun q => h2 ▸ q, h3⟩ k_x0 hR h
theorem dd_X0_isFull : yX0_isFull.cls = RX0 ∧ yX0_isFull.cls ≠ "java/lang/invoke/MethodHandle" ∧ yX0_isFull.cls ≠ "java/lang/invoke/VarHandle" ∧ (parseMethodDescriptor yX0_isFull.desc).map (fun d => d.parameters.length) = some 0 := by decide +kernel
-- ProRataMarket$Order.become
theorem hi_X4_become_4 : ∀ w ∈ wsX40, w ∈ wsX4_become := fun w h => List.mem_cons_of_mem _ (List.mem_append_right _ h)
theorem fp_X4_become_7 : qFp RX4 wsX4_become 7 4 0 0 400 .int := ⟨RX4, TX4, 6, _, tyX4, rfl, hi_X4_become_4, by decide, (by decide +kernel : Cond.fieldLink RX4 7 (TX4 0).1 (TX4 0).2.1 (TX4 0).2.2.1 ∈ wsX4_become), rfl, rfl, by decide, tyX4_ok, nmX4, rfl, by decide +kernel⟩
theorem fp_X4_become_13 : qFp RX4 wsX4_become 13 4 1 0 401 .int := ⟨RX4, TX4, 6, _, tyX4, rfl, hi_X4_become_4, by decide, (by decide +kernel : Cond.fieldLink RX4 13 (TX4 1).1 (TX4 1).2.1 (TX4 1).2.2.1 ∈ wsX4_become), rfl, rfl, by decide, tyX4_ok, nmX4, rfl, by decide +kernel⟩
theorem fp_X4_become_16 : qFp RX4 wsX4_become 16 4 2 0 402 .int := ⟨RX4, TX4, 6, _, tyX4, rfl, hi_X4_become_4, by decide, (by decide +kernel : Cond.fieldLink RX4 16 (TX4 2).1 (TX4 2).2.1 (TX4 2).2.2.1 ∈ wsX4_become), rfl, rfl, by decide, tyX4_ok, nmX4, rfl, by decide +kernel⟩
theorem fp_X4_become_19 : qFp RX4 wsX4_become 19 4 3 0 403 .int := ⟨RX4, TX4, 6, _, tyX4, rfl, hi_X4_become_4, by decide, (by decide +kernel : Cond.fieldLink RX4 19 (TX4 3).1 (TX4 3).2.1 (TX4 3).2.2.1 ∈ wsX4_become), rfl, rfl, by decide, tyX4_ok, nmX4, rfl, by decide +kernel⟩
theorem fp_X4_become_22 : qFp RX4 wsX4_become 22 4 4 0 404 .int := ⟨RX4, TX4, 6, _, tyX4, rfl, hi_X4_become_4, by decide, (by decide +kernel : Cond.fieldLink RX4 22 (TX4 4).1 (TX4 4).2.1 (TX4 4).2.2.1 ∈ wsX4_become), rfl, rfl, by decide, tyX4_ok, nmX4, rfl, by decide +kernel⟩
theorem fp_X4_become_25 : qFp RX4 wsX4_become 25 4 5 0 405 .int := ⟨RX4, TX4, 6, _, tyX4, rfl, hi_X4_become_4, by decide, (by decide +kernel : Cond.fieldLink RX4 25 (TX4 5).1 (TX4 5).2.1 (TX4 5).2.2.1 ∈ wsX4_become), rfl, rfl, by decide, tyX4_ok, nmX4, rfl, by decide +kernel⟩
set_option maxHeartbeats 4000000 in
set_option maxRecDepth 20000 in
theorem w_X4_become {X : qB} {N : Nat} (hX : qOk X cX4_become RX4 6 none wsX4_become 0 0) {r : qM} (hE : xr X = none ∧ (True → xΦ X) ∧ xμ X = r) 
    {x0 : Nat} {x1 : Int} {x2 : Int} {x3 : Int} {x4 : Int} {x5 : Int} (k_x0 : gK (xG X) x0 = 5) (r_x1 : in32 x1) (r_x2 : in32 x2) (r_x3 : in32 x3) (r_x4 : in32 x4) (r_x5 : in32 x5) {m0 : qM} (hR_m0 : qR (xG X) m0)
    (h : f_X4_become N (xG X)  x0 x1 x2 x3 x4 x5 m0 = some r) : qN X 6 0 [(0, .ref x0), (1, .int (iZ x1)), (2, .int (iZ x2)), (3, .int (iZ x3)), (4, .int (iZ x4)), (5, .int (iZ x5))] [] m0 := by
  have hT := hX.T
  unfold f_X4_become at h
  refine qn_aload_n hX (pc := 0) dX4_become_0 0 rfl rfl ?_
  refine qn_iload_n hX (pc := 1) dX4_become_1 1 rfl rfl ?_
  obtain ⟨m1, e_m1, h⟩ := kp_e h
  refine qn_putI hX (pc := 2) fp_X4_become_7 dX4_become_2 k_x0 hR_m0 r_x1 e_m1 (fun hR_m1 => ?_) 
  refine qn_aload_n hX (pc := 5) dX4_become_5 0 rfl rfl ?_
  refine qn_iload_n hX (pc := 6) dX4_become_6 2 rfl rfl ?_
  obtain ⟨m2, e_m2, h⟩ := kp_e h
  refine qn_putI hX (pc := 7) fp_X4_become_13 dX4_become_7 k_x0 hR_m1 r_x2 e_m2 (fun hR_m2 => ?_) 
  refine qn_aload_n hX (pc := 10) dX4_become_10 0 rfl rfl ?_
  refine qn_iload_n hX (pc := 11) dX4_become_11 3 rfl rfl ?_
  obtain ⟨m3, e_m3, h⟩ := kp_e h
  refine qn_putI hX (pc := 12) fp_X4_become_16 dX4_become_12 k_x0 hR_m2 r_x3 e_m3 (fun hR_m3 => ?_) 
  refine qn_aload_n hX (pc := 15) dX4_become_15 0 rfl rfl ?_
  refine qn_iload hX (pc := 16) dX4_become_16 4 rfl ?_
  obtain ⟨m4, e_m4, h⟩ := kp_e h
  refine qn_putI hX (pc := 18) fp_X4_become_19 dX4_become_18 k_x0 hR_m3 r_x4 e_m4 (fun hR_m4 => ?_) 
  refine qn_aload_n hX (pc := 21) dX4_become_21 0 rfl rfl ?_
  refine qn_iload hX (pc := 22) dX4_become_22 5 rfl ?_
  obtain ⟨m5, e_m5, h⟩ := kp_e h
  refine qn_putI hX (pc := 24) fp_X4_become_22 dX4_become_24 k_x0 hR_m4 r_x5 e_m5 (fun hR_m5 => ?_) 
  refine qn_aload_n hX (pc := 27) dX4_become_27 0 rfl rfl ?_
  refine qn_iload hX (pc := 28) dX4_become_28 5 rfl ?_
  obtain ⟨m6, e_m6, h⟩ := kp_e h
  refine qn_putI hX (pc := 30) fp_X4_become_25 dX4_become_30 k_x0 hR_m5 r_x5 e_m6 (fun hR_m6 => ?_) 
  exact qn_vret hX (pc := 33) dX4_become_33 hE hR_m6 (Option.some.inj h)
theorem k_X4_become (l : Launch) {G : qG} (hT : qT G) {N : Nat} {x0 : Nat} {x1 : Int} {x2 : Int} {x3 : Int} {x4 : Int} {x5 : Int} (k_x0 : gK G x0 = 5) (r_x1 : in32 x1) (r_x2 : in32 x2) (r_x3 : in32 x3) (r_x4 : in32 x4) (r_x5 : in32 x5) {m0 : qM} {r : qM} (h : f_X4_become N G x0 x1 x2 x3 x4 x5 m0 = some r) : qC l yX4_become wsX4_become 0 0 G [.ref x0, .int (iZ x1), .int (iZ x2), .int (iZ x3), .int (iZ x4), .int (iZ x5)] m0 none True r := by
  refine qn_start (hy := by decide) hT (hw := rfl) (hn := Nat.le_of_ble_eq_true rfl) ?_
  intro X h1 h2 h3 h4 hX hR
  subst h4
  exact w_X4_become hX ⟨h1, fun q => h2 ▸ q, h3⟩ k_x0 r_x1 r_x2 r_x3 r_x4 r_x5 hR h
theorem dd_X4_become : yX4_become.cls = RX4 ∧ yX4_become.cls ≠ "java/lang/invoke/MethodHandle" ∧ yX4_become.cls ≠ "java/lang/invoke/VarHandle" ∧ (parseMethodDescriptor yX4_become.desc).map (fun d => d.parameters.length) = some 5 := by decide +kernel
-- ProRataMarket$Order.copyFrom
theorem hi_X4_copyFrom_4 : ∀ w ∈ wsX40, w ∈ wsX4_copyFrom := fun w h => List.mem_cons_of_mem _ (List.mem_append_right _ h)
theorem fd_X4_copyFrom_7 : qFd RX4 wsX4_copyFrom 7 4 0 0 400 := ⟨RX4, TX4, 6, _, rfl, hi_X4_copyFrom_4, by decide, (by decide +kernel : Cond.fieldLink RX4 7 (TX4 0).1 (TX4 0).2.1 (TX4 0).2.2.1 ∈ wsX4_copyFrom), rfl, rfl, by decide⟩
theorem fd_X4_copyFrom_13 : qFd RX4 wsX4_copyFrom 13 4 1 0 401 := ⟨RX4, TX4, 6, _, rfl, hi_X4_copyFrom_4, by decide, (by decide +kernel : Cond.fieldLink RX4 13 (TX4 1).1 (TX4 1).2.1 (TX4 1).2.2.1 ∈ wsX4_copyFrom), rfl, rfl, by decide⟩
theorem fd_X4_copyFrom_16 : qFd RX4 wsX4_copyFrom 16 4 2 0 402 := ⟨RX4, TX4, 6, _, rfl, hi_X4_copyFrom_4, by decide, (by decide +kernel : Cond.fieldLink RX4 16 (TX4 2).1 (TX4 2).2.1 (TX4 2).2.2.1 ∈ wsX4_copyFrom), rfl, rfl, by decide⟩
theorem fd_X4_copyFrom_19 : qFd RX4 wsX4_copyFrom 19 4 3 0 403 := ⟨RX4, TX4, 6, _, rfl, hi_X4_copyFrom_4, by decide, (by decide +kernel : Cond.fieldLink RX4 19 (TX4 3).1 (TX4 3).2.1 (TX4 3).2.2.1 ∈ wsX4_copyFrom), rfl, rfl, by decide⟩
theorem fd_X4_copyFrom_22 : qFd RX4 wsX4_copyFrom 22 4 4 0 404 := ⟨RX4, TX4, 6, _, rfl, hi_X4_copyFrom_4, by decide, (by decide +kernel : Cond.fieldLink RX4 22 (TX4 4).1 (TX4 4).2.1 (TX4 4).2.2.1 ∈ wsX4_copyFrom), rfl, rfl, by decide⟩
theorem fd_X4_copyFrom_25 : qFd RX4 wsX4_copyFrom 25 4 5 0 405 := ⟨RX4, TX4, 6, _, rfl, hi_X4_copyFrom_4, by decide, (by decide +kernel : Cond.fieldLink RX4 25 (TX4 5).1 (TX4 5).2.1 (TX4 5).2.2.1 ∈ wsX4_copyFrom), rfl, rfl, by decide⟩
theorem fp_X4_copyFrom_25 : qFp RX4 wsX4_copyFrom 25 4 5 0 405 .int := ⟨RX4, TX4, 6, _, tyX4, rfl, hi_X4_copyFrom_4, by decide, (by decide +kernel : Cond.fieldLink RX4 25 (TX4 5).1 (TX4 5).2.1 (TX4 5).2.2.1 ∈ wsX4_copyFrom), rfl, rfl, by decide, tyX4_ok, nmX4, rfl, by decide +kernel⟩
set_option maxHeartbeats 4000000 in
set_option maxRecDepth 20000 in
theorem w_X4_copyFrom {X : qB} {N : Nat} (hX : qOk X cX4_copyFrom RX4 2 none wsX4_copyFrom 1 25) {r : qM} (hE : xr X = none ∧ (True → xΦ X) ∧ xμ X = r) 
    {x0 : Nat} {x1 : Nat} (k_x0 : gK (xG X) x0 = 5) (k_x1 : gK (xG X) x1 = 5) {m0 : qM} (hR_m0 : qR (xG X) m0)
    (h : f_X4_copyFrom N (xG X)  x0 x1 m0 = some r) : qN X 2 0 [(0, .ref x0), (1, .ref x1)] [] m0 := by
  have hT := hX.T
  unfold f_X4_copyFrom at h
  refine qn_aload_n hX (pc := 0) dX4_copyFrom_0 0 rfl rfl ?_
  refine qn_aload_n hX (pc := 1) dX4_copyFrom_1 1 rfl rfl ?_
  refine qn_getI hX (pc := 2) fd_X4_copyFrom_7 dX4_copyFrom_2 k_x1 ?_
  refine qn_aload_n hX (pc := 5) dX4_copyFrom_5 1 rfl rfl ?_
  refine qn_getI hX (pc := 6) fd_X4_copyFrom_13 dX4_copyFrom_6 k_x1 ?_
  refine qn_aload_n hX (pc := 9) dX4_copyFrom_9 1 rfl rfl ?_
  refine qn_getI hX (pc := 10) fd_X4_copyFrom_16 dX4_copyFrom_10 k_x1 ?_
  refine qn_aload_n hX (pc := 13) dX4_copyFrom_13 1 rfl rfl ?_
  refine qn_getI hX (pc := 14) fd_X4_copyFrom_19 dX4_copyFrom_14 k_x1 ?_
  refine qn_aload_n hX (pc := 17) dX4_copyFrom_17 1 rfl rfl ?_
  refine qn_getI hX (pc := 18) fd_X4_copyFrom_22 dX4_copyFrom_18 k_x1 ?_
  obtain ⟨m1, e_m1, h⟩ := kb_e h
  refine qn_callVv hX (pc := 21) [.int (iZ (gI m0 400 x1)), .int (iZ (gI m0 401 x1)), .int (iZ (gI m0 402 x1)), .int (iZ (gI m0 403 x1)), .int (iZ (gI m0 404 x1))] [.int (iZ (gI m0 404 x1)), .int (iZ (gI m0 403 x1)), .int (iZ (gI m0 402 x1)), .int (iZ (gI m0 401 x1)), .int (iZ (gI m0 400 x1))] 5 dX4_copyFrom_21 gX4_copyFrom_X4_become rfl dd_X4_become ⟨rfl, rfl⟩ rfl rfl (by decide) k_x0 rfl rfl hR_m0 (k_X4_become (xl X) hT k_x0 (hR_m0.i 400 _ rfl) (hR_m0.i 401 _ rfl) (hR_m0.i 402 _ rfl) (hR_m0.i 403 _ rfl) (hR_m0.i 404 _ rfl) e_m1) (fun r_v2 hR_m1 => ?_)
  refine qn_aload_n hX (pc := 24) dX4_copyFrom_24 0 rfl rfl ?_
  refine qn_aload_n hX (pc := 25) dX4_copyFrom_25 1 rfl rfl ?_
  refine qn_getI hX (pc := 26) fd_X4_copyFrom_25 dX4_copyFrom_26 k_x1 ?_
  obtain ⟨m3, e_m3, h⟩ := kp_e h
  refine qn_putI hX (pc := 29) fp_X4_copyFrom_25 dX4_copyFrom_29 k_x0 hR_m1 (hR_m1.i 405 _ rfl) e_m3 (fun hR_m3 => ?_) 
  exact qn_vret hX (pc := 32) dX4_copyFrom_32 hE hR_m3 (Option.some.inj h)
theorem k_X4_copyFrom (l : Launch) {G : qG} (hT : qT G) {N : Nat} {x0 : Nat} {x1 : Nat} (k_x0 : gK G x0 = 5) (k_x1 : gK G x1 = 5) {m0 : qM} {r : qM} (h : f_X4_copyFrom N G x0 x1 m0 = some r) : qC l yX4_copyFrom wsX4_copyFrom 1 25 G [.ref x0, .ref x1] m0 none True r := by
  refine qn_start (hy := by decide) hT (hw := rfl) (hn := Nat.le_of_ble_eq_true rfl) ?_
  intro X h1 h2 h3 h4 hX hR
  subst h4
  exact w_X4_copyFrom hX ⟨h1, fun q => h2 ▸ q, h3⟩ k_x0 k_x1 hR h
theorem dd_X4_copyFrom : yX4_copyFrom.cls = RX4 ∧ yX4_copyFrom.cls ≠ "java/lang/invoke/MethodHandle" ∧ yX4_copyFrom.cls ≠ "java/lang/invoke/VarHandle" ∧ (parseMethodDescriptor yX4_copyFrom.desc).map (fun d => d.parameters.length) = some 1 := by decide +kernel
-- ProRataMarket$Book.add
theorem hi_X0_add_0 : ∀ w ∈ wsX00, w ∈ wsX0_add := fun w h => List.mem_cons_of_mem _ (List.mem_append_left _ (List.mem_append_right _ h))
theorem fd_X0_add_11 : qFd RX0 wsX0_add 11 0 0 1 0 := ⟨RX0, TX0, 4, _, rfl, hi_X0_add_0, by decide, (by decide +kernel : Cond.fieldLink RX0 11 (TX0 0).1 (TX0 0).2.1 (TX0 0).2.2.1 ∈ wsX0_add), rfl, rfl, by decide⟩
theorem fd_X0_add_25 : qFd RX0 wsX0_add 25 0 1 0 1 := ⟨RX0, TX0, 4, _, rfl, hi_X0_add_0, by decide, (by decide +kernel : Cond.fieldLink RX0 25 (TX0 1).1 (TX0 1).2.1 (TX0 1).2.2.1 ∈ wsX0_add), rfl, rfl, by decide⟩
theorem fp_X0_add_25 : qFp RX0 wsX0_add 25 0 1 0 1 .int := ⟨RX0, TX0, 4, _, tyX0, rfl, hi_X0_add_0, by decide, (by decide +kernel : Cond.fieldLink RX0 25 (TX0 1).1 (TX0 1).2.1 (TX0 1).2.2.1 ∈ wsX0_add), rfl, rfl, by decide, tyX0_ok, nmX0, rfl, by decide +kernel⟩
set_option maxHeartbeats 4000000 in
set_option maxRecDepth 20000 in
theorem w_X0_add {X : qB} {N : Nat} (hX : qOk X cX0_add RX0 2 none wsX0_add 2 46) {r : qM} (hE : xr X = none ∧ (True → xΦ X) ∧ xμ X = r) 
    {x0 : Nat} {x1 : Nat} (k_x0 : gK (xG X) x0 = 1) (k_x1 : gK (xG X) x1 = 5) {m0 : qM} (hR_m0 : qR (xG X) m0)
    (h : f_X0_add N (xG X)  x0 x1 m0 = some r) : qN X 2 0 [(0, .ref x0), (1, .ref x1)] [] m0 := by
  have hT := hX.T
  unfold f_X0_add at h
  refine qn_aload_n hX (pc := 0) dX0_add_0 0 rfl rfl ?_
  obtain ⟨v2, m1, e_m1, h⟩ := kb2_e h
  refine qn_callVi hX (pc := 1) [] [] 0 dX0_add_1 gX0_add_X0_isFull rfl dd_X0_isFull ⟨rfl, rfl⟩ rfl rfl (by decide) k_x0 rfl rfl hR_m0 (k_X0_isFull (xl X) hT k_x0 e_m1) (fun r_v2 hR_m1 => ?_)
  refine qn_if_ne hX (pc := 4) r_v2.i 30 dX0_add_4 (by decide) (fun c3 => ?_) (fun c3 => ?_)
  · have h := ite_f h c3
    exact qn_vret hX (pc := 30) dX0_add_30 hE hR_m1 (Option.some.inj h)
  · have h := ite_t h c3
    refine qn_aload_n hX (pc := 7) dX0_add_7 0 rfl rfl ?_
    refine qn_getR hX (pc := 8) fd_X0_add_11 dX0_add_8 k_x0 ?_
    refine qn_aload_n hX (pc := 11) dX0_add_11 0 rfl rfl ?_
    refine qn_getI hX (pc := 12) fd_X0_add_25 dX0_add_12 k_x0 ?_
    obtain ⟨o4, e_o4, b_o4, k_o4, h⟩ := rdQ_e h
    refine qn_aaldO hX (pc := 15) 60 dX0_add_15 (qr_0 hT k_x0) (by decide) b_o4 e_o4 ?_
    refine qn_aload_n hX (pc := 16) dX0_add_16 1 rfl rfl ?_
    obtain ⟨m5, e_m5, h⟩ := kb_e h
    refine qn_callVv hX (pc := 17) [.ref x1] [.ref x1] 1 dX0_add_17 gX0_add_X4_copyFrom rfl dd_X4_copyFrom ⟨rfl, rfl⟩ rfl rfl (by decide) k_o4 rfl rfl hR_m1 (k_X4_copyFrom (xl X) hT k_o4 k_x1 e_m5) (fun r_v6 hR_m5 => ?_)
    refine qn_aload_n hX (pc := 20) dX0_add_20 0 rfl rfl ?_
    refine qn_dup hX (pc := 21) dX0_add_21 rfl ?_
    refine qn_getI hX (pc := 22) fd_X0_add_25 dX0_add_22 k_x0 ?_
    refine qn_iconst hX (pc := 25) dX0_add_25 ?_
    obtain ⟨v7, e_v7, r_v7, h⟩ := ckI_e h
    refine qn_iadd hX (pc := 26) dX0_add_26 e_v7 ?_
    obtain ⟨m8, e_m8, h⟩ := kp_e h
    refine qn_putI hX (pc := 27) fp_X0_add_25 dX0_add_27 k_x0 hR_m5 r_v7 e_m8 (fun hR_m8 => ?_) 
    exact qn_vret hX (pc := 30) dX0_add_30 hE hR_m8 (Option.some.inj h)
theorem k_X0_add (l : Launch) {G : qG} (hT : qT G) {N : Nat} {x0 : Nat} {x1 : Nat} (k_x0 : gK G x0 = 1) (k_x1 : gK G x1 = 5) {m0 : qM} {r : qM} (h : f_X0_add N G x0 x1 m0 = some r) : qC l yX0_add wsX0_add 2 46 G [.ref x0, .ref x1] m0 none True r := by
  refine qn_start (hy := by decide) hT (hw := rfl) (hn := Nat.le_of_ble_eq_true rfl) ?_
  intro X h1 h2 h3 h4 hX hR
  subst h4
  exact w_X0_add hX ⟨h1, fun q => h2 ▸ q, h3⟩ k_x0 k_x1 hR h
theorem dd_X0_add : yX0_add.cls = RX0 ∧ yX0_add.cls ≠ "java/lang/invoke/MethodHandle" ∧ yX0_add.cls ≠ "java/lang/invoke/VarHandle" ∧ (parseMethodDescriptor yX0_add.desc).map (fun d => d.parameters.length) = some 1 := by decide +kernel
-- ProRataMarket.isBetter
set_option maxHeartbeats 4000000 in
set_option maxRecDepth 20000 in
theorem w_X7_isBetter {X : qB} {N : Nat} (hX : qOk X cX7_isBetter RX7 3 (some .boolean) wsX7_isBetter 0 0) {r : Int} {nu : qM} (hE : xr X = some (.int (iZ r)) ∧ (in01 r → xΦ X) ∧ xμ X = nu) 
    {x0 : Int} {x1 : Int} {x2 : Int} (r_x0 : in32 x0) (r_x1 : in32 x1) (r_x2 : in32 x2) {m0 : qM} (hR_m0 : qR (xG X) m0)
    (h : f_X7_isBetter N (xG X)  x0 x1 x2 m0 = some (r, nu)) : qN X 3 0 [(0, .int (iZ x0)), (1, .int (iZ x1)), (2, .int (iZ x2))] [] m0 := by
  have hT := hX.T
  unfold f_X7_isBetter at h
  refine qn_iload_n hX (pc := 0) dX7_isBetter_0 0 rfl rfl ?_
  refine qn_if_ne hX (pc := 1) r_x0 17 dX7_isBetter_1 (by decide) (fun c1 => ?_) (fun c1 => ?_)
  · have h := ite_f h c1
    refine qn_iload_n hX (pc := 17) dX7_isBetter_17 1 rfl rfl ?_
    refine qn_iload_n hX (pc := 18) dX7_isBetter_18 2 rfl rfl ?_
    refine qn_icmp_ge hX (pc := 19) r_x1 r_x2 26 dX7_isBetter_19 (by decide) (fun c2 => ?_) (fun c2 => ?_)
    · have h := ite_f h c2
      refine qn_iconst hX (pc := 26) dX7_isBetter_26 ?_
      exact qn_zret hX (pc := 27) dX7_isBetter_27 hE hR_m0 (by decide) (Option.some.inj h)
    · have h := ite_t h c2
      refine qn_iconst hX (pc := 22) dX7_isBetter_22 ?_
      refine qn_goto hX (pc := 23) 27 dX7_isBetter_23 (by decide) ?_
      exact qn_zret hX (pc := 27) dX7_isBetter_27 hE hR_m0 (by decide) (Option.some.inj h)
  · have h := ite_t h c1
    refine qn_iload_n hX (pc := 4) dX7_isBetter_4 1 rfl rfl ?_
    refine qn_iload_n hX (pc := 5) dX7_isBetter_5 2 rfl rfl ?_
    refine qn_icmp_le hX (pc := 6) r_x1 r_x2 13 dX7_isBetter_6 (by decide) (fun c3 => ?_) (fun c3 => ?_)
    · have h := ite_f h c3
      refine qn_iconst hX (pc := 13) dX7_isBetter_13 ?_
      refine qn_goto hX (pc := 14) 27 dX7_isBetter_14 (by decide) ?_
      exact qn_zret hX (pc := 27) dX7_isBetter_27 hE hR_m0 (by decide) (Option.some.inj h)
    · have h := ite_t h c3
      refine qn_iconst hX (pc := 9) dX7_isBetter_9 ?_
      refine qn_goto hX (pc := 10) 27 dX7_isBetter_10 (by decide) ?_
      exact qn_zret hX (pc := 27) dX7_isBetter_27 hE hR_m0 (by decide) (Option.some.inj h)
theorem k_X7_isBetter (l : Launch) {G : qG} (hT : qT G) {N : Nat} {x0 : Int} {x1 : Int} {x2 : Int} (r_x0 : in32 x0) (r_x1 : in32 x1) (r_x2 : in32 x2) {m0 : qM} {r : Int} {nu : qM} (h : f_X7_isBetter N G x0 x1 x2 m0 = some (r, nu)) : qC l yX7_isBetter wsX7_isBetter 0 0 G [.int (iZ x0), .int (iZ x1), .int (iZ x2)] m0 (some (.int (iZ r))) (in01 r) nu := by
  refine qn_start (hy := by decide) hT (hw := rfl) (hn := Nat.le_of_ble_eq_true rfl) ?_
  intro X h1 h2 h3 h4 hX hR
  subst h4
  exact w_X7_isBetter hX ⟨h1, fun q => h2 ▸ q, h3⟩ r_x0 r_x1 r_x2 hR h
theorem dd_X7_isBetter : yX7_isBetter.cls ≠ "java/lang/invoke/MethodHandle" ∧ yX7_isBetter.cls ≠ "java/lang/invoke/VarHandle" ∧ (parseMethodDescriptor yX7_isBetter.desc).map (fun d => d.parameters.length) = some 3 := by decide +kernel
-- ProRataMarket$Book.nextPrice
theorem hi_X0_nextPrice_4 : ∀ w ∈ wsX40, w ∈ wsX0_nextPrice := fun w h => List.mem_cons_of_mem _ (List.mem_append_right _ h)
theorem fd_X0_nextPrice_54 : qFd RX0 wsX0_nextPrice 54 4 3 0 403 := ⟨RX4, TX4, 6, _, rfl, hi_X0_nextPrice_4, by decide, (by decide +kernel : Cond.fieldLink RX0 54 (TX4 3).1 (TX4 3).2.1 (TX4 3).2.2.1 ∈ wsX0_nextPrice), rfl, rfl, by decide⟩
theorem hi_X0_nextPrice_0 : ∀ w ∈ wsX00, w ∈ wsX0_nextPrice := fun w h => List.mem_cons_of_mem _ (List.mem_append_left _ (List.mem_append_right _ h))
theorem fd_X0_nextPrice_25 : qFd RX0 wsX0_nextPrice 25 0 1 0 1 := ⟨RX0, TX0, 4, _, rfl, hi_X0_nextPrice_0, by decide, (by decide +kernel : Cond.fieldLink RX0 25 (TX0 1).1 (TX0 1).2.1 (TX0 1).2.2.1 ∈ wsX0_nextPrice), rfl, rfl, by decide⟩
theorem fd_X0_nextPrice_11 : qFd RX0 wsX0_nextPrice 11 0 0 1 0 := ⟨RX0, TX0, 4, _, rfl, hi_X0_nextPrice_0, by decide, (by decide +kernel : Cond.fieldLink RX0 11 (TX0 0).1 (TX0 0).2.1 (TX0 0).2.2.1 ∈ wsX0_nextPrice), rfl, rfl, by decide⟩
theorem fd_X0_nextPrice_46 : qFd RX0 wsX0_nextPrice 46 4 2 0 402 := ⟨RX4, TX4, 6, _, rfl, hi_X0_nextPrice_4, by decide, (by decide +kernel : Cond.fieldLink RX0 46 (TX4 2).1 (TX4 2).2.1 (TX4 2).2.2.1 ∈ wsX0_nextPrice), rfl, rfl, by decide⟩
set_option maxHeartbeats 4000000 in
set_option maxRecDepth 20000 in
theorem w_X0_nextPrice_68 {X : qB} {N : Nat} (hX : qOk X cX0_nextPrice RX0 6 (some .int) wsX0_nextPrice 1 22) {r : Int} {nu : qM} (hE : xr X = some (.int (iZ r)) ∧ (in32 r → xΦ X) ∧ xμ X = nu) {k5 : (Nat → Int → Int → Int → Int → qM → Option (Int × qM))} (hk5 : ∀ (x0 : Nat) (x1 : Int) (x2 : Int) (x3 : Int) (x4 : Int) (m0 : qM), gK (xG X) x0 = 1 → in32 x1 → in32 x2 → in32 x3 → in32 x4 → qR (xG X) m0 → k5 x0 x1 x2 x3 x4 m0 = some (r, nu) → qN X 6 5 [(0, .ref x0), (1, .int (iZ x1)), (2, .int (iZ x2)), (3, .int (iZ x3)), (4, .int (iZ x4))] [] m0)
    {x0 : Nat} {x1 : Int} {x2 : Int} {x3 : Int} {x4 : Int} (k_x0 : gK (xG X) x0 = 1) (r_x1 : in32 x1) (r_x2 : in32 x2) (r_x3 : in32 x3) (r_x4 : in32 x4) {m0 : qM} (hR_m0 : qR (xG X) m0)
    (h : f_X0_nextPrice_68 N (xG X) k5 x0 x1 x2 x3 x4 m0 = some (r, nu)) : qN X 6 68 [(0, .ref x0), (1, .int (iZ x1)), (2, .int (iZ x2)), (3, .int (iZ x3)), (4, .int (iZ x4))] [] m0 := by
  have hT := hX.T
  unfold f_X0_nextPrice_68 at h
  obtain ⟨v1, e_v1, r_v1, h⟩ := ckI_e h
  refine qn_iinc hX (pc := 68) (ls' := [(4, .int (iZ v1)), (0, .ref x0), (1, .int (iZ x1)), (2, .int (iZ x2)), (3, .int (iZ x3))]) dX0_nextPrice_68 4 rfl e_v1 rfl rfl ?_
  refine qn_goto hX (pc := 71) 5 dX0_nextPrice_71 (by decide) ?_
  refine qn_sub (ls' := [(0, .ref x0), (1, .int (iZ x1)), (2, .int (iZ x2)), (3, .int (iZ x3)), (4, .int (iZ v1))]) [1, 2, 3, 4, 0] rfl ?_
  exact hk5 x0 x1 x2 x3 v1 m0 k_x0 r_x1 r_x2 r_x3 r_v1 hR_m0 h
set_option maxHeartbeats 4000000 in
set_option maxRecDepth 20000 in
theorem w_X0_nextPrice_62 {X : qB} {N : Nat} (hX : qOk X cX0_nextPrice RX0 6 (some .int) wsX0_nextPrice 1 22) {r : Int} {nu : qM} (hE : xr X = some (.int (iZ r)) ∧ (in32 r → xΦ X) ∧ xμ X = nu) {k5 : (Nat → Int → Int → Int → Int → qM → Option (Int × qM))} (hk5 : ∀ (x0 : Nat) (x1 : Int) (x2 : Int) (x3 : Int) (x4 : Int) (m0 : qM), gK (xG X) x0 = 1 → in32 x1 → in32 x2 → in32 x3 → in32 x4 → qR (xG X) m0 → k5 x0 x1 x2 x3 x4 m0 = some (r, nu) → qN X 6 5 [(0, .ref x0), (1, .int (iZ x1)), (2, .int (iZ x2)), (3, .int (iZ x3)), (4, .int (iZ x4))] [] m0)
    {x0 : Nat} {x1 : Int} {x2 : Int} {x4 : Int} {x5 : Nat} (k_x0 : gK (xG X) x0 = 1) (r_x1 : in32 x1) (r_x2 : in32 x2) (r_x4 : in32 x4) (k_x5 : gK (xG X) x5 = 5) {m0 : qM} (hR_m0 : qR (xG X) m0)
    (h : f_X0_nextPrice_62 N (xG X) k5 x0 x1 x2 x4 x5 m0 = some (r, nu)) : qN X 6 62 [(0, .ref x0), (1, .int (iZ x1)), (2, .int (iZ x2)), (4, .int (iZ x4)), (5, .ref x5)] [] m0 := by
  have hT := hX.T
  unfold f_X0_nextPrice_62 at h
  refine qn_aload hX (pc := 62) dX0_nextPrice_62 4 rfl ?_
  refine qn_getI hX (pc := 64) fd_X0_nextPrice_54 dX0_nextPrice_64 k_x5 ?_
  refine qn_istore_n hX (pc := 67) (ls' := [(3, .int (iZ (gI m0 403 x5))), (0, .ref x0), (1, .int (iZ x1)), (2, .int (iZ x2)), (4, .int (iZ x4)), (5, .ref x5)]) dX0_nextPrice_67 rfl rfl rfl ?_
  refine qn_sub (ls' := [(0, .ref x0), (1, .int (iZ x1)), (2, .int (iZ x2)), (3, .int (iZ (gI m0 403 x5))), (4, .int (iZ x4))]) [1, 2, 3, 0, 4] rfl ?_
  exact w_X0_nextPrice_68 hX hE hk5 k_x0 r_x1 r_x2 (hR_m0.i 403 _ rfl) r_x4 hR_m0 h
set_option maxHeartbeats 4000000 in
set_option maxRecDepth 20000 in
theorem w_X0_nextPrice_5 {X : qB} {N : Nat} (hX : qOk X cX0_nextPrice RX0 6 (some .int) wsX0_nextPrice 1 22) {r : Int} {nu : qM} (hE : xr X = some (.int (iZ r)) ∧ (in32 r → xΦ X) ∧ xμ X = nu) {k5 : (Nat → Int → Int → Int → Int → qM → Option (Int × qM))} (hk5 : ∀ (x0 : Nat) (x1 : Int) (x2 : Int) (x3 : Int) (x4 : Int) (m0 : qM), gK (xG X) x0 = 1 → in32 x1 → in32 x2 → in32 x3 → in32 x4 → qR (xG X) m0 → k5 x0 x1 x2 x3 x4 m0 = some (r, nu) → qN X 6 5 [(0, .ref x0), (1, .int (iZ x1)), (2, .int (iZ x2)), (3, .int (iZ x3)), (4, .int (iZ x4))] [] m0)
    {x0 : Nat} {x1 : Int} {x2 : Int} {x3 : Int} {x4 : Int} (k_x0 : gK (xG X) x0 = 1) (r_x1 : in32 x1) (r_x2 : in32 x2) (r_x3 : in32 x3) (r_x4 : in32 x4) {m0 : qM} (hR_m0 : qR (xG X) m0)
    (h : f_X0_nextPrice_5 N (xG X) k5 x0 x1 x2 x3 x4 m0 = some (r, nu)) : qN X 6 5 [(0, .ref x0), (1, .int (iZ x1)), (2, .int (iZ x2)), (3, .int (iZ x3)), (4, .int (iZ x4))] [] m0 := by
  have hT := hX.T
  unfold f_X0_nextPrice_5 at h
  refine qn_iload hX (pc := 5) dX0_nextPrice_5 4 rfl ?_
  refine qn_aload_n hX (pc := 7) dX0_nextPrice_7 0 rfl rfl ?_
  refine qn_getI hX (pc := 8) fd_X0_nextPrice_25 dX0_nextPrice_8 k_x0 ?_
  refine qn_icmp_ge hX (pc := 11) r_x4 (hR_m0.i 1 _ rfl) 74 dX0_nextPrice_11 (by decide) (fun c1 => ?_) (fun c1 => ?_)
  · have h := ite_f h c1
    refine qn_iload_n hX (pc := 74) dX0_nextPrice_74 3 rfl rfl ?_
    exact qn_iret hX (pc := 75) dX0_nextPrice_75 hE hR_m0 r_x3 (Option.some.inj h)
  · have h := ite_t h c1
    refine qn_aload_n hX (pc := 14) dX0_nextPrice_14 0 rfl rfl ?_
    refine qn_getR hX (pc := 15) fd_X0_nextPrice_11 dX0_nextPrice_15 k_x0 ?_
    refine qn_iload hX (pc := 18) dX0_nextPrice_18 4 rfl ?_
    obtain ⟨o2, e_o2, b_o2, k_o2, h⟩ := rdQ_e h
    refine qn_aaldO hX (pc := 20) 60 dX0_nextPrice_20 (qr_0 hT k_x0) (by decide) b_o2 e_o2 ?_
    refine qn_astore hX (pc := 21) (ls' := [(5, .ref o2), (0, .ref x0), (1, .int (iZ x1)), (2, .int (iZ x2)), (3, .int (iZ x3)), (4, .int (iZ x4))]) dX0_nextPrice_21 rfl rfl ?_
    refine qn_aload hX (pc := 23) dX0_nextPrice_23 0 rfl ?_
    refine qn_getI hX (pc := 25) fd_X0_nextPrice_46 dX0_nextPrice_25 k_o2 ?_
    refine qn_iload_n hX (pc := 28) dX0_nextPrice_28 2 rfl rfl ?_
    refine qn_icmp_ne hX (pc := 29) (hR_m0.i 402 _ rfl) r_x1 68 dX0_nextPrice_29 (by decide) (fun c3 => ?_) (fun c3 => ?_)
    · have h := ite_f h c3
      refine qn_sub (ls' := [(0, .ref x0), (1, .int (iZ x1)), (2, .int (iZ x2)), (3, .int (iZ x3)), (4, .int (iZ x4))]) [1, 2, 3, 4, 5] rfl ?_
      exact w_X0_nextPrice_68 hX hE hk5 k_x0 r_x1 r_x2 r_x3 r_x4 hR_m0 h
    · have h := ite_t h c3
      refine qn_iload_n hX (pc := 32) dX0_nextPrice_32 2 rfl rfl ?_
      refine qn_iload_n hX (pc := 33) dX0_nextPrice_33 3 rfl rfl ?_
      refine qn_aload hX (pc := 34) dX0_nextPrice_34 0 rfl ?_
      refine qn_getI hX (pc := 36) fd_X0_nextPrice_54 dX0_nextPrice_36 k_o2 ?_
      obtain ⟨v5, m4, e_m4, h⟩ := kb2_e h
      refine qn_callSNi hX (pc := 39) [.int (iZ x1), .int (iZ x2), .int (iZ (gI m0 403 o2))] [.int (iZ (gI m0 403 o2)), .int (iZ x2), .int (iZ x1)] 3 dX0_nextPrice_39 gX0_nextPrice_X7_isBetter_n57 hX.Z.1 (by decide +kernel) (by decide +kernel) rfl dd_X7_isBetter ⟨rfl, rfl⟩ rfl rfl rfl hR_m0 (k_X7_isBetter (xl X) hT r_x1 r_x2 (hR_m0.i 403 _ rfl) e_m4) (fun r_v5 hR_m4 => ?_)
      refine qn_if_eq hX (pc := 42) r_v5.i 68 dX0_nextPrice_42 (by decide) (fun c6 => ?_) (fun c6 => ?_)
      · have h := ite_t h c6
        refine qn_sub (ls' := [(0, .ref x0), (1, .int (iZ x1)), (2, .int (iZ x2)), (3, .int (iZ x3)), (4, .int (iZ x4))]) [1, 2, 3, 4, 5] rfl ?_
        exact w_X0_nextPrice_68 hX hE hk5 k_x0 r_x1 r_x2 r_x3 r_x4 hR_m4 h
      · have h := ite_f h c6
        refine qn_iload_n hX (pc := 45) dX0_nextPrice_45 4 rfl rfl ?_
        refine qn_if_eq hX (pc := 46) r_x3 62 dX0_nextPrice_46 (by decide) (fun c7 => ?_) (fun c7 => ?_)
        · have h := ite_t h c7
          refine qn_sub (ls' := [(0, .ref x0), (1, .int (iZ x1)), (2, .int (iZ x2)), (4, .int (iZ x4)), (5, .ref o2)]) [1, 2, 3, 5, 0] rfl ?_
          exact w_X0_nextPrice_62 hX hE hk5 k_x0 r_x1 r_x2 r_x4 k_o2 hR_m4 h
        · have h := ite_f h c7
          refine qn_iload_n hX (pc := 49) dX0_nextPrice_49 2 rfl rfl ?_
          refine qn_aload hX (pc := 50) dX0_nextPrice_50 0 rfl ?_
          refine qn_getI hX (pc := 52) fd_X0_nextPrice_54 dX0_nextPrice_52 k_o2 ?_
          refine qn_iload_n hX (pc := 55) dX0_nextPrice_55 4 rfl rfl ?_
          obtain ⟨v9, m8, e_m8, h⟩ := kb2_e h
          refine qn_callSNi hX (pc := 56) [.int (iZ x1), .int (iZ (gI m4 403 o2)), .int (iZ x3)] [.int (iZ x3), .int (iZ (gI m4 403 o2)), .int (iZ x1)] 3 dX0_nextPrice_56 gX0_nextPrice_X7_isBetter_n57 hX.Z.1 (by decide +kernel) (by decide +kernel) rfl dd_X7_isBetter ⟨rfl, rfl⟩ rfl rfl rfl hR_m4 (k_X7_isBetter (xl X) hT r_x1 (hR_m4.i 403 _ rfl) r_x3 e_m8) (fun r_v9 hR_m8 => ?_)
          refine qn_if_eq hX (pc := 59) r_v9.i 68 dX0_nextPrice_59 (by decide) (fun c10 => ?_) (fun c10 => ?_)
          · have h := ite_t h c10
            refine qn_sub (ls' := [(0, .ref x0), (1, .int (iZ x1)), (2, .int (iZ x2)), (3, .int (iZ x3)), (4, .int (iZ x4))]) [1, 2, 3, 4, 5] rfl ?_
            exact w_X0_nextPrice_68 hX hE hk5 k_x0 r_x1 r_x2 r_x3 r_x4 hR_m8 h
          · have h := ite_f h c10
            refine qn_sub (ls' := [(0, .ref x0), (1, .int (iZ x1)), (2, .int (iZ x2)), (4, .int (iZ x4)), (5, .ref o2)]) [1, 2, 3, 5, 0] rfl ?_
            exact w_X0_nextPrice_62 hX hE hk5 k_x0 r_x1 r_x2 r_x4 k_o2 hR_m8 h
set_option maxHeartbeats 4000000 in
set_option maxRecDepth 20000 in
theorem w_X0_nextPrice_L5 {X : qB} {N : Nat} (hX : qOk X cX0_nextPrice RX0 6 (some .int) wsX0_nextPrice 1 22) {r : Int} {nu : qM} (hE : xr X = some (.int (iZ r)) ∧ (in32 r → xΦ X) ∧ xμ X = nu) 
    {x0 : Nat} {x1 : Int} {x2 : Int} {x3 : Int} {x4 : Int} (k_x0 : gK (xG X) x0 = 1) (r_x1 : in32 x1) (r_x2 : in32 x2) (r_x3 : in32 x3) (r_x4 : in32 x4) {m0 : qM} (hR_m0 : qR (xG X) m0)
    (h : f_X0_nextPrice_L5 N (xG X)  x0 x1 x2 x3 x4 m0 = some (r, nu)) : qN X 6 5 [(0, .ref x0), (1, .int (iZ x1)), (2, .int (iZ x2)), (3, .int (iZ x3)), (4, .int (iZ x4))] [] m0 := by
  unfold f_X0_nextPrice_L5 at h
  exact qLoop_w (σ := Nat × Int × Int × Int × Int × qM) (P := fun p => gK (xG X) p.1 = 1 ∧ in32 p.2.1 ∧ in32 p.2.2.1 ∧ in32 p.2.2.2.1 ∧ in32 p.2.2.2.2.1 ∧ qR (xG X) p.2.2.2.2.2) (Q := fun p => qN X 6 5 [(0, .ref p.1), (1, .int (iZ p.2.1)), (2, .int (iZ p.2.2.1)), (3, .int (iZ p.2.2.2.1)), (4, .int (iZ p.2.2.2.2.1))] [] p.2.2.2.2.2) (fun k hrec p hp hh => w_X0_nextPrice_5 hX hE (fun x0 x1 x2 x3 x4 m0 q0 q1 q2 q3 q4 hRm hh => hrec (x0, x1, x2, x3, x4, m0) ⟨q0, q1, q2, q3, q4, hRm⟩ hh) hp.1 hp.2.1 hp.2.2.1 hp.2.2.2.1 hp.2.2.2.2.1 hp.2.2.2.2.2 hh) N (x0, x1, x2, x3, x4, m0) ⟨k_x0, r_x1, r_x2, r_x3, r_x4, hR_m0⟩ h
set_option maxHeartbeats 4000000 in
set_option maxRecDepth 20000 in
theorem w_X0_nextPrice {X : qB} {N : Nat} (hX : qOk X cX0_nextPrice RX0 6 (some .int) wsX0_nextPrice 1 22) {r : Int} {nu : qM} (hE : xr X = some (.int (iZ r)) ∧ (in32 r → xΦ X) ∧ xμ X = nu) 
    {x0 : Nat} {x1 : Int} {x2 : Int} (k_x0 : gK (xG X) x0 = 1) (r_x1 : in32 x1) (r_x2 : in32 x2) {m0 : qM} (hR_m0 : qR (xG X) m0)
    (h : f_X0_nextPrice N (xG X)  x0 x1 x2 m0 = some (r, nu)) : qN X 6 0 [(0, .ref x0), (1, .int (iZ x1)), (2, .int (iZ x2))] [] m0 := by
  have hT := hX.T
  unfold f_X0_nextPrice at h
  refine qn_iconst hX (pc := 0) dX0_nextPrice_0 ?_
  refine qn_istore_n hX (pc := 1) (ls' := [(3, .int (iZ 0)), (0, .ref x0), (1, .int (iZ x1)), (2, .int (iZ x2))]) dX0_nextPrice_1 rfl rfl rfl ?_
  refine qn_iconst hX (pc := 2) dX0_nextPrice_2 ?_
  refine qn_istore hX (pc := 3) (ls' := [(4, .int (iZ 0)), (3, .int (iZ 0)), (0, .ref x0), (1, .int (iZ x1)), (2, .int (iZ x2))]) dX0_nextPrice_3 rfl rfl ?_
  refine qn_sub (ls' := [(0, .ref x0), (1, .int (iZ x1)), (2, .int (iZ x2)), (3, .int (iZ 0)), (4, .int (iZ 0))]) [2, 3, 4, 1, 0] rfl ?_
  exact w_X0_nextPrice_L5 hX hE  k_x0 r_x1 r_x2 (by decide) (by decide) hR_m0 h
theorem k_X0_nextPrice (l : Launch) {G : qG} (hT : qT G) {N : Nat} {x0 : Nat} {x1 : Int} {x2 : Int} (k_x0 : gK G x0 = 1) (r_x1 : in32 x1) (r_x2 : in32 x2) {m0 : qM} {r : Int} {nu : qM} (h : f_X0_nextPrice N G x0 x1 x2 m0 = some (r, nu)) : qC l yX0_nextPrice wsX0_nextPrice 1 22 G [.ref x0, .int (iZ x1), .int (iZ x2)] m0 (some (.int (iZ r))) (in32 r) nu := by
  refine qn_start (hy := by decide) hT (hw := rfl) (hn := Nat.le_of_ble_eq_true rfl) ?_
  intro X h1 h2 h3 h4 hX hR
  subst h4
  exact w_X0_nextPrice hX ⟨h1, fun q => h2 ▸ q, h3⟩ k_x0 r_x1 r_x2 hR h
theorem dd_X0_nextPrice : yX0_nextPrice.cls = RX0 ∧ yX0_nextPrice.cls ≠ "java/lang/invoke/MethodHandle" ∧ yX0_nextPrice.cls ≠ "java/lang/invoke/VarHandle" ∧ (parseMethodDescriptor yX0_nextPrice.desc).map (fun d => d.parameters.length) = some 2 := by decide +kernel
-- ProRataMarket$Book.best
set_option maxHeartbeats 4000000 in
set_option maxRecDepth 20000 in
theorem w_X0_best_12 {X : qB} {N : Nat} (hX : qOk X cX0_best RX0 2 (some .int) wsX0_best 2 47) {r : Int} {nu : qM} (hE : xr X = some (.int (iZ r)) ∧ (in32 r → xΦ X) ∧ xμ X = nu) 
    {s0 : Nat} {s1 : Int} {s2 : Int} (k_s0 : gK (xG X) s0 = 1) (r_s1 : in32 s1) (r_s2 : in32 s2) {m0 : qM} (hR_m0 : qR (xG X) m0)
    (h : f_X0_best_12 N (xG X)  s0 s1 s2 m0 = some (r, nu)) : qN X 2 12 [] [.int (iZ s2), .int (iZ s1), .ref s0] m0 := by
  have hT := hX.T
  unfold f_X0_best_12 at h
  obtain ⟨v2, m1, e_m1, h⟩ := kb2_e h
  refine qn_callVi hX (pc := 12) [.int (iZ s1), .int (iZ s2)] [.int (iZ s2), .int (iZ s1)] 2 dX0_best_12 gX0_best_X0_nextPrice rfl dd_X0_nextPrice ⟨rfl, rfl⟩ rfl rfl (by decide) k_s0 rfl rfl hR_m0 (k_X0_nextPrice (xl X) hT k_s0 r_s1 r_s2 e_m1) (fun r_v2 hR_m1 => ?_)
  exact qn_iret hX (pc := 15) dX0_best_15 hE hR_m1 r_v2 (Option.some.inj h)
set_option maxHeartbeats 4000000 in
set_option maxRecDepth 20000 in
theorem w_X0_best {X : qB} {N : Nat} (hX : qOk X cX0_best RX0 2 (some .int) wsX0_best 2 47) {r : Int} {nu : qM} (hE : xr X = some (.int (iZ r)) ∧ (in32 r → xΦ X) ∧ xμ X = nu) 
    {x0 : Nat} {x1 : Int} (k_x0 : gK (xG X) x0 = 1) (r_x1 : in32 x1) {m0 : qM} (hR_m0 : qR (xG X) m0)
    (h : f_X0_best N (xG X)  x0 x1 m0 = some (r, nu)) : qN X 2 0 [(0, .ref x0), (1, .int (iZ x1))] [] m0 := by
  have hT := hX.T
  unfold f_X0_best at h
  refine qn_aload_n hX (pc := 0) dX0_best_0 0 rfl rfl ?_
  refine qn_iload_n hX (pc := 1) dX0_best_1 1 rfl rfl ?_
  refine qn_iload_n hX (pc := 2) dX0_best_2 1 rfl rfl ?_
  refine qn_if_ne hX (pc := 3) r_x1 11 dX0_best_3 (by decide) (fun c1 => ?_) (fun c1 => ?_)
  · have h := ite_f h c1
    refine qn_iconst hX (pc := 11) dX0_best_11 ?_
    refine qn_sub (ls' := []) [] rfl ?_
    exact w_X0_best_12 hX hE  k_x0 r_x1 (by decide) hR_m0 h
  · have h := ite_t h c1
    refine qn_ldc hX (pc := 6) 10000000 dX0_best_6 (by decide +kernel : Cond.constant RX0 49 (10000000) ∈ wsX0_best) (by decide) ?_
    refine qn_goto hX (pc := 8) 12 dX0_best_8 (by decide) ?_
    refine qn_sub (ls' := []) [] rfl ?_
    exact w_X0_best_12 hX hE  k_x0 r_x1 (by decide) hR_m0 h
theorem k_X0_best (l : Launch) {G : qG} (hT : qT G) {N : Nat} {x0 : Nat} {x1 : Int} (k_x0 : gK G x0 = 1) (r_x1 : in32 x1) {m0 : qM} {r : Int} {nu : qM} (h : f_X0_best N G x0 x1 m0 = some (r, nu)) : qC l yX0_best wsX0_best 2 47 G [.ref x0, .int (iZ x1)] m0 (some (.int (iZ r))) (in32 r) nu := by
  refine qn_start (hy := by decide) hT (hw := rfl) (hn := Nat.le_of_ble_eq_true rfl) ?_
  intro X h1 h2 h3 h4 hX hR
  subst h4
  exact w_X0_best hX ⟨h1, fun q => h2 ▸ q, h3⟩ k_x0 r_x1 hR h
theorem dd_X0_best : yX0_best.cls = RX0 ∧ yX0_best.cls ≠ "java/lang/invoke/MethodHandle" ∧ yX0_best.cls ≠ "java/lang/invoke/VarHandle" ∧ (parseMethodDescriptor yX0_best.desc).map (fun d => d.parameters.length) = some 1 := by decide +kernel
-- ProRataMarket$Book.find
theorem hi_X0_find_0 : ∀ w ∈ wsX00, w ∈ wsX0_find := fun w h => List.mem_cons_of_mem _ (List.mem_append_left _ (List.mem_append_right _ h))
theorem fd_X0_find_25 : qFd RX0 wsX0_find 25 0 1 0 1 := ⟨RX0, TX0, 4, _, rfl, hi_X0_find_0, by decide, (by decide +kernel : Cond.fieldLink RX0 25 (TX0 1).1 (TX0 1).2.1 (TX0 1).2.2.1 ∈ wsX0_find), rfl, rfl, by decide⟩
theorem fd_X0_find_11 : qFd RX0 wsX0_find 11 0 0 1 0 := ⟨RX0, TX0, 4, _, rfl, hi_X0_find_0, by decide, (by decide +kernel : Cond.fieldLink RX0 11 (TX0 0).1 (TX0 0).2.1 (TX0 0).2.2.1 ∈ wsX0_find), rfl, rfl, by decide⟩
theorem hi_X0_find_4 : ∀ w ∈ wsX40, w ∈ wsX0_find := fun w h => List.mem_cons_of_mem _ (List.mem_append_right _ h)
theorem fd_X0_find_33 : qFd RX0 wsX0_find 33 4 0 0 400 := ⟨RX4, TX4, 6, _, rfl, hi_X0_find_4, by decide, (by decide +kernel : Cond.fieldLink RX0 33 (TX4 0).1 (TX4 0).2.1 (TX4 0).2.2.1 ∈ wsX0_find), rfl, rfl, by decide⟩
set_option maxHeartbeats 4000000 in
set_option maxRecDepth 20000 in
theorem w_X0_find_2 {X : qB} {N : Nat} (hX : qOk X cX0_find RX0 3 (some (.object "ProRataMarket$Order")) wsX0_find 0 0) {r : Option Nat} {nu : qM} (hE : xr X = some (va_rf r) ∧ ((∀ o, r = some o → gK (xG X) o = 5) → xΦ X) ∧ xμ X = nu) {k2 : (Nat → Int → Int → qM → Option (Option Nat × qM))} (hk2 : ∀ (x0 : Nat) (x1 : Int) (x2 : Int) (m0 : qM), gK (xG X) x0 = 1 → in32 x1 → in32 x2 → qR (xG X) m0 → k2 x0 x1 x2 m0 = some (r, nu) → qN X 3 2 [(0, .ref x0), (1, .int (iZ x1)), (2, .int (iZ x2))] [] m0)
    {x0 : Nat} {x1 : Int} {x2 : Int} (k_x0 : gK (xG X) x0 = 1) (r_x1 : in32 x1) (r_x2 : in32 x2) {m0 : qM} (hR_m0 : qR (xG X) m0)
    (h : f_X0_find_2 N (xG X) k2 x0 x1 x2 m0 = some (r, nu)) : qN X 3 2 [(0, .ref x0), (1, .int (iZ x1)), (2, .int (iZ x2))] [] m0 := by
  have hT := hX.T
  unfold f_X0_find_2 at h
  refine qn_iload_n hX (pc := 2) dX0_find_2 2 rfl rfl ?_
  refine qn_aload_n hX (pc := 3) dX0_find_3 0 rfl rfl ?_
  refine qn_getI hX (pc := 4) fd_X0_find_25 dX0_find_4 k_x0 ?_
  refine qn_icmp_ge hX (pc := 7) r_x2 (hR_m0.i 1 _ rfl) 36 dX0_find_7 (by decide) (fun c1 => ?_) (fun c1 => ?_)
  · have h := ite_f h c1
    refine qn_null hX (pc := 36) dX0_find_36 ?_
    exact qn_aret (v := none) hX (pc := 37) dX0_find_37 hE hR_m0 (fun o e => by cases e) (Option.some.inj h)
  · have h := ite_t h c1
    refine qn_aload_n hX (pc := 10) dX0_find_10 0 rfl rfl ?_
    refine qn_getR hX (pc := 11) fd_X0_find_11 dX0_find_11 k_x0 ?_
    refine qn_iload_n hX (pc := 14) dX0_find_14 2 rfl rfl ?_
    obtain ⟨o2, e_o2, b_o2, k_o2, h⟩ := rdQ_e h
    refine qn_aaldO hX (pc := 15) 60 dX0_find_15 (qr_0 hT k_x0) (by decide) b_o2 e_o2 ?_
    refine qn_getI hX (pc := 16) fd_X0_find_33 dX0_find_16 k_o2 ?_
    refine qn_iload_n hX (pc := 19) dX0_find_19 1 rfl rfl ?_
    refine qn_icmp_ne hX (pc := 20) (hR_m0.i 400 _ rfl) r_x1 30 dX0_find_20 (by decide) (fun c3 => ?_) (fun c3 => ?_)
    · have h := ite_f h c3
      obtain ⟨v4, e_v4, r_v4, h⟩ := ckI_e h
      refine qn_iinc hX (pc := 30) (ls' := [(2, .int (iZ v4)), (0, .ref x0), (1, .int (iZ x1))]) dX0_find_30 2 rfl e_v4 rfl rfl ?_
      refine qn_goto hX (pc := 33) 2 dX0_find_33 (by decide) ?_
      refine qn_sub (ls' := [(0, .ref x0), (1, .int (iZ x1)), (2, .int (iZ v4))]) [1, 2, 0] rfl ?_
      exact hk2 x0 x1 v4 m0 k_x0 r_x1 r_v4 hR_m0 h
    · have h := ite_t h c3
      refine qn_aload_n hX (pc := 23) dX0_find_23 0 rfl rfl ?_
      refine qn_getR hX (pc := 24) fd_X0_find_11 dX0_find_24 k_x0 ?_
      refine qn_iload_n hX (pc := 27) dX0_find_27 2 rfl rfl ?_
      obtain ⟨o5, e_o5, b_o5, k_o5, h⟩ := rdQ_e h
      refine qn_aaldO hX (pc := 28) 60 dX0_find_28 (qr_0 hT k_x0) (by decide) b_o5 e_o5 ?_
      exact qn_aret (v := some o5) hX (pc := 29) dX0_find_29 hE hR_m0 (fun o e => by cases e; exact k_o5) (Option.some.inj h)
set_option maxHeartbeats 4000000 in
set_option maxRecDepth 20000 in
theorem w_X0_find_L2 {X : qB} {N : Nat} (hX : qOk X cX0_find RX0 3 (some (.object "ProRataMarket$Order")) wsX0_find 0 0) {r : Option Nat} {nu : qM} (hE : xr X = some (va_rf r) ∧ ((∀ o, r = some o → gK (xG X) o = 5) → xΦ X) ∧ xμ X = nu) 
    {x0 : Nat} {x1 : Int} {x2 : Int} (k_x0 : gK (xG X) x0 = 1) (r_x1 : in32 x1) (r_x2 : in32 x2) {m0 : qM} (hR_m0 : qR (xG X) m0)
    (h : f_X0_find_L2 N (xG X)  x0 x1 x2 m0 = some (r, nu)) : qN X 3 2 [(0, .ref x0), (1, .int (iZ x1)), (2, .int (iZ x2))] [] m0 := by
  unfold f_X0_find_L2 at h
  exact qLoop_w (σ := Nat × Int × Int × qM) (P := fun p => gK (xG X) p.1 = 1 ∧ in32 p.2.1 ∧ in32 p.2.2.1 ∧ qR (xG X) p.2.2.2) (Q := fun p => qN X 3 2 [(0, .ref p.1), (1, .int (iZ p.2.1)), (2, .int (iZ p.2.2.1))] [] p.2.2.2) (fun k hrec p hp hh => w_X0_find_2 hX hE (fun x0 x1 x2 m0 q0 q1 q2 hRm hh => hrec (x0, x1, x2, m0) ⟨q0, q1, q2, hRm⟩ hh) hp.1 hp.2.1 hp.2.2.1 hp.2.2.2 hh) N (x0, x1, x2, m0) ⟨k_x0, r_x1, r_x2, hR_m0⟩ h
set_option maxHeartbeats 4000000 in
set_option maxRecDepth 20000 in
theorem w_X0_find {X : qB} {N : Nat} (hX : qOk X cX0_find RX0 3 (some (.object "ProRataMarket$Order")) wsX0_find 0 0) {r : Option Nat} {nu : qM} (hE : xr X = some (va_rf r) ∧ ((∀ o, r = some o → gK (xG X) o = 5) → xΦ X) ∧ xμ X = nu) 
    {x0 : Nat} {x1 : Int} (k_x0 : gK (xG X) x0 = 1) (r_x1 : in32 x1) {m0 : qM} (hR_m0 : qR (xG X) m0)
    (h : f_X0_find N (xG X)  x0 x1 m0 = some (r, nu)) : qN X 3 0 [(0, .ref x0), (1, .int (iZ x1))] [] m0 := by
  have hT := hX.T
  unfold f_X0_find at h
  refine qn_iconst hX (pc := 0) dX0_find_0 ?_
  refine qn_istore_n hX (pc := 1) (ls' := [(2, .int (iZ 0)), (0, .ref x0), (1, .int (iZ x1))]) dX0_find_1 rfl rfl rfl ?_
  refine qn_sub (ls' := [(0, .ref x0), (1, .int (iZ x1)), (2, .int (iZ 0))]) [1, 2, 0] rfl ?_
  exact w_X0_find_L2 hX hE  k_x0 r_x1 (by decide) hR_m0 h
theorem k_X0_find (l : Launch) {G : qG} (hT : qT G) {N : Nat} {x0 : Nat} {x1 : Int} (k_x0 : gK G x0 = 1) (r_x1 : in32 x1) {m0 : qM} {r : Option Nat} {nu : qM} (h : f_X0_find N G x0 x1 m0 = some (r, nu)) : qC l yX0_find wsX0_find 0 0 G [.ref x0, .int (iZ x1)] m0 (some (va_rf r)) (∀ o, r = some o → gK G o = 5) nu := by
  refine qn_start (hy := by decide) hT (hw := rfl) (hn := Nat.le_of_ble_eq_true rfl) ?_
  intro X h1 h2 h3 h4 hX hR
  subst h4
  exact w_X0_find hX ⟨h1, fun q => h2 ▸ q, h3⟩ k_x0 r_x1 hR h
theorem dd_X0_find : yX0_find.cls = RX0 ∧ yX0_find.cls ≠ "java/lang/invoke/MethodHandle" ∧ yX0_find.cls ≠ "java/lang/invoke/VarHandle" ∧ (parseMethodDescriptor yX0_find.desc).map (fun d => d.parameters.length) = some 1 := by decide +kernel
-- ProRataMarket$Book.grantOf
theorem hi_X0_grantOf_0 : ∀ w ∈ wsX00, w ∈ wsX0_grantOf := fun w h => List.mem_cons_of_mem _ (List.mem_append_left _ (List.mem_append_right _ h))
theorem fd_X0_grantOf_17 : qFd RX0 wsX0_grantOf 17 0 2 1 2 := ⟨RX0, TX0, 4, _, rfl, hi_X0_grantOf_0, by decide, (by decide +kernel : Cond.fieldLink RX0 17 (TX0 2).1 (TX0 2).2.1 (TX0 2).2.2.1 ∈ wsX0_grantOf), rfl, rfl, by decide⟩
theorem hi_X0_grantOf_4 : ∀ w ∈ wsX40, w ∈ wsX0_grantOf := fun w h => List.mem_cons_of_mem _ (List.mem_append_right _ h)
theorem fd_X0_grantOf_46 : qFd RX0 wsX0_grantOf 46 4 2 0 402 := ⟨RX4, TX4, 6, _, rfl, hi_X0_grantOf_4, by decide, (by decide +kernel : Cond.fieldLink RX0 46 (TX4 2).1 (TX4 2).2.1 (TX4 2).2.2.1 ∈ wsX0_grantOf), rfl, rfl, by decide⟩
theorem fd_X0_grantOf_33 : qFd RX0 wsX0_grantOf 33 4 0 0 400 := ⟨RX4, TX4, 6, _, rfl, hi_X0_grantOf_4, by decide, (by decide +kernel : Cond.fieldLink RX0 33 (TX4 0).1 (TX4 0).2.1 (TX4 0).2.2.1 ∈ wsX0_grantOf), rfl, rfl, by decide⟩
theorem fd_X0_grantOf_21 : qFd RX0 wsX0_grantOf 21 0 3 1 3 := ⟨RX0, TX0, 4, _, rfl, hi_X0_grantOf_0, by decide, (by decide +kernel : Cond.fieldLink RX0 21 (TX0 3).1 (TX0 3).2.1 (TX0 3).2.2.1 ∈ wsX0_grantOf), rfl, rfl, by decide⟩
set_option maxHeartbeats 4000000 in
set_option maxRecDepth 20000 in
theorem w_X0_grantOf {X : qB} {N : Nat} (hX : qOk X cX0_grantOf RX0 2 (some .int) wsX0_grantOf 0 0) {r : Int} {nu : qM} (hE : xr X = some (.int (iZ r)) ∧ (in32 r → xΦ X) ∧ xμ X = nu) 
    {x0 : Nat} {x1 : Nat} (k_x0 : gK (xG X) x0 = 1) (k_x1 : gK (xG X) x1 = 5) {m0 : qM} (hR_m0 : qR (xG X) m0)
    (h : f_X0_grantOf N (xG X)  x0 x1 m0 = some (r, nu)) : qN X 2 0 [(0, .ref x0), (1, .ref x1)] [] m0 := by
  have hT := hX.T
  unfold f_X0_grantOf at h
  refine qn_aload_n hX (pc := 0) dX0_grantOf_0 0 rfl rfl ?_
  refine qn_getR hX (pc := 1) fd_X0_grantOf_17 dX0_grantOf_1 k_x0 ?_
  refine qn_aload_n hX (pc := 4) dX0_grantOf_4 1 rfl rfl ?_
  refine qn_getI hX (pc := 5) fd_X0_grantOf_46 dX0_grantOf_5 k_x1 ?_
  obtain ⟨v1, e_v1, b_v1, h⟩ := rdA_e h
  have r_v1 : in32 v1 := by rw [e_v1]; exact hR_m0.a (n := 2) _ (qr_2 hT k_x0) (by decide)
  refine qn_iald hX (pc := 8) 2 dX0_grantOf_8 (qr_2 hT k_x0) (by decide) b_v1 e_v1 ?_
  refine qn_aload_n hX (pc := 9) dX0_grantOf_9 1 rfl rfl ?_
  refine qn_getI hX (pc := 10) fd_X0_grantOf_33 dX0_grantOf_10 k_x1 ?_
  refine qn_icmp_ne hX (pc := 13) r_v1 (hR_m0.i 400 _ rfl) 28 dX0_grantOf_13 (by decide) (fun c2 => ?_) (fun c2 => ?_)
  · have h := ite_f h c2
    refine qn_iconst hX (pc := 28) dX0_grantOf_28 ?_
    exact qn_iret hX (pc := 29) dX0_grantOf_29 hE hR_m0 (by decide) (Option.some.inj h)
  · have h := ite_t h c2
    refine qn_aload_n hX (pc := 16) dX0_grantOf_16 0 rfl rfl ?_
    refine qn_getR hX (pc := 17) fd_X0_grantOf_21 dX0_grantOf_17 k_x0 ?_
    refine qn_aload_n hX (pc := 20) dX0_grantOf_20 1 rfl rfl ?_
    refine qn_getI hX (pc := 21) fd_X0_grantOf_46 dX0_grantOf_21 k_x1 ?_
    obtain ⟨v3, e_v3, b_v3, h⟩ := rdA_e h
    have r_v3 : in32 v3 := by rw [e_v3]; exact hR_m0.a (n := 2) _ (qr_3 hT k_x0) (by decide)
    refine qn_iald hX (pc := 24) 2 dX0_grantOf_24 (qr_3 hT k_x0) (by decide) b_v3 e_v3 ?_
    refine qn_goto hX (pc := 25) 29 dX0_grantOf_25 (by decide) ?_
    exact qn_iret hX (pc := 29) dX0_grantOf_29 hE hR_m0 r_v3 (Option.some.inj h)
theorem k_X0_grantOf (l : Launch) {G : qG} (hT : qT G) {N : Nat} {x0 : Nat} {x1 : Nat} (k_x0 : gK G x0 = 1) (k_x1 : gK G x1 = 5) {m0 : qM} {r : Int} {nu : qM} (h : f_X0_grantOf N G x0 x1 m0 = some (r, nu)) : qC l yX0_grantOf wsX0_grantOf 0 0 G [.ref x0, .ref x1] m0 (some (.int (iZ r))) (in32 r) nu := by
  refine qn_start (hy := by decide) hT (hw := rfl) (hn := Nat.le_of_ble_eq_true rfl) ?_
  intro X h1 h2 h3 h4 hX hR
  subst h4
  exact w_X0_grantOf hX ⟨h1, fun q => h2 ▸ q, h3⟩ k_x0 k_x1 hR h
theorem dd_X0_grantOf : yX0_grantOf.cls = RX0 ∧ yX0_grantOf.cls ≠ "java/lang/invoke/MethodHandle" ∧ yX0_grantOf.cls ≠ "java/lang/invoke/VarHandle" ∧ (parseMethodDescriptor yX0_grantOf.desc).map (fun d => d.parameters.length) = some 1 := by decide +kernel
-- ProRataMarket$Book.isAt
theorem hi_X0_isAt_0 : ∀ w ∈ wsX00, w ∈ wsX0_isAt := fun w h => List.mem_cons_of_mem _ (List.mem_append_left _ (List.mem_append_right _ h))
theorem fd_X0_isAt_11 : qFd RX0 wsX0_isAt 11 0 0 1 0 := ⟨RX0, TX0, 4, _, rfl, hi_X0_isAt_0, by decide, (by decide +kernel : Cond.fieldLink RX0 11 (TX0 0).1 (TX0 0).2.1 (TX0 0).2.2.1 ∈ wsX0_isAt), rfl, rfl, by decide⟩
theorem hi_X0_isAt_4 : ∀ w ∈ wsX40, w ∈ wsX0_isAt := fun w h => List.mem_cons_of_mem _ (List.mem_append_right _ h)
theorem fd_X0_isAt_46 : qFd RX0 wsX0_isAt 46 4 2 0 402 := ⟨RX4, TX4, 6, _, rfl, hi_X0_isAt_4, by decide, (by decide +kernel : Cond.fieldLink RX0 46 (TX4 2).1 (TX4 2).2.1 (TX4 2).2.2.1 ∈ wsX0_isAt), rfl, rfl, by decide⟩
theorem fd_X0_isAt_54 : qFd RX0 wsX0_isAt 54 4 3 0 403 := ⟨RX4, TX4, 6, _, rfl, hi_X0_isAt_4, by decide, (by decide +kernel : Cond.fieldLink RX0 54 (TX4 3).1 (TX4 3).2.1 (TX4 3).2.2.1 ∈ wsX0_isAt), rfl, rfl, by decide⟩
set_option maxHeartbeats 4000000 in
set_option maxRecDepth 20000 in
theorem w_X0_isAt {X : qB} {N : Nat} (hX : qOk X cX0_isAt RX0 4 (some .boolean) wsX0_isAt 0 0) {r : Int} {nu : qM} (hE : xr X = some (.int (iZ r)) ∧ (in01 r → xΦ X) ∧ xμ X = nu) 
    {x0 : Nat} {x1 : Int} {x2 : Int} {x3 : Int} (k_x0 : gK (xG X) x0 = 1) (r_x1 : in32 x1) (r_x2 : in32 x2) (r_x3 : in32 x3) {m0 : qM} (hR_m0 : qR (xG X) m0)
    (h : f_X0_isAt N (xG X)  x0 x1 x2 x3 m0 = some (r, nu)) : qN X 4 0 [(0, .ref x0), (1, .int (iZ x1)), (2, .int (iZ x2)), (3, .int (iZ x3))] [] m0 := by
  have hT := hX.T
  unfold f_X0_isAt at h
  refine qn_aload_n hX (pc := 0) dX0_isAt_0 0 rfl rfl ?_
  refine qn_getR hX (pc := 1) fd_X0_isAt_11 dX0_isAt_1 k_x0 ?_
  refine qn_iload_n hX (pc := 4) dX0_isAt_4 1 rfl rfl ?_
  obtain ⟨o1, e_o1, b_o1, k_o1, h⟩ := rdQ_e h
  refine qn_aaldO hX (pc := 5) 60 dX0_isAt_5 (qr_0 hT k_x0) (by decide) b_o1 e_o1 ?_
  refine qn_getI hX (pc := 6) fd_X0_isAt_46 dX0_isAt_6 k_o1 ?_
  refine qn_iload_n hX (pc := 9) dX0_isAt_9 2 rfl rfl ?_
  refine qn_icmp_ne hX (pc := 10) (hR_m0.i 402 _ rfl) r_x2 30 dX0_isAt_10 (by decide) (fun c2 => ?_) (fun c2 => ?_)
  · have h := ite_f h c2
    refine qn_iconst hX (pc := 30) dX0_isAt_30 ?_
    exact qn_zret hX (pc := 31) dX0_isAt_31 hE hR_m0 (by decide) (Option.some.inj h)
  · have h := ite_t h c2
    refine qn_aload_n hX (pc := 13) dX0_isAt_13 0 rfl rfl ?_
    refine qn_getR hX (pc := 14) fd_X0_isAt_11 dX0_isAt_14 k_x0 ?_
    refine qn_iload_n hX (pc := 17) dX0_isAt_17 1 rfl rfl ?_
    obtain ⟨o3, e_o3, b_o3, k_o3, h⟩ := rdQ_e h
    refine qn_aaldO hX (pc := 18) 60 dX0_isAt_18 (qr_0 hT k_x0) (by decide) b_o3 e_o3 ?_
    refine qn_getI hX (pc := 19) fd_X0_isAt_54 dX0_isAt_19 k_o3 ?_
    refine qn_iload_n hX (pc := 22) dX0_isAt_22 3 rfl rfl ?_
    refine qn_icmp_ne hX (pc := 23) (hR_m0.i 403 _ rfl) r_x3 30 dX0_isAt_23 (by decide) (fun c4 => ?_) (fun c4 => ?_)
    · have h := ite_f h c4
      refine qn_iconst hX (pc := 30) dX0_isAt_30 ?_
      exact qn_zret hX (pc := 31) dX0_isAt_31 hE hR_m0 (by decide) (Option.some.inj h)
    · have h := ite_t h c4
      refine qn_iconst hX (pc := 26) dX0_isAt_26 ?_
      refine qn_goto hX (pc := 27) 31 dX0_isAt_27 (by decide) ?_
      exact qn_zret hX (pc := 31) dX0_isAt_31 hE hR_m0 (by decide) (Option.some.inj h)
theorem k_X0_isAt (l : Launch) {G : qG} (hT : qT G) {N : Nat} {x0 : Nat} {x1 : Int} {x2 : Int} {x3 : Int} (k_x0 : gK G x0 = 1) (r_x1 : in32 x1) (r_x2 : in32 x2) (r_x3 : in32 x3) {m0 : qM} {r : Int} {nu : qM} (h : f_X0_isAt N G x0 x1 x2 x3 m0 = some (r, nu)) : qC l yX0_isAt wsX0_isAt 0 0 G [.ref x0, .int (iZ x1), .int (iZ x2), .int (iZ x3)] m0 (some (.int (iZ r))) (in01 r) nu := by
  refine qn_start (hy := by decide) hT (hw := rfl) (hn := Nat.le_of_ble_eq_true rfl) ?_
  intro X h1 h2 h3 h4 hX hR
  subst h4
  exact w_X0_isAt hX ⟨h1, fun q => h2 ▸ q, h3⟩ k_x0 r_x1 r_x2 r_x3 hR h
theorem dd_X0_isAt : yX0_isAt.cls = RX0 ∧ yX0_isAt.cls ≠ "java/lang/invoke/MethodHandle" ∧ yX0_isAt.cls ≠ "java/lang/invoke/VarHandle" ∧ (parseMethodDescriptor yX0_isAt.desc).map (fun d => d.parameters.length) = some 3 := by decide +kernel
-- ProRataMarket$Book.lapse
theorem hi_X0_lapse_0 : ∀ w ∈ wsX00, w ∈ wsX0_lapse := fun w h => List.mem_cons_of_mem _ (List.mem_append_left _ (List.mem_append_right _ h))
theorem fd_X0_lapse_17 : qFd RX0 wsX0_lapse 17 0 2 1 2 := ⟨RX0, TX0, 4, _, rfl, hi_X0_lapse_0, by decide, (by decide +kernel : Cond.fieldLink RX0 17 (TX0 2).1 (TX0 2).2.1 (TX0 2).2.2.1 ∈ wsX0_lapse), rfl, rfl, by decide⟩
theorem hi_X0_lapse_4 : ∀ w ∈ wsX40, w ∈ wsX0_lapse := fun w h => List.mem_cons_of_mem _ (List.mem_append_right _ h)
theorem fd_X0_lapse_46 : qFd RX0 wsX0_lapse 46 4 2 0 402 := ⟨RX4, TX4, 6, _, rfl, hi_X0_lapse_4, by decide, (by decide +kernel : Cond.fieldLink RX0 46 (TX4 2).1 (TX4 2).2.1 (TX4 2).2.2.1 ∈ wsX0_lapse), rfl, rfl, by decide⟩
theorem fd_X0_lapse_33 : qFd RX0 wsX0_lapse 33 4 0 0 400 := ⟨RX4, TX4, 6, _, rfl, hi_X0_lapse_4, by decide, (by decide +kernel : Cond.fieldLink RX0 33 (TX4 0).1 (TX4 0).2.1 (TX4 0).2.2.1 ∈ wsX0_lapse), rfl, rfl, by decide⟩
theorem fd_X0_lapse_21 : qFd RX0 wsX0_lapse 21 0 3 1 3 := ⟨RX0, TX0, 4, _, rfl, hi_X0_lapse_0, by decide, (by decide +kernel : Cond.fieldLink RX0 21 (TX0 3).1 (TX0 3).2.1 (TX0 3).2.2.1 ∈ wsX0_lapse), rfl, rfl, by decide⟩
set_option maxHeartbeats 4000000 in
set_option maxRecDepth 20000 in
theorem w_X0_lapse {X : qB} {N : Nat} (hX : qOk X cX0_lapse RX0 2 none wsX0_lapse 0 0) {r : qM} (hE : xr X = none ∧ (True → xΦ X) ∧ xμ X = r) 
    {x0 : Nat} {x1 : Nat} (k_x0 : gK (xG X) x0 = 1) (k_x1 : gK (xG X) x1 = 5) {m0 : qM} (hR_m0 : qR (xG X) m0)
    (h : f_X0_lapse N (xG X)  x0 x1 m0 = some r) : qN X 2 0 [(0, .ref x0), (1, .ref x1)] [] m0 := by
  have hT := hX.T
  unfold f_X0_lapse at h
  refine qn_aload_n hX (pc := 0) dX0_lapse_0 0 rfl rfl ?_
  refine qn_getR hX (pc := 1) fd_X0_lapse_17 dX0_lapse_1 k_x0 ?_
  refine qn_aload_n hX (pc := 4) dX0_lapse_4 1 rfl rfl ?_
  refine qn_getI hX (pc := 5) fd_X0_lapse_46 dX0_lapse_5 k_x1 ?_
  obtain ⟨v1, e_v1, b_v1, h⟩ := rdA_e h
  have r_v1 : in32 v1 := by rw [e_v1]; exact hR_m0.a (n := 2) _ (qr_2 hT k_x0) (by decide)
  refine qn_iald hX (pc := 8) 2 dX0_lapse_8 (qr_2 hT k_x0) (by decide) b_v1 e_v1 ?_
  refine qn_aload_n hX (pc := 9) dX0_lapse_9 1 rfl rfl ?_
  refine qn_getI hX (pc := 10) fd_X0_lapse_33 dX0_lapse_10 k_x1 ?_
  refine qn_icmp_ne hX (pc := 13) r_v1 (hR_m0.i 400 _ rfl) 36 dX0_lapse_13 (by decide) (fun c2 => ?_) (fun c2 => ?_)
  · have h := ite_f h c2
    exact qn_vret hX (pc := 36) dX0_lapse_36 hE hR_m0 (Option.some.inj h)
  · have h := ite_t h c2
    refine qn_aload_n hX (pc := 16) dX0_lapse_16 0 rfl rfl ?_
    refine qn_getR hX (pc := 17) fd_X0_lapse_17 dX0_lapse_17 k_x0 ?_
    refine qn_aload_n hX (pc := 20) dX0_lapse_20 1 rfl rfl ?_
    refine qn_getI hX (pc := 21) fd_X0_lapse_46 dX0_lapse_21 k_x1 ?_
    refine qn_iconst hX (pc := 24) dX0_lapse_24 ?_
    obtain ⟨m3, e_m3, b_m3, h⟩ := wrA_e h
    refine qn_iast hX (pc := 25) 2 dX0_lapse_25 (qr_2 hT k_x0) (by decide) b_m3 hR_m0 (by decide) e_m3 (fun hR_m3 => ?_) 
    refine qn_aload_n hX (pc := 26) dX0_lapse_26 0 rfl rfl ?_
    refine qn_getR hX (pc := 27) fd_X0_lapse_21 dX0_lapse_27 k_x0 ?_
    refine qn_aload_n hX (pc := 30) dX0_lapse_30 1 rfl rfl ?_
    refine qn_getI hX (pc := 31) fd_X0_lapse_46 dX0_lapse_31 k_x1 ?_
    refine qn_iconst hX (pc := 34) dX0_lapse_34 ?_
    obtain ⟨m4, e_m4, b_m4, h⟩ := wrA_e h
    refine qn_iast hX (pc := 35) 2 dX0_lapse_35 (qr_3 hT k_x0) (by decide) b_m4 hR_m3 (by decide) e_m4 (fun hR_m4 => ?_) 
    exact qn_vret hX (pc := 36) dX0_lapse_36 hE hR_m4 (Option.some.inj h)
theorem k_X0_lapse (l : Launch) {G : qG} (hT : qT G) {N : Nat} {x0 : Nat} {x1 : Nat} (k_x0 : gK G x0 = 1) (k_x1 : gK G x1 = 5) {m0 : qM} {r : qM} (h : f_X0_lapse N G x0 x1 m0 = some r) : qC l yX0_lapse wsX0_lapse 0 0 G [.ref x0, .ref x1] m0 none True r := by
  refine qn_start (hy := by decide) hT (hw := rfl) (hn := Nat.le_of_ble_eq_true rfl) ?_
  intro X h1 h2 h3 h4 hX hR
  subst h4
  exact w_X0_lapse hX ⟨h1, fun q => h2 ▸ q, h3⟩ k_x0 k_x1 hR h
theorem dd_X0_lapse : yX0_lapse.cls = RX0 ∧ yX0_lapse.cls ≠ "java/lang/invoke/MethodHandle" ∧ yX0_lapse.cls ≠ "java/lang/invoke/VarHandle" ∧ (parseMethodDescriptor yX0_lapse.desc).map (fun d => d.parameters.length) = some 1 := by decide +kernel
-- ProRataMarket$Book.makeTop
theorem hi_X0_makeTop_0 : ∀ w ∈ wsX00, w ∈ wsX0_makeTop := fun w h => List.mem_cons_of_mem _ (List.mem_append_left _ (List.mem_append_right _ h))
theorem fd_X0_makeTop_17 : qFd RX0 wsX0_makeTop 17 0 2 1 2 := ⟨RX0, TX0, 4, _, rfl, hi_X0_makeTop_0, by decide, (by decide +kernel : Cond.fieldLink RX0 17 (TX0 2).1 (TX0 2).2.1 (TX0 2).2.2.1 ∈ wsX0_makeTop), rfl, rfl, by decide⟩
theorem hi_X0_makeTop_4 : ∀ w ∈ wsX40, w ∈ wsX0_makeTop := fun w h => List.mem_cons_of_mem _ (List.mem_append_right _ h)
theorem fd_X0_makeTop_46 : qFd RX0 wsX0_makeTop 46 4 2 0 402 := ⟨RX4, TX4, 6, _, rfl, hi_X0_makeTop_4, by decide, (by decide +kernel : Cond.fieldLink RX0 46 (TX4 2).1 (TX4 2).2.1 (TX4 2).2.2.1 ∈ wsX0_makeTop), rfl, rfl, by decide⟩
theorem fd_X0_makeTop_33 : qFd RX0 wsX0_makeTop 33 4 0 0 400 := ⟨RX4, TX4, 6, _, rfl, hi_X0_makeTop_4, by decide, (by decide +kernel : Cond.fieldLink RX0 33 (TX4 0).1 (TX4 0).2.1 (TX4 0).2.2.1 ∈ wsX0_makeTop), rfl, rfl, by decide⟩
theorem fd_X0_makeTop_21 : qFd RX0 wsX0_makeTop 21 0 3 1 3 := ⟨RX0, TX0, 4, _, rfl, hi_X0_makeTop_0, by decide, (by decide +kernel : Cond.fieldLink RX0 21 (TX0 3).1 (TX0 3).2.1 (TX0 3).2.2.1 ∈ wsX0_makeTop), rfl, rfl, by decide⟩
set_option maxHeartbeats 4000000 in
set_option maxRecDepth 20000 in
theorem w_X0_makeTop {X : qB} {N : Nat} (hX : qOk X cX0_makeTop RX0 3 none wsX0_makeTop 0 0) {r : qM} (hE : xr X = none ∧ (True → xΦ X) ∧ xμ X = r) 
    {x0 : Nat} {x1 : Nat} {x2 : Int} (k_x0 : gK (xG X) x0 = 1) (k_x1 : gK (xG X) x1 = 5) (r_x2 : in32 x2) {m0 : qM} (hR_m0 : qR (xG X) m0)
    (h : f_X0_makeTop N (xG X)  x0 x1 x2 m0 = some r) : qN X 3 0 [(0, .ref x0), (1, .ref x1), (2, .int (iZ x2))] [] m0 := by
  have hT := hX.T
  unfold f_X0_makeTop at h
  refine qn_aload_n hX (pc := 0) dX0_makeTop_0 0 rfl rfl ?_
  refine qn_getR hX (pc := 1) fd_X0_makeTop_17 dX0_makeTop_1 k_x0 ?_
  refine qn_aload_n hX (pc := 4) dX0_makeTop_4 1 rfl rfl ?_
  refine qn_getI hX (pc := 5) fd_X0_makeTop_46 dX0_makeTop_5 k_x1 ?_
  refine qn_aload_n hX (pc := 8) dX0_makeTop_8 1 rfl rfl ?_
  refine qn_getI hX (pc := 9) fd_X0_makeTop_33 dX0_makeTop_9 k_x1 ?_
  obtain ⟨m1, e_m1, b_m1, h⟩ := wrA_e h
  refine qn_iast hX (pc := 12) 2 dX0_makeTop_12 (qr_2 hT k_x0) (by decide) b_m1 hR_m0 (hR_m0.i 400 _ rfl) e_m1 (fun hR_m1 => ?_) 
  refine qn_aload_n hX (pc := 13) dX0_makeTop_13 0 rfl rfl ?_
  refine qn_getR hX (pc := 14) fd_X0_makeTop_21 dX0_makeTop_14 k_x0 ?_
  refine qn_aload_n hX (pc := 17) dX0_makeTop_17 1 rfl rfl ?_
  refine qn_getI hX (pc := 18) fd_X0_makeTop_46 dX0_makeTop_18 k_x1 ?_
  refine qn_iload_n hX (pc := 21) dX0_makeTop_21 2 rfl rfl ?_
  obtain ⟨m2, e_m2, b_m2, h⟩ := wrA_e h
  refine qn_iast hX (pc := 22) 2 dX0_makeTop_22 (qr_3 hT k_x0) (by decide) b_m2 hR_m1 r_x2 e_m2 (fun hR_m2 => ?_) 
  exact qn_vret hX (pc := 23) dX0_makeTop_23 hE hR_m2 (Option.some.inj h)
theorem k_X0_makeTop (l : Launch) {G : qG} (hT : qT G) {N : Nat} {x0 : Nat} {x1 : Nat} {x2 : Int} (k_x0 : gK G x0 = 1) (k_x1 : gK G x1 = 5) (r_x2 : in32 x2) {m0 : qM} {r : qM} (h : f_X0_makeTop N G x0 x1 x2 m0 = some r) : qC l yX0_makeTop wsX0_makeTop 0 0 G [.ref x0, .ref x1, .int (iZ x2)] m0 none True r := by
  refine qn_start (hy := by decide) hT (hw := rfl) (hn := Nat.le_of_ble_eq_true rfl) ?_
  intro X h1 h2 h3 h4 hX hR
  subst h4
  exact w_X0_makeTop hX ⟨h1, fun q => h2 ▸ q, h3⟩ k_x0 k_x1 r_x2 hR h
theorem dd_X0_makeTop : yX0_makeTop.cls = RX0 ∧ yX0_makeTop.cls ≠ "java/lang/invoke/MethodHandle" ∧ yX0_makeTop.cls ≠ "java/lang/invoke/VarHandle" ∧ (parseMethodDescriptor yX0_makeTop.desc).map (fun d => d.parameters.length) = some 2 := by decide +kernel
-- ProRataMarket$Book.sweep
theorem hi_X0_sweep_0 : ∀ w ∈ wsX00, w ∈ wsX0_sweep := fun w h => List.mem_cons_of_mem _ (List.mem_append_left _ (List.mem_append_right _ h))
theorem fd_X0_sweep_25 : qFd RX0 wsX0_sweep 25 0 1 0 1 := ⟨RX0, TX0, 4, _, rfl, hi_X0_sweep_0, by decide, (by decide +kernel : Cond.fieldLink RX0 25 (TX0 1).1 (TX0 1).2.1 (TX0 1).2.2.1 ∈ wsX0_sweep), rfl, rfl, by decide⟩
theorem fp_X0_sweep_25 : qFp RX0 wsX0_sweep 25 0 1 0 1 .int := ⟨RX0, TX0, 4, _, tyX0, rfl, hi_X0_sweep_0, by decide, (by decide +kernel : Cond.fieldLink RX0 25 (TX0 1).1 (TX0 1).2.1 (TX0 1).2.2.1 ∈ wsX0_sweep), rfl, rfl, by decide, tyX0_ok, nmX0, rfl, by decide +kernel⟩
theorem fd_X0_sweep_11 : qFd RX0 wsX0_sweep 11 0 0 1 0 := ⟨RX0, TX0, 4, _, rfl, hi_X0_sweep_0, by decide, (by decide +kernel : Cond.fieldLink RX0 11 (TX0 0).1 (TX0 0).2.1 (TX0 0).2.2.1 ∈ wsX0_sweep), rfl, rfl, by decide⟩
theorem hi_X0_sweep_4 : ∀ w ∈ wsX40, w ∈ wsX0_sweep := fun w h => List.mem_cons_of_mem _ (List.mem_append_right _ h)
theorem fd_X0_sweep_40 : qFd RX0 wsX0_sweep 40 4 4 0 404 := ⟨RX4, TX4, 6, _, rfl, hi_X0_sweep_4, by decide, (by decide +kernel : Cond.fieldLink RX0 40 (TX4 4).1 (TX4 4).2.1 (TX4 4).2.2.1 ∈ wsX0_sweep), rfl, rfl, by decide⟩
set_option maxHeartbeats 4000000 in
set_option maxRecDepth 20000 in
theorem w_X0_sweep_56 {X : qB} {N : Nat} (hX : qOk X cX0_sweep RX0 4 none wsX0_sweep 1 21) {r : qM} (hE : xr X = none ∧ (True → xΦ X) ∧ xμ X = r) {k4 : (Nat → Int → Int → qM → Option (qM))} (hk4 : ∀ (x0 : Nat) (x1 : Int) (x2 : Int) (m0 : qM), gK (xG X) x0 = 1 → in32 x1 → in32 x2 → qR (xG X) m0 → k4 x0 x1 x2 m0 = some r → qN X 4 4 [(0, .ref x0), (1, .int (iZ x1)), (2, .int (iZ x2))] [] m0)
    {x0 : Nat} {x1 : Int} {x2 : Int} (k_x0 : gK (xG X) x0 = 1) (r_x1 : in32 x1) (r_x2 : in32 x2) {m0 : qM} (hR_m0 : qR (xG X) m0)
    (h : f_X0_sweep_56 N (xG X) k4 x0 x1 x2 m0 = some r) : qN X 4 56 [(0, .ref x0), (1, .int (iZ x1)), (2, .int (iZ x2))] [] m0 := by
  have hT := hX.T
  unfold f_X0_sweep_56 at h
  obtain ⟨v1, e_v1, r_v1, h⟩ := ckI_e h
  refine qn_iinc hX (pc := 56) (ls' := [(2, .int (iZ v1)), (0, .ref x0), (1, .int (iZ x1))]) dX0_sweep_56 2 rfl e_v1 rfl rfl ?_
  refine qn_goto hX (pc := 59) 4 dX0_sweep_59 (by decide) ?_
  refine qn_sub (ls' := [(0, .ref x0), (1, .int (iZ x1)), (2, .int (iZ v1))]) [1, 2, 0] rfl ?_
  exact hk4 x0 x1 v1 m0 k_x0 r_x1 r_v1 hR_m0 h
set_option maxHeartbeats 4000000 in
set_option maxRecDepth 20000 in
theorem w_X0_sweep_4 {X : qB} {N : Nat} (hX : qOk X cX0_sweep RX0 4 none wsX0_sweep 1 21) {r : qM} (hE : xr X = none ∧ (True → xΦ X) ∧ xμ X = r) {k4 : (Nat → Int → Int → qM → Option (qM))} (hk4 : ∀ (x0 : Nat) (x1 : Int) (x2 : Int) (m0 : qM), gK (xG X) x0 = 1 → in32 x1 → in32 x2 → qR (xG X) m0 → k4 x0 x1 x2 m0 = some r → qN X 4 4 [(0, .ref x0), (1, .int (iZ x1)), (2, .int (iZ x2))] [] m0)
    {x0 : Nat} {x1 : Int} {x2 : Int} (k_x0 : gK (xG X) x0 = 1) (r_x1 : in32 x1) (r_x2 : in32 x2) {m0 : qM} (hR_m0 : qR (xG X) m0)
    (h : f_X0_sweep_4 N (xG X) k4 x0 x1 x2 m0 = some r) : qN X 4 4 [(0, .ref x0), (1, .int (iZ x1)), (2, .int (iZ x2))] [] m0 := by
  have hT := hX.T
  unfold f_X0_sweep_4 at h
  refine qn_iload_n hX (pc := 4) dX0_sweep_4 2 rfl rfl ?_
  refine qn_aload_n hX (pc := 5) dX0_sweep_5 0 rfl rfl ?_
  refine qn_getI hX (pc := 6) fd_X0_sweep_25 dX0_sweep_6 k_x0 ?_
  refine qn_icmp_ge hX (pc := 9) r_x2 (hR_m0.i 1 _ rfl) 62 dX0_sweep_9 (by decide) (fun c1 => ?_) (fun c1 => ?_)
  · have h := ite_f h c1
    refine qn_aload_n hX (pc := 62) dX0_sweep_62 0 rfl rfl ?_
    refine qn_iload_n hX (pc := 63) dX0_sweep_63 1 rfl rfl ?_
    obtain ⟨m2, e_m2, h⟩ := kp_e h
    refine qn_putI hX (pc := 64) fp_X0_sweep_25 dX0_sweep_64 k_x0 hR_m0 r_x1 e_m2 (fun hR_m2 => ?_) 
    exact qn_vret hX (pc := 67) dX0_sweep_67 hE hR_m2 (Option.some.inj h)
  · have h := ite_t h c1
    refine qn_aload_n hX (pc := 12) dX0_sweep_12 0 rfl rfl ?_
    refine qn_getR hX (pc := 13) fd_X0_sweep_11 dX0_sweep_13 k_x0 ?_
    refine qn_iload_n hX (pc := 16) dX0_sweep_16 2 rfl rfl ?_
    obtain ⟨o3, e_o3, b_o3, k_o3, h⟩ := rdQ_e h
    refine qn_aaldO hX (pc := 17) 60 dX0_sweep_17 (qr_0 hT k_x0) (by decide) b_o3 e_o3 ?_
    refine qn_astore_n hX (pc := 18) (ls' := [(3, .ref o3), (0, .ref x0), (1, .int (iZ x1)), (2, .int (iZ x2))]) dX0_sweep_18 rfl rfl rfl ?_
    refine qn_aload_n hX (pc := 19) dX0_sweep_19 0 rfl rfl ?_
    refine qn_getI hX (pc := 20) fd_X0_sweep_40 dX0_sweep_20 k_o3 ?_
    refine qn_if_le hX (pc := 23) (hR_m0.i 404 _ rfl) 51 dX0_sweep_23 (by decide) (fun c4 => ?_) (fun c4 => ?_)
    · have h := ite_f h c4
      refine qn_aload_n hX (pc := 51) dX0_sweep_51 1 rfl rfl ?_
      refine qn_aload_n hX (pc := 52) dX0_sweep_52 0 rfl rfl ?_
      obtain ⟨m5, e_m5, h⟩ := kb_e h
      refine qn_callVv hX (pc := 53) [.ref o3] [.ref o3] 1 dX0_sweep_53 gX0_sweep_X0_lapse rfl dd_X0_lapse ⟨rfl, rfl⟩ rfl rfl (by decide) k_x0 rfl rfl hR_m0 (k_X0_lapse (xl X) hT k_x0 k_o3 e_m5) (fun r_v6 hR_m5 => ?_)
      refine qn_sub (ls' := [(0, .ref x0), (1, .int (iZ x1)), (2, .int (iZ x2))]) [1, 2, 3] rfl ?_
      exact w_X0_sweep_56 hX hE hk4 k_x0 r_x1 r_x2 hR_m5 h
    · have h := ite_t h c4
      refine qn_aload_n hX (pc := 26) dX0_sweep_26 1 rfl rfl ?_
      refine qn_getR hX (pc := 27) fd_X0_sweep_11 dX0_sweep_27 k_x0 ?_
      refine qn_iload_n hX (pc := 30) dX0_sweep_30 3 rfl rfl ?_
      refine qn_aload_n hX (pc := 31) dX0_sweep_31 1 rfl rfl ?_
      refine qn_getR hX (pc := 32) fd_X0_sweep_11 dX0_sweep_32 k_x0 ?_
      refine qn_iload_n hX (pc := 35) dX0_sweep_35 2 rfl rfl ?_
      obtain ⟨o7, e_o7, b_o7, k_o7, h⟩ := rdQ_e h
      refine qn_aaldO hX (pc := 36) 60 dX0_sweep_36 (qr_0 hT k_x0) (by decide) b_o7 e_o7 ?_
      obtain ⟨m8, e_m8, b_m8, h⟩ := wrQ_e h
      refine qn_aastO hX (pc := 37) 60 dX0_sweep_37 (qr_0 hT k_x0) (by decide) b_m8 hR_m0 k_o7 e_m8 (fun hR_m8 => ?_) 
      refine qn_aload_n hX (pc := 38) dX0_sweep_38 1 rfl rfl ?_
      refine qn_getR hX (pc := 39) fd_X0_sweep_11 dX0_sweep_39 k_x0 ?_
      refine qn_iload_n hX (pc := 42) dX0_sweep_42 2 rfl rfl ?_
      refine qn_aload_n hX (pc := 43) dX0_sweep_43 0 rfl rfl ?_
      obtain ⟨m9, e_m9, b_m9, h⟩ := wrQ_e h
      refine qn_aastO hX (pc := 44) 60 dX0_sweep_44 (qr_0 hT k_x0) (by decide) b_m9 hR_m8 k_o3 e_m9 (fun hR_m9 => ?_) 
      obtain ⟨v10, e_v10, r_v10, h⟩ := ckI_e h
      refine qn_iinc hX (pc := 45) (ls' := [(1, .int (iZ v10)), (3, .ref o3), (0, .ref x0), (2, .int (iZ x2))]) dX0_sweep_45 2 rfl e_v10 rfl rfl ?_
      refine qn_goto hX (pc := 48) 56 dX0_sweep_48 (by decide) ?_
      refine qn_sub (ls' := [(0, .ref x0), (1, .int (iZ v10)), (2, .int (iZ x2))]) [2, 0, 3] rfl ?_
      exact w_X0_sweep_56 hX hE hk4 k_x0 r_v10 r_x2 hR_m9 h
set_option maxHeartbeats 4000000 in
set_option maxRecDepth 20000 in
theorem w_X0_sweep_L4 {X : qB} {N : Nat} (hX : qOk X cX0_sweep RX0 4 none wsX0_sweep 1 21) {r : qM} (hE : xr X = none ∧ (True → xΦ X) ∧ xμ X = r) 
    {x0 : Nat} {x1 : Int} {x2 : Int} (k_x0 : gK (xG X) x0 = 1) (r_x1 : in32 x1) (r_x2 : in32 x2) {m0 : qM} (hR_m0 : qR (xG X) m0)
    (h : f_X0_sweep_L4 N (xG X)  x0 x1 x2 m0 = some r) : qN X 4 4 [(0, .ref x0), (1, .int (iZ x1)), (2, .int (iZ x2))] [] m0 := by
  unfold f_X0_sweep_L4 at h
  exact qLoop_w (σ := Nat × Int × Int × qM) (P := fun p => gK (xG X) p.1 = 1 ∧ in32 p.2.1 ∧ in32 p.2.2.1 ∧ qR (xG X) p.2.2.2) (Q := fun p => qN X 4 4 [(0, .ref p.1), (1, .int (iZ p.2.1)), (2, .int (iZ p.2.2.1))] [] p.2.2.2) (fun k hrec p hp hh => w_X0_sweep_4 hX hE (fun x0 x1 x2 m0 q0 q1 q2 hRm hh => hrec (x0, x1, x2, m0) ⟨q0, q1, q2, hRm⟩ hh) hp.1 hp.2.1 hp.2.2.1 hp.2.2.2 hh) N (x0, x1, x2, m0) ⟨k_x0, r_x1, r_x2, hR_m0⟩ h
set_option maxHeartbeats 4000000 in
set_option maxRecDepth 20000 in
theorem w_X0_sweep {X : qB} {N : Nat} (hX : qOk X cX0_sweep RX0 4 none wsX0_sweep 1 21) {r : qM} (hE : xr X = none ∧ (True → xΦ X) ∧ xμ X = r) 
    {x0 : Nat} (k_x0 : gK (xG X) x0 = 1) {m0 : qM} (hR_m0 : qR (xG X) m0)
    (h : f_X0_sweep N (xG X)  x0 m0 = some r) : qN X 4 0 [(0, .ref x0)] [] m0 := by
  have hT := hX.T
  unfold f_X0_sweep at h
  refine qn_iconst hX (pc := 0) dX0_sweep_0 ?_
  refine qn_istore_n hX (pc := 1) (ls' := [(1, .int (iZ 0)), (0, .ref x0)]) dX0_sweep_1 rfl rfl rfl ?_
  refine qn_iconst hX (pc := 2) dX0_sweep_2 ?_
  refine qn_istore_n hX (pc := 3) (ls' := [(2, .int (iZ 0)), (1, .int (iZ 0)), (0, .ref x0)]) dX0_sweep_3 rfl rfl rfl ?_
  refine qn_sub (ls' := [(0, .ref x0), (1, .int (iZ 0)), (2, .int (iZ 0))]) [2, 1, 0] rfl ?_
  exact w_X0_sweep_L4 hX hE  k_x0 (by decide) (by decide) hR_m0 h
theorem k_X0_sweep (l : Launch) {G : qG} (hT : qT G) {N : Nat} {x0 : Nat} (k_x0 : gK G x0 = 1) {m0 : qM} {r : qM} (h : f_X0_sweep N G x0 m0 = some r) : qC l yX0_sweep wsX0_sweep 1 21 G [.ref x0] m0 none True r := by
  refine qn_start (hy := by decide) hT (hw := rfl) (hn := Nat.le_of_ble_eq_true rfl) ?_
  intro X h1 h2 h3 h4 hX hR
  subst h4
  exact w_X0_sweep hX ⟨h1, fun q => h2 ▸ q, h3⟩ k_x0 hR h
theorem dd_X0_sweep : yX0_sweep.cls = RX0 ∧ yX0_sweep.cls ≠ "java/lang/invoke/MethodHandle" ∧ yX0_sweep.cls ≠ "java/lang/invoke/VarHandle" ∧ (parseMethodDescriptor yX0_sweep.desc).map (fun d => d.parameters.length) = some 0 := by decide +kernel
-- ProRataMarket$Book.useGrant
theorem hi_X0_useGrant_0 : ∀ w ∈ wsX00, w ∈ wsX0_useGrant := fun w h => List.mem_cons_of_mem _ (List.mem_append_left _ (List.mem_append_right _ h))
theorem fd_X0_useGrant_21 : qFd RX0 wsX0_useGrant 21 0 3 1 3 := ⟨RX0, TX0, 4, _, rfl, hi_X0_useGrant_0, by decide, (by decide +kernel : Cond.fieldLink RX0 21 (TX0 3).1 (TX0 3).2.1 (TX0 3).2.2.1 ∈ wsX0_useGrant), rfl, rfl, by decide⟩
theorem hi_X0_useGrant_4 : ∀ w ∈ wsX40, w ∈ wsX0_useGrant := fun w h => List.mem_cons_of_mem _ (List.mem_append_right _ h)
theorem fd_X0_useGrant_46 : qFd RX0 wsX0_useGrant 46 4 2 0 402 := ⟨RX4, TX4, 6, _, rfl, hi_X0_useGrant_4, by decide, (by decide +kernel : Cond.fieldLink RX0 46 (TX4 2).1 (TX4 2).2.1 (TX4 2).2.2.1 ∈ wsX0_useGrant), rfl, rfl, by decide⟩
theorem fd_X0_useGrant_17 : qFd RX0 wsX0_useGrant 17 0 2 1 2 := ⟨RX0, TX0, 4, _, rfl, hi_X0_useGrant_0, by decide, (by decide +kernel : Cond.fieldLink RX0 17 (TX0 2).1 (TX0 2).2.1 (TX0 2).2.2.1 ∈ wsX0_useGrant), rfl, rfl, by decide⟩
set_option maxHeartbeats 4000000 in
set_option maxRecDepth 20000 in
theorem w_X0_useGrant {X : qB} {N : Nat} (hX : qOk X cX0_useGrant RX0 3 none wsX0_useGrant 0 0) {r : qM} (hE : xr X = none ∧ (True → xΦ X) ∧ xμ X = r) 
    {x0 : Nat} {x1 : Nat} {x2 : Int} (k_x0 : gK (xG X) x0 = 1) (k_x1 : gK (xG X) x1 = 5) (r_x2 : in32 x2) {m0 : qM} (hR_m0 : qR (xG X) m0)
    (h : f_X0_useGrant N (xG X)  x0 x1 x2 m0 = some r) : qN X 3 0 [(0, .ref x0), (1, .ref x1), (2, .int (iZ x2))] [] m0 := by
  have hT := hX.T
  unfold f_X0_useGrant at h
  refine qn_aload_n hX (pc := 0) dX0_useGrant_0 0 rfl rfl ?_
  refine qn_getR hX (pc := 1) fd_X0_useGrant_21 dX0_useGrant_1 k_x0 ?_
  refine qn_aload_n hX (pc := 4) dX0_useGrant_4 1 rfl rfl ?_
  refine qn_getI hX (pc := 5) fd_X0_useGrant_46 dX0_useGrant_5 k_x1 ?_
  refine qn_dup2 hX (pc := 8) dX0_useGrant_8 rfl rfl ?_
  obtain ⟨v1, e_v1, b_v1, h⟩ := rdA_e h
  have r_v1 : in32 v1 := by rw [e_v1]; exact hR_m0.a (n := 2) _ (qr_3 hT k_x0) (by decide)
  refine qn_iald hX (pc := 9) 2 dX0_useGrant_9 (qr_3 hT k_x0) (by decide) b_v1 e_v1 ?_
  refine qn_iload_n hX (pc := 10) dX0_useGrant_10 2 rfl rfl ?_
  obtain ⟨v2, e_v2, r_v2, h⟩ := ckI_e h
  refine qn_isub hX (pc := 11) dX0_useGrant_11 e_v2 ?_
  obtain ⟨m3, e_m3, b_m3, h⟩ := wrA_e h
  refine qn_iast hX (pc := 12) 2 dX0_useGrant_12 (qr_3 hT k_x0) (by decide) b_m3 hR_m0 r_v2 e_m3 (fun hR_m3 => ?_) 
  refine qn_aload_n hX (pc := 13) dX0_useGrant_13 0 rfl rfl ?_
  refine qn_getR hX (pc := 14) fd_X0_useGrant_21 dX0_useGrant_14 k_x0 ?_
  refine qn_aload_n hX (pc := 17) dX0_useGrant_17 1 rfl rfl ?_
  refine qn_getI hX (pc := 18) fd_X0_useGrant_46 dX0_useGrant_18 k_x1 ?_
  obtain ⟨v4, e_v4, b_v4, h⟩ := rdA_e h
  have r_v4 : in32 v4 := by rw [e_v4]; exact hR_m3.a (n := 2) _ (qr_3 hT k_x0) (by decide)
  refine qn_iald hX (pc := 21) 2 dX0_useGrant_21 (qr_3 hT k_x0) (by decide) b_v4 e_v4 ?_
  refine qn_if_gt hX (pc := 22) r_v4 35 dX0_useGrant_22 (by decide) (fun c5 => ?_) (fun c5 => ?_)
  · have h := ite_t h c5
    exact qn_vret hX (pc := 35) dX0_useGrant_35 hE hR_m3 (Option.some.inj h)
  · have h := ite_f h c5
    refine qn_aload_n hX (pc := 25) dX0_useGrant_25 0 rfl rfl ?_
    refine qn_getR hX (pc := 26) fd_X0_useGrant_17 dX0_useGrant_26 k_x0 ?_
    refine qn_aload_n hX (pc := 29) dX0_useGrant_29 1 rfl rfl ?_
    refine qn_getI hX (pc := 30) fd_X0_useGrant_46 dX0_useGrant_30 k_x1 ?_
    refine qn_iconst hX (pc := 33) dX0_useGrant_33 ?_
    obtain ⟨m6, e_m6, b_m6, h⟩ := wrA_e h
    refine qn_iast hX (pc := 34) 2 dX0_useGrant_34 (qr_2 hT k_x0) (by decide) b_m6 hR_m3 (by decide) e_m6 (fun hR_m6 => ?_) 
    exact qn_vret hX (pc := 35) dX0_useGrant_35 hE hR_m6 (Option.some.inj h)
theorem k_X0_useGrant (l : Launch) {G : qG} (hT : qT G) {N : Nat} {x0 : Nat} {x1 : Nat} {x2 : Int} (k_x0 : gK G x0 = 1) (k_x1 : gK G x1 = 5) (r_x2 : in32 x2) {m0 : qM} {r : qM} (h : f_X0_useGrant N G x0 x1 x2 m0 = some r) : qC l yX0_useGrant wsX0_useGrant 0 0 G [.ref x0, .ref x1, .int (iZ x2)] m0 none True r := by
  refine qn_start (hy := by decide) hT (hw := rfl) (hn := Nat.le_of_ble_eq_true rfl) ?_
  intro X h1 h2 h3 h4 hX hR
  subst h4
  exact w_X0_useGrant hX ⟨h1, fun q => h2 ▸ q, h3⟩ k_x0 k_x1 r_x2 hR h
theorem dd_X0_useGrant : yX0_useGrant.cls = RX0 ∧ yX0_useGrant.cls ≠ "java/lang/invoke/MethodHandle" ∧ yX0_useGrant.cls ≠ "java/lang/invoke/VarHandle" ∧ (parseMethodDescriptor yX0_useGrant.desc).map (fun d => d.parameters.length) = some 2 := by decide +kernel
-- ProRataMarket$Floor.loseOwn
theorem hi_X2_loseOwn_2 : ∀ w ∈ wsX20, w ∈ wsX2_loseOwn := fun w h => List.mem_cons_of_mem _ (List.mem_append_left _ (List.mem_append_right _ h))
theorem fd_X2_loseOwn_70 : qFd RX2 wsX2_loseOwn 70 2 10 0 210 := ⟨RX2, TX2, 12, _, rfl, hi_X2_loseOwn_2, by decide, (by decide +kernel : Cond.fieldLink RX2 70 (TX2 10).1 (TX2 10).2.1 (TX2 10).2.2.1 ∈ wsX2_loseOwn), rfl, rfl, by decide⟩
theorem hi_X2_loseOwn_4 : ∀ w ∈ wsX40, w ∈ wsX2_loseOwn := fun w h => List.mem_cons_of_mem _ (List.mem_append_right _ h)
theorem fd_X2_loseOwn_88 : qFd RX2 wsX2_loseOwn 88 4 4 0 404 := ⟨RX4, TX4, 6, _, rfl, hi_X2_loseOwn_4, by decide, (by decide +kernel : Cond.fieldLink RX2 88 (TX4 4).1 (TX4 4).2.1 (TX4 4).2.2.1 ∈ wsX2_loseOwn), rfl, rfl, by decide⟩
theorem fp_X2_loseOwn_70 : qFp RX2 wsX2_loseOwn 70 2 10 0 210 .int := ⟨RX2, TX2, 12, _, tyX2, rfl, hi_X2_loseOwn_2, by decide, (by decide +kernel : Cond.fieldLink RX2 70 (TX2 10).1 (TX2 10).2.1 (TX2 10).2.2.1 ∈ wsX2_loseOwn), rfl, rfl, by decide, tyX2_ok, nmX2, rfl, by decide +kernel⟩
theorem fp_X2_loseOwn_88 : qFp RX2 wsX2_loseOwn 88 4 4 0 404 .int := ⟨RX4, TX4, 6, _, tyX4, rfl, hi_X2_loseOwn_4, by decide, (by decide +kernel : Cond.fieldLink RX2 88 (TX4 4).1 (TX4 4).2.1 (TX4 4).2.2.1 ∈ wsX2_loseOwn), rfl, rfl, by decide, tyX4_ok, nmX4, rfl, by decide +kernel⟩
theorem fd_X2_loseOwn_67 : qFd RX2 wsX2_loseOwn 67 2 9 0 209 := ⟨RX2, TX2, 12, _, rfl, hi_X2_loseOwn_2, by decide, (by decide +kernel : Cond.fieldLink RX2 67 (TX2 9).1 (TX2 9).2.1 (TX2 9).2.2.1 ∈ wsX2_loseOwn), rfl, rfl, by decide⟩
theorem fp_X2_loseOwn_67 : qFp RX2 wsX2_loseOwn 67 2 9 0 209 .int := ⟨RX2, TX2, 12, _, tyX2, rfl, hi_X2_loseOwn_2, by decide, (by decide +kernel : Cond.fieldLink RX2 67 (TX2 9).1 (TX2 9).2.1 (TX2 9).2.2.1 ∈ wsX2_loseOwn), rfl, rfl, by decide, tyX2_ok, nmX2, rfl, by decide +kernel⟩
theorem fd_X2_loseOwn_42 : qFd RX2 wsX2_loseOwn 42 2 4 1 204 := ⟨RX2, TX2, 12, _, rfl, hi_X2_loseOwn_2, by decide, (by decide +kernel : Cond.fieldLink RX2 42 (TX2 4).1 (TX2 4).2.1 (TX2 4).2.2.1 ∈ wsX2_loseOwn), rfl, rfl, by decide⟩
theorem fd_X2_loseOwn_73 : qFd RX2 wsX2_loseOwn 73 2 11 0 211 := ⟨RX2, TX2, 12, _, rfl, hi_X2_loseOwn_2, by decide, (by decide +kernel : Cond.fieldLink RX2 73 (TX2 11).1 (TX2 11).2.1 (TX2 11).2.2.1 ∈ wsX2_loseOwn), rfl, rfl, by decide⟩
theorem fp_X2_loseOwn_73 : qFp RX2 wsX2_loseOwn 73 2 11 0 211 .int := ⟨RX2, TX2, 12, _, tyX2, rfl, hi_X2_loseOwn_2, by decide, (by decide +kernel : Cond.fieldLink RX2 73 (TX2 11).1 (TX2 11).2.1 (TX2 11).2.2.1 ∈ wsX2_loseOwn), rfl, rfl, by decide, tyX2_ok, nmX2, rfl, by decide +kernel⟩
set_option maxHeartbeats 4000000 in
set_option maxRecDepth 20000 in
theorem w_X2_loseOwn_9 {X : qB} {N : Nat} (hX : qOk X cX2_loseOwn RX2 4 none wsX2_loseOwn 1 24) {r : qM} (hE : xr X = none ∧ (True → xΦ X) ∧ xμ X = r) 
    {x0 : Nat} {x1 : Nat} (k_x0 : gK (xG X) x0 = 3) (k_x1 : gK (xG X) x1 = 5) {m0 : qM} (hR_m0 : qR (xG X) m0)
    (h : f_X2_loseOwn_9 N (xG X)  x0 x1 m0 = some r) : qN X 4 9 [(0, .ref x0), (1, .ref x1)] [] m0 := by
  have hT := hX.T
  unfold f_X2_loseOwn_9 at h
  refine qn_aload_n hX (pc := 9) dX2_loseOwn_9 0 rfl rfl ?_
  refine qn_dup hX (pc := 10) dX2_loseOwn_10 rfl ?_
  refine qn_getI hX (pc := 11) fd_X2_loseOwn_70 dX2_loseOwn_11 k_x0 ?_
  refine qn_aload_n hX (pc := 14) dX2_loseOwn_14 1 rfl rfl ?_
  refine qn_getI hX (pc := 15) fd_X2_loseOwn_88 dX2_loseOwn_15 k_x1 ?_
  obtain ⟨v1, e_v1, h⟩ := kp_e h
  have r_v1 : in32 v1 := by rw [e_v1]; exact w32_in _
  refine qn_iaddw hX (pc := 18) dX2_loseOwn_18 e_v1 ?_
  obtain ⟨m2, e_m2, h⟩ := kp_e h
  refine qn_putI hX (pc := 19) fp_X2_loseOwn_70 dX2_loseOwn_19 k_x0 hR_m0 r_v1 e_m2 (fun hR_m2 => ?_) 
  refine qn_aload_n hX (pc := 22) dX2_loseOwn_22 1 rfl rfl ?_
  refine qn_iconst hX (pc := 23) dX2_loseOwn_23 ?_
  obtain ⟨m3, e_m3, h⟩ := kp_e h
  refine qn_putI hX (pc := 24) fp_X2_loseOwn_88 dX2_loseOwn_24 k_x1 hR_m2 (show in32 0 by decide) e_m3 (fun hR_m3 => ?_) 
  refine qn_aload_n hX (pc := 27) dX2_loseOwn_27 0 rfl rfl ?_
  refine qn_dup hX (pc := 28) dX2_loseOwn_28 rfl ?_
  refine qn_getI hX (pc := 29) fd_X2_loseOwn_67 dX2_loseOwn_29 k_x0 ?_
  refine qn_iconst hX (pc := 32) dX2_loseOwn_32 ?_
  obtain ⟨v4, e_v4, h⟩ := kp_e h
  have r_v4 : in32 v4 := by rw [e_v4]; exact w32_in _
  refine qn_iaddw hX (pc := 33) dX2_loseOwn_33 e_v4 ?_
  obtain ⟨m5, e_m5, h⟩ := kp_e h
  refine qn_putI hX (pc := 34) fp_X2_loseOwn_67 dX2_loseOwn_34 k_x0 hR_m3 r_v4 e_m5 (fun hR_m5 => ?_) 
  refine qn_goto hX (pc := 37) 114 dX2_loseOwn_37 (by decide) ?_
  exact qn_vret hX (pc := 114) dX2_loseOwn_114 hE hR_m5 (Option.some.inj h)
set_option maxHeartbeats 4000000 in
set_option maxRecDepth 20000 in
theorem w_X2_loseOwn {X : qB} {N : Nat} (hX : qOk X cX2_loseOwn RX2 4 none wsX2_loseOwn 1 24) {r : qM} (hE : xr X = none ∧ (True → xΦ X) ∧ xμ X = r) 
    {x0 : Nat} {x1 : Nat} {x2 : Int} (k_x0 : gK (xG X) x0 = 3) (k_x1 : gK (xG X) x1 = 5) (r_x2 : in32 x2) {m0 : qM} (hR_m0 : qR (xG X) m0)
    (h : f_X2_loseOwn N (xG X)  x0 x1 x2 m0 = some r) : qN X 4 0 [(0, .ref x0), (1, .ref x1), (2, .int (iZ x2))] [] m0 := by
  have hT := hX.T
  unfold f_X2_loseOwn at h
  refine qn_iload_n hX (pc := 0) dX2_loseOwn_0 2 rfl rfl ?_
  refine qn_if_eq hX (pc := 1) r_x2 9 dX2_loseOwn_1 (by decide) (fun c1 => ?_) (fun c1 => ?_)
  · have h := ite_t h c1
    refine qn_sub (ls' := [(0, .ref x0), (1, .ref x1)]) [0, 1] rfl ?_
    exact w_X2_loseOwn_9 hX hE  k_x0 k_x1 hR_m0 h
  · have h := ite_f h c1
    refine qn_iload_n hX (pc := 4) dX2_loseOwn_4 2 rfl rfl ?_
    refine qn_iconst hX (pc := 5) dX2_loseOwn_5 ?_
    refine qn_icmp_ne hX (pc := 6) r_x2 (by decide) 40 dX2_loseOwn_6 (by decide) (fun c2 => ?_) (fun c2 => ?_)
    · have h := ite_f h c2
      refine qn_iload_n hX (pc := 40) dX2_loseOwn_40 2 rfl rfl ?_
      refine qn_iconst hX (pc := 41) dX2_loseOwn_41 ?_
      refine qn_icmp_ne hX (pc := 42) r_x2 (by decide) 114 dX2_loseOwn_42 (by decide) (fun c3 => ?_) (fun c3 => ?_)
      · have h := ite_f h c3
        exact qn_vret hX (pc := 114) dX2_loseOwn_114 hE hR_m0 (Option.some.inj h)
      · have h := ite_t h c3
        refine qn_aload_n hX (pc := 45) dX2_loseOwn_45 1 rfl rfl ?_
        refine qn_getI hX (pc := 46) fd_X2_loseOwn_88 dX2_loseOwn_46 k_x1 ?_
        refine qn_aload_n hX (pc := 49) dX2_loseOwn_49 0 rfl rfl ?_
        refine qn_getR hX (pc := 50) fd_X2_loseOwn_42 dX2_loseOwn_50 k_x0 ?_
        refine qn_getI hX (pc := 53) fd_X2_loseOwn_88 dX2_loseOwn_53 (qr_204 hT k_x0) ?_
        obtain ⟨v4, e_v4, h⟩ := kp_e h
        have r_v4 : in32 v4 := by rw [e_v4]; exact in32_min (hR_m0.i 404 _ rfl) (hR_m0.i 404 _ rfl)
        refine qn_min hX (pc := 56) (hR_m0.i 404 _ rfl) (hR_m0.i 404 _ rfl) dX2_loseOwn_56 (by decide +kernel) (by decide +kernel) (by decide +kernel) (by decide +kernel) ⟨rfl, rfl⟩ e_v4 ?_
        refine qn_istore_n hX (pc := 59) (ls' := [(3, .int (iZ v4)), (0, .ref x0), (1, .ref x1), (2, .int (iZ x2))]) dX2_loseOwn_59 rfl rfl rfl ?_
        refine qn_aload_n hX (pc := 60) dX2_loseOwn_60 2 rfl rfl ?_
        refine qn_dup hX (pc := 61) dX2_loseOwn_61 rfl ?_
        refine qn_getI hX (pc := 62) fd_X2_loseOwn_88 dX2_loseOwn_62 k_x1 ?_
        refine qn_iload_n hX (pc := 65) dX2_loseOwn_65 0 rfl rfl ?_
        obtain ⟨v5, e_v5, r_v5, h⟩ := ckI_e h
        refine qn_isub hX (pc := 66) dX2_loseOwn_66 e_v5 ?_
        obtain ⟨m6, e_m6, h⟩ := kp_e h
        refine qn_putI hX (pc := 67) fp_X2_loseOwn_88 dX2_loseOwn_67 k_x1 hR_m0 r_v5 e_m6 (fun hR_m6 => ?_) 
        refine qn_aload_n hX (pc := 70) dX2_loseOwn_70 1 rfl rfl ?_
        refine qn_getR hX (pc := 71) fd_X2_loseOwn_42 dX2_loseOwn_71 k_x0 ?_
        refine qn_dup hX (pc := 74) dX2_loseOwn_74 rfl ?_
        refine qn_getI hX (pc := 75) fd_X2_loseOwn_88 dX2_loseOwn_75 (qr_204 hT k_x0) ?_
        refine qn_iload_n hX (pc := 78) dX2_loseOwn_78 0 rfl rfl ?_
        obtain ⟨v7, e_v7, r_v7, h⟩ := ckI_e h
        refine qn_isub hX (pc := 79) dX2_loseOwn_79 e_v7 ?_
        obtain ⟨m8, e_m8, h⟩ := kp_e h
        refine qn_putI hX (pc := 80) fp_X2_loseOwn_88 dX2_loseOwn_80 (qr_204 hT k_x0) hR_m6 r_v7 e_m8 (fun hR_m8 => ?_) 
        refine qn_aload_n hX (pc := 83) dX2_loseOwn_83 1 rfl rfl ?_
        refine qn_dup hX (pc := 84) dX2_loseOwn_84 rfl ?_
        refine qn_getI hX (pc := 85) fd_X2_loseOwn_73 dX2_loseOwn_85 k_x0 ?_
        refine qn_iload_n hX (pc := 88) dX2_loseOwn_88 0 rfl rfl ?_
        obtain ⟨v9, e_v9, h⟩ := kp_e h
        have r_v9 : in32 v9 := by rw [e_v9]; exact w32_in _
        refine qn_iaddw hX (pc := 89) dX2_loseOwn_89 e_v9 ?_
        obtain ⟨m10, e_m10, h⟩ := kp_e h
        refine qn_putI hX (pc := 90) fp_X2_loseOwn_73 dX2_loseOwn_90 k_x0 hR_m8 r_v9 e_m10 (fun hR_m10 => ?_) 
        refine qn_aload_n hX (pc := 93) dX2_loseOwn_93 1 rfl rfl ?_
        refine qn_dup hX (pc := 94) dX2_loseOwn_94 rfl ?_
        refine qn_getI hX (pc := 95) fd_X2_loseOwn_67 dX2_loseOwn_95 k_x0 ?_
        refine qn_aload_n hX (pc := 98) dX2_loseOwn_98 2 rfl rfl ?_
        refine qn_getI hX (pc := 99) fd_X2_loseOwn_88 dX2_loseOwn_99 k_x1 ?_
        refine qn_if_ne hX (pc := 102) (hR_m10.i 404 _ rfl) 109 dX2_loseOwn_102 (by decide) (fun c11 => ?_) (fun c11 => ?_)
        · have h := ite_f h c11
          refine qn_iconst hX (pc := 109) dX2_loseOwn_109 ?_
          obtain ⟨v12, e_v12, h⟩ := kp_e h
          have r_v12 : in32 v12 := by rw [e_v12]; exact w32_in _
          refine qn_iaddw hX (pc := 110) dX2_loseOwn_110 e_v12 ?_
          obtain ⟨m13, e_m13, h⟩ := kp_e h
          refine qn_putI hX (pc := 111) fp_X2_loseOwn_67 dX2_loseOwn_111 k_x0 hR_m10 r_v12 e_m13 (fun hR_m13 => ?_) 
          exact qn_vret hX (pc := 114) dX2_loseOwn_114 hE hR_m13 (Option.some.inj h)
        · have h := ite_t h c11
          refine qn_iconst hX (pc := 105) dX2_loseOwn_105 ?_
          refine qn_goto hX (pc := 106) 110 dX2_loseOwn_106 (by decide) ?_
          obtain ⟨v14, e_v14, h⟩ := kp_e h
          have r_v14 : in32 v14 := by rw [e_v14]; exact w32_in _
          refine qn_iaddw hX (pc := 110) dX2_loseOwn_110 e_v14 ?_
          obtain ⟨m15, e_m15, h⟩ := kp_e h
          refine qn_putI hX (pc := 111) fp_X2_loseOwn_67 dX2_loseOwn_111 k_x0 hR_m10 r_v14 e_m15 (fun hR_m15 => ?_) 
          exact qn_vret hX (pc := 114) dX2_loseOwn_114 hE hR_m15 (Option.some.inj h)
    · have h := ite_t h c2
      refine qn_sub (ls' := [(0, .ref x0), (1, .ref x1)]) [0, 1] rfl ?_
      exact w_X2_loseOwn_9 hX hE  k_x0 k_x1 hR_m0 h
theorem k_X2_loseOwn (l : Launch) {G : qG} (hT : qT G) {N : Nat} {x0 : Nat} {x1 : Nat} {x2 : Int} (k_x0 : gK G x0 = 3) (k_x1 : gK G x1 = 5) (r_x2 : in32 x2) {m0 : qM} {r : qM} (h : f_X2_loseOwn N G x0 x1 x2 m0 = some r) : qC l yX2_loseOwn wsX2_loseOwn 1 24 G [.ref x0, .ref x1, .int (iZ x2)] m0 none True r := by
  refine qn_start (hy := by decide) hT (hw := rfl) (hn := Nat.le_of_ble_eq_true rfl) ?_
  intro X h1 h2 h3 h4 hX hR
  subst h4
  exact w_X2_loseOwn hX ⟨h1, fun q => h2 ▸ q, h3⟩ k_x0 k_x1 r_x2 hR h
theorem dd_X2_loseOwn : yX2_loseOwn.cls = RX2 ∧ yX2_loseOwn.cls ≠ "java/lang/invoke/MethodHandle" ∧ yX2_loseOwn.cls ≠ "java/lang/invoke/VarHandle" ∧ (parseMethodDescriptor yX2_loseOwn.desc).map (fun d => d.parameters.length) = some 2 := by decide +kernel
