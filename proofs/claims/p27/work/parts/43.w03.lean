-- ProRataMarket.isForm
set_option maxHeartbeats 4000000 in
set_option maxRecDepth 20000 in
theorem w_X7_isForm {X : qB} {N : Nat} (hX : qOk X cX7_isForm RX7 5 (some .boolean) wsX7_isForm 1 20) {r : Int} {nu : qM} (hE : xr X = some (.int (iZ r)) ∧ (in01 r → xΦ X) ∧ xμ X = nu) 
    {x0 : Int} {x1 : Int} {x2 : Int} {x3 : Int} {x4 : Int} (r_x0 : in32 x0) (r_x1 : in32 x1) (r_x2 : in32 x2) (r_x3 : in32 x3) (r_x4 : in32 x4) {m0 : qM} (hR_m0 : qR (xG X) m0)
    (h : f_X7_isForm N (xG X)  x0 x1 x2 x3 x4 m0 = some (r, nu)) : qN X 5 0 [(0, .int (iZ x0)), (1, .int (iZ x1)), (2, .int (iZ x2)), (3, .int (iZ x3)), (4, .int (iZ x4))] [] m0 := by
  have hT := hX.T
  unfold f_X7_isForm at h
  refine qn_iload_n hX (pc := 0) dX7_isForm_0 0 rfl rfl ?_
  obtain ⟨v2, m1, e_m1, h⟩ := kb2_e h
  refine qn_callSi hX (pc := 1) [.int (iZ x0)] [.int (iZ x0)] 1 dX7_isForm_1 gX7_isForm_X7_isTrader rfl dd_X7_isTrader ⟨rfl, rfl⟩ rfl rfl rfl hR_m0 (k_X7_isTrader (xl X) hT r_x0 e_m1) (fun r_v2 hR_m1 => ?_)
  refine qn_if_eq hX (pc := 4) r_v2.i 52 dX7_isForm_4 (by decide) (fun c3 => ?_) (fun c3 => ?_)
  · have h := ite_t h c3
    refine qn_iconst hX (pc := 52) dX7_isForm_52 ?_
    exact qn_zret hX (pc := 53) dX7_isForm_53 hE hR_m1 (by decide) (Option.some.inj h)
  · have h := ite_f h c3
    refine qn_iload_n hX (pc := 7) dX7_isForm_7 1 rfl rfl ?_
    obtain ⟨v5, m4, e_m4, h⟩ := kb2_e h
    refine qn_callSi hX (pc := 8) [.int (iZ x1)] [.int (iZ x1)] 1 dX7_isForm_8 gX7_isForm_X7_isSide rfl dd_X7_isSide ⟨rfl, rfl⟩ rfl rfl rfl hR_m1 (k_X7_isSide (xl X) hT r_x1 e_m4) (fun r_v5 hR_m4 => ?_)
    refine qn_if_eq hX (pc := 11) r_v5.i 52 dX7_isForm_11 (by decide) (fun c6 => ?_) (fun c6 => ?_)
    · have h := ite_t h c6
      refine qn_iconst hX (pc := 52) dX7_isForm_52 ?_
      exact qn_zret hX (pc := 53) dX7_isForm_53 hE hR_m4 (by decide) (Option.some.inj h)
    · have h := ite_f h c6
      refine qn_iload_n hX (pc := 14) dX7_isForm_14 2 rfl rfl ?_
      refine qn_iconst hX (pc := 15) dX7_isForm_15 ?_
      refine qn_icmp_lt hX (pc := 16) r_x2 (by decide) 52 dX7_isForm_16 (by decide) (fun c7 => ?_) (fun c7 => ?_)
      · have h := ite_t h c7
        refine qn_iconst hX (pc := 52) dX7_isForm_52 ?_
        exact qn_zret hX (pc := 53) dX7_isForm_53 hE hR_m4 (by decide) (Option.some.inj h)
      · have h := ite_f h c7
        refine qn_iload_n hX (pc := 19) dX7_isForm_19 2 rfl rfl ?_
        refine qn_ldc hX (pc := 20) 9999999 dX7_isForm_20 (by decide +kernel : Cond.constant RX7 102 (9999999) ∈ wsX7_isForm) (by decide) ?_
        refine qn_icmp_gt hX (pc := 22) r_x2 (by decide) 52 dX7_isForm_22 (by decide) (fun c8 => ?_) (fun c8 => ?_)
        · have h := ite_t h c8
          refine qn_iconst hX (pc := 52) dX7_isForm_52 ?_
          exact qn_zret hX (pc := 53) dX7_isForm_53 hE hR_m4 (by decide) (Option.some.inj h)
        · have h := ite_f h c8
          refine qn_iload_n hX (pc := 25) dX7_isForm_25 3 rfl rfl ?_
          refine qn_iconst hX (pc := 26) dX7_isForm_26 ?_
          refine qn_icmp_lt hX (pc := 27) r_x3 (by decide) 52 dX7_isForm_27 (by decide) (fun c9 => ?_) (fun c9 => ?_)
          · have h := ite_t h c9
            refine qn_iconst hX (pc := 52) dX7_isForm_52 ?_
            exact qn_zret hX (pc := 53) dX7_isForm_53 hE hR_m4 (by decide) (Option.some.inj h)
          · have h := ite_f h c9
            refine qn_iload_n hX (pc := 30) dX7_isForm_30 3 rfl rfl ?_
            refine qn_sipush hX (pc := 31) dX7_isForm_31 (by decide) ?_
            refine qn_icmp_gt hX (pc := 34) r_x3 (by decide) 52 dX7_isForm_34 (by decide) (fun c10 => ?_) (fun c10 => ?_)
            · have h := ite_t h c10
              refine qn_iconst hX (pc := 52) dX7_isForm_52 ?_
              exact qn_zret hX (pc := 53) dX7_isForm_53 hE hR_m4 (by decide) (Option.some.inj h)
            · have h := ite_f h c10
              refine qn_iload hX (pc := 37) dX7_isForm_37 4 rfl ?_
              refine qn_if_lt hX (pc := 39) r_x4 52 dX7_isForm_39 (by decide) (fun c11 => ?_) (fun c11 => ?_)
              · have h := ite_t h c11
                refine qn_iconst hX (pc := 52) dX7_isForm_52 ?_
                exact qn_zret hX (pc := 53) dX7_isForm_53 hE hR_m4 (by decide) (Option.some.inj h)
              · have h := ite_f h c11
                refine qn_iload hX (pc := 42) dX7_isForm_42 4 rfl ?_
                refine qn_iconst hX (pc := 44) dX7_isForm_44 ?_
                refine qn_icmp_ge hX (pc := 45) r_x4 (by decide) 52 dX7_isForm_45 (by decide) (fun c12 => ?_) (fun c12 => ?_)
                · have h := ite_f h c12
                  refine qn_iconst hX (pc := 52) dX7_isForm_52 ?_
                  exact qn_zret hX (pc := 53) dX7_isForm_53 hE hR_m4 (by decide) (Option.some.inj h)
                · have h := ite_t h c12
                  refine qn_iconst hX (pc := 48) dX7_isForm_48 ?_
                  refine qn_goto hX (pc := 49) 53 dX7_isForm_49 (by decide) ?_
                  exact qn_zret hX (pc := 53) dX7_isForm_53 hE hR_m4 (by decide) (Option.some.inj h)
theorem k_X7_isForm (l : Launch) {G : qG} (hT : qT G) {N : Nat} {x0 : Int} {x1 : Int} {x2 : Int} {x3 : Int} {x4 : Int} (r_x0 : in32 x0) (r_x1 : in32 x1) (r_x2 : in32 x2) (r_x3 : in32 x3) (r_x4 : in32 x4) {m0 : qM} {r : Int} {nu : qM} (h : f_X7_isForm N G x0 x1 x2 x3 x4 m0 = some (r, nu)) : qC l yX7_isForm wsX7_isForm 1 20 G [.int (iZ x0), .int (iZ x1), .int (iZ x2), .int (iZ x3), .int (iZ x4)] m0 (some (.int (iZ r))) (in01 r) nu := by
  refine qn_start (hy := by decide) hT (hw := rfl) (hn := Nat.le_of_ble_eq_true rfl) ?_
  intro X h1 h2 h3 h4 hX hR
  subst h4
  exact w_X7_isForm hX ⟨h1, fun q => h2 ▸ q, h3⟩ r_x0 r_x1 r_x2 r_x3 r_x4 hR h
theorem dd_X7_isForm : yX7_isForm.cls ≠ "java/lang/invoke/MethodHandle" ∧ yX7_isForm.cls ≠ "java/lang/invoke/VarHandle" ∧ (parseMethodDescriptor yX7_isForm.desc).map (fun d => d.parameters.length) = some 5 := by decide +kernel
-- ProRataMarket.isWorthInt
set_option maxHeartbeats 4000000 in
set_option maxRecDepth 20000 in
theorem w_X7_isWorthInt {X : qB} {N : Nat} (hX : qOk X cX7_isWorthInt RX7 2 (some .boolean) wsX7_isWorthInt 0 0) {r : Int} {nu : qM} (hE : xr X = some (.int (iZ r)) ∧ (in01 r → xΦ X) ∧ xμ X = nu) 
    {x0 : Int} {x1 : Int} (r_x0 : in32 x0) (r_x1 : in32 x1) {m0 : qM} (hR_m0 : qR (xG X) m0)
    (h : f_X7_isWorthInt N (xG X)  x0 x1 m0 = some (r, nu)) : qN X 2 0 [(0, .int (iZ x0)), (1, .int (iZ x1))] [] m0 := by
  have hT := hX.T
  unfold f_X7_isWorthInt at h
  refine qn_iload_n hX (pc := 0) dX7_isWorthInt_0 0 rfl rfl ?_
  refine qn_i2l hX (pc := 1) r_x0 dX7_isWorthInt_1 ?_
  refine qn_iload_n hX (pc := 2) dX7_isWorthInt_2 1 rfl rfl ?_
  refine qn_i2l hX (pc := 3) r_x1 dX7_isWorthInt_3 ?_
  obtain ⟨v1, e_v1, r_v1, h⟩ := ckJ_e h
  refine qn_lmul hX (pc := 4) dX7_isWorthInt_4 e_v1 ?_
  refine qn_ldc2 hX (pc := 5) 2147483647 dX7_isWorthInt_5 (by decide +kernel : Cond.constantLong RX7 103 (2147483647) ∈ wsX7_isWorthInt) (by decide) ?_
  refine qn_lcmp hX (pc := 8) r_v1 (by decide) dX7_isWorthInt_8 ?_
  refine qn_if_gt hX (pc := 9) (sgn_in _ _) 16 dX7_isWorthInt_9 (by decide) (fun c2 => ?_) (fun c2 => ?_)
  · have h := ite_t h ((sgn_gt _ _).mp c2)
    refine qn_iconst hX (pc := 16) dX7_isWorthInt_16 ?_
    exact qn_zret hX (pc := 17) dX7_isWorthInt_17 hE hR_m0 (by decide) (Option.some.inj h)
  · have h := ite_f h (fun q => c2 ((sgn_gt _ _).mpr q))
    refine qn_iconst hX (pc := 12) dX7_isWorthInt_12 ?_
    refine qn_goto hX (pc := 13) 17 dX7_isWorthInt_13 (by decide) ?_
    exact qn_zret hX (pc := 17) dX7_isWorthInt_17 hE hR_m0 (by decide) (Option.some.inj h)
theorem k_X7_isWorthInt (l : Launch) {G : qG} (hT : qT G) {N : Nat} {x0 : Int} {x1 : Int} (r_x0 : in32 x0) (r_x1 : in32 x1) {m0 : qM} {r : Int} {nu : qM} (h : f_X7_isWorthInt N G x0 x1 m0 = some (r, nu)) : qC l yX7_isWorthInt wsX7_isWorthInt 0 0 G [.int (iZ x0), .int (iZ x1)] m0 (some (.int (iZ r))) (in01 r) nu := by
  refine qn_start (hy := by decide) hT (hw := rfl) (hn := Nat.le_of_ble_eq_true rfl) ?_
  intro X h1 h2 h3 h4 hX hR
  subst h4
  exact w_X7_isWorthInt hX ⟨h1, fun q => h2 ▸ q, h3⟩ r_x0 r_x1 hR h
theorem dd_X7_isWorthInt : yX7_isWorthInt.cls ≠ "java/lang/invoke/MethodHandle" ∧ yX7_isWorthInt.cls ≠ "java/lang/invoke/VarHandle" ∧ (parseMethodDescriptor yX7_isWorthInt.desc).map (fun d => d.parameters.length) = some 2 := by decide +kernel
-- ProRataMarket.least
theorem hi_X7_least_7 : ∀ w ∈ wsX70, w ∈ wsX7_least := fun w h => List.mem_cons_of_mem _ (List.mem_append_left _ (List.mem_append_right _ h))
theorem fd_X7_least_10 : qFd RX7 wsX7_least 10 7 0 1 700 := ⟨RX7, TX7, 3, _, rfl, hi_X7_least_7, by decide, (by decide +kernel : Cond.fieldLink RX7 10 (TX7 0).1 (TX7 0).2.1 (TX7 0).2.2.1 ∈ wsX7_least), rfl, rfl, by decide⟩
theorem hi_X7_least_2 : ∀ w ∈ wsX20, w ∈ wsX7_least := fun w h => List.mem_cons_of_mem _ (List.mem_append_right _ h)
theorem fd_X7_least_129 : qFd RX7 wsX7_least 129 2 6 0 206 := ⟨RX2, TX2, 12, _, rfl, hi_X7_least_2, by decide, (by decide +kernel : Cond.fieldLink RX7 129 (TX2 6).1 (TX2 6).2.1 (TX2 6).2.2.1 ∈ wsX7_least), rfl, rfl, by decide⟩
theorem fp_X7_least_129 : qFp RX7 wsX7_least 129 2 6 0 206 .int := ⟨RX2, TX2, 12, _, tyX2, rfl, hi_X7_least_2, by decide, (by decide +kernel : Cond.fieldLink RX7 129 (TX2 6).1 (TX2 6).2.1 (TX2 6).2.2.1 ∈ wsX7_least), rfl, rfl, by decide, tyX2_ok, nmX2, rfl, by decide +kernel⟩
set_option maxHeartbeats 4000000 in
set_option maxRecDepth 20000 in
theorem w_X7_least {X : qB} {N : Nat} (hX : qOk X cX7_least RX7 3 (some .int) wsX7_least 0 0) {r : Int} {nu : qM} (hE : xr X = some (.int (iZ r)) ∧ (in32 r → xΦ X) ∧ xμ X = nu) 
    {x0 : Nat} {x1 : Int} (k_x0 : gK (xG X) x0 = 8) (r_x1 : in32 x1) {m0 : qM} (hR_m0 : qR (xG X) m0)
    (h : f_X7_least N (xG X)  x0 x1 m0 = some (r, nu)) : qN X 3 0 [(0, .ref x0), (1, .int (iZ x1))] [] m0 := by
  have hT := hX.T
  unfold f_X7_least at h
  refine qn_iload_n hX (pc := 0) dX7_least_0 1 rfl rfl ?_
  refine qn_iconst hX (pc := 1) dX7_least_1 ?_
  refine qn_icmp_lt hX (pc := 2) r_x1 (by decide) 11 dX7_least_2 (by decide) (fun c1 => ?_) (fun c1 => ?_)
  · have h := ite_t h c1
    refine qn_iconst hX (pc := 11) dX7_least_11 ?_
    exact qn_iret hX (pc := 12) dX7_least_12 hE hR_m0 (by decide) (Option.some.inj h)
  · have h := ite_f h c1
    refine qn_iload_n hX (pc := 5) dX7_least_5 1 rfl rfl ?_
    refine qn_bipush hX (pc := 6) dX7_least_6 (by decide) ?_
    refine qn_icmp_le hX (pc := 8) r_x1 (by decide) 13 dX7_least_8 (by decide) (fun c2 => ?_) (fun c2 => ?_)
    · have h := ite_f h c2
      refine qn_aload_n hX (pc := 13) dX7_least_13 0 rfl rfl ?_
      refine qn_getR hX (pc := 14) fd_X7_least_10 dX7_least_14 k_x0 ?_
      refine qn_getI hX (pc := 17) fd_X7_least_129 dX7_least_17 (qr_700 hT k_x0) ?_
      refine qn_istore_n hX (pc := 20) (ls' := [(2, .int (iZ (gI m0 206 (gR (xG X) 700 x0)))), (0, .ref x0), (1, .int (iZ x1))]) dX7_least_20 rfl rfl rfl ?_
      refine qn_aload_n hX (pc := 21) dX7_least_21 1 rfl rfl ?_
      refine qn_getR hX (pc := 22) fd_X7_least_10 dX7_least_22 k_x0 ?_
      refine qn_iload_n hX (pc := 25) dX7_least_25 2 rfl rfl ?_
      obtain ⟨m3, e_m3, h⟩ := kp_e h
      refine qn_putI hX (pc := 26) fp_X7_least_129 dX7_least_26 (qr_700 hT k_x0) hR_m0 r_x1 e_m3 (fun hR_m3 => ?_) 
      refine qn_iload_n hX (pc := 29) dX7_least_29 0 rfl rfl ?_
      exact qn_iret hX (pc := 30) dX7_least_30 hE hR_m3 (hR_m0.i 206 _ rfl) (Option.some.inj h)
    · have h := ite_t h c2
      refine qn_iconst hX (pc := 11) dX7_least_11 ?_
      exact qn_iret hX (pc := 12) dX7_least_12 hE hR_m0 (by decide) (Option.some.inj h)
theorem k_X7_least (l : Launch) {G : qG} (hT : qT G) {N : Nat} {x0 : Nat} {x1 : Int} (k_x0 : gK G x0 = 8) (r_x1 : in32 x1) {m0 : qM} {r : Int} {nu : qM} (h : f_X7_least N G x0 x1 m0 = some (r, nu)) : qC l yX7_least wsX7_least 0 0 G [.ref x0, .int (iZ x1)] m0 (some (.int (iZ r))) (in32 r) nu := by
  refine qn_start (hy := by decide) hT (hw := rfl) (hn := Nat.le_of_ble_eq_true rfl) ?_
  intro X h1 h2 h3 h4 hX hR
  subst h4
  exact w_X7_least hX ⟨h1, fun q => h2 ▸ q, h3⟩ k_x0 r_x1 hR h
theorem dd_X7_least : yX7_least.cls = RX7 ∧ yX7_least.cls ≠ "java/lang/invoke/MethodHandle" ∧ yX7_least.cls ≠ "java/lang/invoke/VarHandle" ∧ (parseMethodDescriptor yX7_least.desc).map (fun d => d.parameters.length) = some 1 := by decide +kernel
-- ProRataMarket.order
theorem hi_X7_order_7 : ∀ w ∈ wsX70, w ∈ wsX7_order := fun w h => List.mem_cons_of_mem _ (List.mem_append_left _ (List.mem_append_left _ (List.mem_append_left _ (List.mem_append_left _ (List.mem_append_left _ (List.mem_append_right _ h))))))
theorem fd_X7_order_10 : qFd RX7 wsX7_order 10 7 0 1 700 := ⟨RX7, TX7, 3, _, rfl, hi_X7_order_7, by decide, (by decide +kernel : Cond.fieldLink RX7 10 (TX7 0).1 (TX7 0).2.1 (TX7 0).2.2.1 ∈ wsX7_order), rfl, rfl, by decide⟩
set_option maxHeartbeats 4000000 in
set_option maxRecDepth 20000 in
theorem w_X7_order {X : qB} {N : Nat} (hX : qOk X cX7_order RX7 6 (some .int) wsX7_order 6 148) {r : Int} {nu : qM} (hE : xr X = some (.int (iZ r)) ∧ (in32 r → xΦ X) ∧ xμ X = nu) 
    {x0 : Nat} {x1 : Int} {x2 : Int} {x3 : Int} {x4 : Int} {x5 : Int} (k_x0 : gK (xG X) x0 = 8) (r_x1 : in32 x1) (r_x2 : in32 x2) (r_x3 : in32 x3) (r_x4 : in32 x4) (r_x5 : in32 x5) {m0 : qM} (hR_m0 : qR (xG X) m0)
    (h : f_X7_order N (xG X)  x0 x1 x2 x3 x4 x5 m0 = some (r, nu)) : qN X 6 0 [(0, .ref x0), (1, .int (iZ x1)), (2, .int (iZ x2)), (3, .int (iZ x3)), (4, .int (iZ x4)), (5, .int (iZ x5))] [] m0 := by
  have hT := hX.T
  unfold f_X7_order at h
  refine qn_iload_n hX (pc := 0) dX7_order_0 1 rfl rfl ?_
  refine qn_iload_n hX (pc := 1) dX7_order_1 2 rfl rfl ?_
  refine qn_iload_n hX (pc := 2) dX7_order_2 3 rfl rfl ?_
  refine qn_iload hX (pc := 3) dX7_order_3 4 rfl ?_
  refine qn_iload hX (pc := 5) dX7_order_5 5 rfl ?_
  obtain ⟨v2, m1, e_m1, h⟩ := kb2_e h
  refine qn_callSi hX (pc := 7) [.int (iZ x1), .int (iZ x2), .int (iZ x3), .int (iZ x4), .int (iZ x5)] [.int (iZ x5), .int (iZ x4), .int (iZ x3), .int (iZ x2), .int (iZ x1)] 5 dX7_order_7 gX7_order_X7_isForm rfl dd_X7_isForm ⟨rfl, rfl⟩ rfl rfl rfl hR_m0 (k_X7_isForm (xl X) hT r_x1 r_x2 r_x3 r_x4 r_x5 e_m1) (fun r_v2 hR_m1 => ?_)
  refine qn_if_ne hX (pc := 10) r_v2.i 15 dX7_order_10 (by decide) (fun c3 => ?_) (fun c3 => ?_)
  · have h := ite_f h c3
    refine qn_iload_n hX (pc := 15) dX7_order_15 3 rfl rfl ?_
    refine qn_iload hX (pc := 16) dX7_order_16 4 rfl ?_
    obtain ⟨v5, m4, e_m4, h⟩ := kb2_e h
    refine qn_callSi hX (pc := 18) [.int (iZ x3), .int (iZ x4)] [.int (iZ x4), .int (iZ x3)] 2 dX7_order_18 gX7_order_X7_isWorthInt rfl dd_X7_isWorthInt ⟨rfl, rfl⟩ rfl rfl rfl hR_m1 (k_X7_isWorthInt (xl X) hT r_x3 r_x4 e_m4) (fun r_v5 hR_m4 => ?_)
    refine qn_if_ne hX (pc := 21) r_v5.i 27 dX7_order_21 (by decide) (fun c6 => ?_) (fun c6 => ?_)
    · have h := ite_f h c6
      refine qn_aload_n hX (pc := 27) dX7_order_27 0 rfl rfl ?_
      refine qn_getR hX (pc := 28) fd_X7_order_10 dX7_order_28 k_x0 ?_
      refine qn_iload_n hX (pc := 31) dX7_order_31 1 rfl rfl ?_
      refine qn_iload_n hX (pc := 32) dX7_order_32 2 rfl rfl ?_
      refine qn_iload_n hX (pc := 33) dX7_order_33 3 rfl rfl ?_
      refine qn_iload hX (pc := 34) dX7_order_34 4 rfl ?_
      refine qn_iload hX (pc := 36) dX7_order_36 5 rfl ?_
      obtain ⟨v8, m7, e_m7, h⟩ := kb2_e h
      refine qn_callVi hX (pc := 38) [.int (iZ x1), .int (iZ x2), .int (iZ x3), .int (iZ x4), .int (iZ x5)] [.int (iZ x5), .int (iZ x4), .int (iZ x3), .int (iZ x2), .int (iZ x1)] 5 dX7_order_38 gX7_order_X2_comeIn rfl dd_X2_comeIn ⟨rfl, rfl⟩ rfl rfl (by decide) (qr_700 hT k_x0) rfl rfl hR_m4 (k_X2_comeIn (xl X) hT (qr_700 hT k_x0) r_x1 r_x2 r_x3 r_x4 r_x5 e_m7) (fun r_v8 hR_m7 => ?_)
      exact qn_iret hX (pc := 41) dX7_order_41 hE hR_m7 r_v8 (Option.some.inj h)
    · have h := ite_t h c6
      refine qn_bipush hX (pc := 24) dX7_order_24 (by decide) ?_
      exact qn_iret hX (pc := 26) dX7_order_26 hE hR_m4 (by decide) (Option.some.inj h)
  · have h := ite_t h c3
    refine qn_iconst hX (pc := 13) dX7_order_13 ?_
    exact qn_iret hX (pc := 14) dX7_order_14 hE hR_m1 (by decide) (Option.some.inj h)
theorem k_X7_order (l : Launch) {G : qG} (hT : qT G) {N : Nat} {x0 : Nat} {x1 : Int} {x2 : Int} {x3 : Int} {x4 : Int} {x5 : Int} (k_x0 : gK G x0 = 8) (r_x1 : in32 x1) (r_x2 : in32 x2) (r_x3 : in32 x3) (r_x4 : in32 x4) (r_x5 : in32 x5) {m0 : qM} {r : Int} {nu : qM} (h : f_X7_order N G x0 x1 x2 x3 x4 x5 m0 = some (r, nu)) : qC l yX7_order wsX7_order 6 148 G [.ref x0, .int (iZ x1), .int (iZ x2), .int (iZ x3), .int (iZ x4), .int (iZ x5)] m0 (some (.int (iZ r))) (in32 r) nu := by
  refine qn_start (hy := by decide) hT (hw := rfl) (hn := Nat.le_of_ble_eq_true rfl) ?_
  intro X h1 h2 h3 h4 hX hR
  subst h4
  exact w_X7_order hX ⟨h1, fun q => h2 ▸ q, h3⟩ k_x0 r_x1 r_x2 r_x3 r_x4 r_x5 hR h
theorem dd_X7_order : yX7_order.cls = RX7 ∧ yX7_order.cls ≠ "java/lang/invoke/MethodHandle" ∧ yX7_order.cls ≠ "java/lang/invoke/VarHandle" ∧ (parseMethodDescriptor yX7_order.desc).map (fun d => d.parameters.length) = some 5 := by decide +kernel
-- ProRataMarket.share
theorem hi_X7_share_7 : ∀ w ∈ wsX70, w ∈ wsX7_share := fun w h => List.mem_cons_of_mem _ (List.mem_append_left _ (List.mem_append_left _ (List.mem_append_left _ (List.mem_append_left _ (List.mem_append_right _ h)))))
theorem fd_X7_share_10 : qFd RX7 wsX7_share 10 7 0 1 700 := ⟨RX7, TX7, 3, _, rfl, hi_X7_share_7, by decide, (by decide +kernel : Cond.fieldLink RX7 10 (TX7 0).1 (TX7 0).2.1 (TX7 0).2.2.1 ∈ wsX7_share), rfl, rfl, by decide⟩
theorem hi_X7_share_2 : ∀ w ∈ wsX20, w ∈ wsX7_share := fun w h => List.mem_cons_of_mem _ (List.mem_append_left _ (List.mem_append_left _ (List.mem_append_left _ (List.mem_append_right _ h))))
theorem fd_X7_share_105 : qFd RX7 wsX7_share 105 2 0 1 200 := ⟨RX2, TX2, 12, _, rfl, hi_X7_share_2, by decide, (by decide +kernel : Cond.fieldLink RX7 105 (TX2 0).1 (TX2 0).2.1 (TX2 0).2.2.1 ∈ wsX7_share), rfl, rfl, by decide⟩
theorem fd_X7_share_190 : qFd RX7 wsX7_share 190 2 2 1 202 := ⟨RX2, TX2, 12, _, rfl, hi_X7_share_2, by decide, (by decide +kernel : Cond.fieldLink RX7 190 (TX2 2).1 (TX2 2).2.1 (TX2 2).2.2.1 ∈ wsX7_share), rfl, rfl, by decide⟩
theorem hi_X7_share_4 : ∀ w ∈ wsX40, w ∈ wsX7_share := fun w h => List.mem_cons_of_mem _ (List.mem_append_left _ (List.mem_append_left _ (List.mem_append_right _ h)))
theorem fd_X7_share_150 : qFd RX7 wsX7_share 150 4 2 0 402 := ⟨RX4, TX4, 6, _, rfl, hi_X7_share_4, by decide, (by decide +kernel : Cond.fieldLink RX7 150 (TX4 2).1 (TX4 2).2.1 (TX4 2).2.2.1 ∈ wsX7_share), rfl, rfl, by decide⟩
theorem fd_X7_share_153 : qFd RX7 wsX7_share 153 4 3 0 403 := ⟨RX4, TX4, 6, _, rfl, hi_X7_share_4, by decide, (by decide +kernel : Cond.fieldLink RX7 153 (TX4 3).1 (TX4 3).2.1 (TX4 3).2.2.1 ∈ wsX7_share), rfl, rfl, by decide⟩
theorem hi_X7_share_5 : ∀ w ∈ wsX50, w ∈ wsX7_share := fun w h => List.mem_cons_of_mem _ (List.mem_append_left _ (List.mem_append_right _ h))
theorem fd_X7_share_200 : qFd RX7 wsX7_share 200 5 7 0 507 := ⟨RX5, TX5, 8, _, rfl, hi_X7_share_5, by decide, (by decide +kernel : Cond.fieldLink RX7 200 (TX5 7).1 (TX5 7).2.1 (TX5 7).2.2.1 ∈ wsX7_share), rfl, rfl, by decide⟩
theorem fd_X7_share_129 : qFd RX7 wsX7_share 129 2 6 0 206 := ⟨RX2, TX2, 12, _, rfl, hi_X7_share_2, by decide, (by decide +kernel : Cond.fieldLink RX7 129 (TX2 6).1 (TX2 6).2.1 (TX2 6).2.2.1 ∈ wsX7_share), rfl, rfl, by decide⟩
set_option maxHeartbeats 4000000 in
set_option maxRecDepth 20000 in
theorem w_X7_share {X : qB} {N : Nat} (hX : qOk X cX7_share RX7 6 (some .int) wsX7_share 2 50) {r : Int} {nu : qM} (hE : xr X = some (.int (iZ r)) ∧ (in32 r → xΦ X) ∧ xμ X = nu) 
    {x0 : Nat} {x1 : Int} {x2 : Int} {x3 : Int} (k_x0 : gK (xG X) x0 = 8) (r_x1 : in32 x1) (r_x2 : in32 x2) (r_x3 : in32 x3) {m0 : qM} (hR_m0 : qR (xG X) m0)
    (h : f_X7_share N (xG X)  x0 x1 x2 x3 m0 = some (r, nu)) : qN X 6 0 [(0, .ref x0), (1, .int (iZ x1)), (2, .int (iZ x2)), (3, .int (iZ x3))] [] m0 := by
  have hT := hX.T
  unfold f_X7_share at h
  refine qn_aload_n hX (pc := 0) dX7_share_0 0 rfl rfl ?_
  refine qn_getR hX (pc := 1) fd_X7_share_10 dX7_share_1 k_x0 ?_
  refine qn_getR hX (pc := 4) fd_X7_share_105 dX7_share_4 (qr_700 hT k_x0) ?_
  refine qn_iload_n hX (pc := 7) dX7_share_7 1 rfl rfl ?_
  obtain ⟨v2, m1, e_m1, h⟩ := kb2_e h
  refine qn_callVq hX (pc := 8) [.int (iZ x1)] [.int (iZ x1)] 1 dX7_share_8 gX7_share_X0_find rfl dd_X0_find ⟨rfl, rfl⟩ rfl rfl (by decide) (qr_200 hT (qr_700 hT k_x0)) rfl rfl hR_m0 (k_X0_find (xl X) hT (qr_200 hT (qr_700 hT k_x0)) r_x1 e_m1) (fun r_v2 hR_m1 => ?_)
  rcases v2 with _ | o3
  · try dsimp only at h
    refine qn_astoreN hX (pc := 11) (ls' := [(4, .null), (0, .ref x0), (1, .int (iZ x1)), (2, .int (iZ x2)), (3, .int (iZ x3))]) dX7_share_11 rfl rfl ?_
    refine qn_aloadN hX (pc := 13) dX7_share_13 0 rfl ?_
    refine qn_ifnullN hX (pc := 15) 27 dX7_share_15 (by decide) ?_
    refine qn_iconst hX (pc := 27) dX7_share_27 ?_
    exact qn_iret hX (pc := 28) dX7_share_28 hE hR_m1 (by decide) (Option.some.inj h)
  · try dsimp only at h
    have k_o3 := r_v2 o3 rfl
    refine qn_astore hX (pc := 11) (ls' := [(4, .ref o3), (0, .ref x0), (1, .int (iZ x1)), (2, .int (iZ x2)), (3, .int (iZ x3))]) dX7_share_11 rfl rfl ?_
    refine qn_aload hX (pc := 13) dX7_share_13 0 rfl ?_
    refine qn_ifnull hX (pc := 15) dX7_share_15 ?_
    refine qn_iload_n hX (pc := 18) dX7_share_18 4 rfl rfl ?_
    refine qn_if_lt hX (pc := 19) r_x3 27 dX7_share_19 (by decide) (fun c4 => ?_) (fun c4 => ?_)
    · have h := ite_t h c4
      refine qn_iconst hX (pc := 27) dX7_share_27 ?_
      exact qn_iret hX (pc := 28) dX7_share_28 hE hR_m1 (by decide) (Option.some.inj h)
    · have h := ite_f h c4
      refine qn_iload_n hX (pc := 22) dX7_share_22 4 rfl rfl ?_
      refine qn_iconst hX (pc := 23) dX7_share_23 ?_
      refine qn_icmp_le hX (pc := 24) r_x3 (by decide) 29 dX7_share_24 (by decide) (fun c5 => ?_) (fun c5 => ?_)
      · have h := ite_f h c5
        refine qn_aload_n hX (pc := 29) dX7_share_29 1 rfl rfl ?_
        refine qn_getR hX (pc := 30) fd_X7_share_10 dX7_share_30 k_x0 ?_
        refine qn_getR hX (pc := 33) fd_X7_share_190 dX7_share_33 (qr_700 hT k_x0) ?_
        refine qn_astore hX (pc := 36) (ls' := [(5, .ref (gR (xG X) 202 (gR (xG X) 700 x0))), (4, .ref o3), (0, .ref x0), (1, .int (iZ x1)), (2, .int (iZ x2)), (3, .int (iZ x3))]) dX7_share_36 rfl rfl ?_
        refine qn_aload hX (pc := 38) dX7_share_38 0 rfl ?_
        refine qn_aload_n hX (pc := 40) dX7_share_40 2 rfl rfl ?_
        refine qn_getR hX (pc := 41) fd_X7_share_10 dX7_share_41 k_x0 ?_
        refine qn_getR hX (pc := 44) fd_X7_share_105 dX7_share_44 (qr_700 hT k_x0) ?_
        refine qn_aload hX (pc := 47) dX7_share_47 1 rfl ?_
        refine qn_getI hX (pc := 49) fd_X7_share_150 dX7_share_49 k_o3 ?_
        refine qn_aload hX (pc := 52) dX7_share_52 1 rfl ?_
        refine qn_getI hX (pc := 54) fd_X7_share_153 dX7_share_54 k_o3 ?_
        obtain ⟨m6, e_m6, h⟩ := kb_e h
        refine qn_callVv hX (pc := 57) [.ref (gR (xG X) 200 (gR (xG X) 700 x0)), .int (iZ (gI m1 402 o3)), .int (iZ (gI m1 403 o3))] [.int (iZ (gI m1 403 o3)), .int (iZ (gI m1 402 o3)), .ref (gR (xG X) 200 (gR (xG X) 700 x0))] 3 dX7_share_57 gX7_share_X5_load rfl dd_X5_load ⟨rfl, rfl⟩ rfl rfl (by decide) (qr_202 hT (qr_700 hT k_x0)) rfl rfl hR_m1 (k_X5_load (xl X) hT (qr_202 hT (qr_700 hT k_x0)) (qr_200 hT (qr_700 hT k_x0)) (hR_m1.i 402 _ rfl) (hR_m1.i 403 _ rfl) e_m6) (fun r_v7 hR_m6 => ?_)
        refine qn_iload_n hX (pc := 60) dX7_share_60 4 rfl rfl ?_
        refine qn_iconst hX (pc := 61) dX7_share_61 ?_
        refine qn_icmp_lt hX (pc := 62) r_x2 (by decide) 74 dX7_share_62 (by decide) (fun c8 => ?_) (fun c8 => ?_)
        · have h := ite_t h c8
          refine qn_iconst hX (pc := 74) dX7_share_74 ?_
          exact qn_iret hX (pc := 75) dX7_share_75 hE hR_m6 (by decide) (Option.some.inj h)
        · have h := ite_f h c8
          refine qn_iload_n hX (pc := 65) dX7_share_65 4 rfl rfl ?_
          refine qn_aload hX (pc := 66) dX7_share_66 0 rfl ?_
          refine qn_getI hX (pc := 68) fd_X7_share_200 dX7_share_68 (qr_202 hT (qr_700 hT k_x0)) ?_
          refine qn_icmp_le hX (pc := 71) r_x2 (hR_m6.i 507 _ rfl) 76 dX7_share_71 (by decide) (fun c9 => ?_) (fun c9 => ?_)
          · have h := ite_f h c9
            refine qn_aload hX (pc := 76) dX7_share_76 0 rfl ?_
            refine qn_iload_n hX (pc := 78) dX7_share_78 4 rfl rfl ?_
            refine qn_aload_n hX (pc := 79) dX7_share_79 2 rfl rfl ?_
            refine qn_getR hX (pc := 80) fd_X7_share_10 dX7_share_80 k_x0 ?_
            refine qn_getI hX (pc := 83) fd_X7_share_129 dX7_share_83 (qr_700 hT k_x0) ?_
            obtain ⟨m10, e_m10, h⟩ := kb_e h
            refine qn_callVv hX (pc := 86) [.int (iZ x2), .int (iZ (gI m6 206 (gR (xG X) 700 x0)))] [.int (iZ (gI m6 206 (gR (xG X) 700 x0))), .int (iZ x2)] 2 dX7_share_86 gX7_share_X5_deal rfl dd_X5_deal ⟨rfl, rfl⟩ rfl rfl (by decide) (qr_202 hT (qr_700 hT k_x0)) rfl rfl hR_m6 (k_X5_deal (xl X) hT (qr_202 hT (qr_700 hT k_x0)) r_x2 (hR_m6.i 206 _ rfl) e_m10) (fun r_v11 hR_m10 => ?_)
            refine qn_aload hX (pc := 89) dX7_share_89 0 rfl ?_
            refine qn_aload hX (pc := 91) dX7_share_91 1 rfl ?_
            refine qn_iload_n hX (pc := 93) dX7_share_93 5 rfl rfl ?_
            obtain ⟨v13, m12, e_m12, h⟩ := kb2_e h
            refine qn_callVi hX (pc := 94) [.ref o3, .int (iZ x3)] [.int (iZ x3), .ref o3] 2 dX7_share_94 gX7_share_X5_partOf rfl dd_X5_partOf ⟨rfl, rfl⟩ rfl rfl (by decide) (qr_202 hT (qr_700 hT k_x0)) rfl rfl hR_m10 (k_X5_partOf (xl X) hT (qr_202 hT (qr_700 hT k_x0)) k_o3 r_x3 e_m12) (fun r_v13 hR_m12 => ?_)
            exact qn_iret hX (pc := 97) dX7_share_97 hE hR_m12 r_v13 (Option.some.inj h)
          · have h := ite_t h c9
            refine qn_iconst hX (pc := 74) dX7_share_74 ?_
            exact qn_iret hX (pc := 75) dX7_share_75 hE hR_m6 (by decide) (Option.some.inj h)
      · have h := ite_t h c5
        refine qn_iconst hX (pc := 27) dX7_share_27 ?_
        exact qn_iret hX (pc := 28) dX7_share_28 hE hR_m1 (by decide) (Option.some.inj h)
theorem k_X7_share (l : Launch) {G : qG} (hT : qT G) {N : Nat} {x0 : Nat} {x1 : Int} {x2 : Int} {x3 : Int} (k_x0 : gK G x0 = 8) (r_x1 : in32 x1) (r_x2 : in32 x2) (r_x3 : in32 x3) {m0 : qM} {r : Int} {nu : qM} (h : f_X7_share N G x0 x1 x2 x3 m0 = some (r, nu)) : qC l yX7_share wsX7_share 2 50 G [.ref x0, .int (iZ x1), .int (iZ x2), .int (iZ x3)] m0 (some (.int (iZ r))) (in32 r) nu := by
  refine qn_start (hy := by decide) hT (hw := rfl) (hn := Nat.le_of_ble_eq_true rfl) ?_
  intro X h1 h2 h3 h4 hX hR
  subst h4
  exact w_X7_share hX ⟨h1, fun q => h2 ▸ q, h3⟩ k_x0 r_x1 r_x2 r_x3 hR h
theorem dd_X7_share : yX7_share.cls = RX7 ∧ yX7_share.cls ≠ "java/lang/invoke/MethodHandle" ∧ yX7_share.cls ≠ "java/lang/invoke/VarHandle" ∧ (parseMethodDescriptor yX7_share.desc).map (fun d => d.parameters.length) = some 3 := by decide +kernel
-- ProRataMarket.top
theorem hi_X7_top_7 : ∀ w ∈ wsX70, w ∈ wsX7_top := fun w h => List.mem_cons_of_mem _ (List.mem_append_left _ (List.mem_append_left _ (List.mem_append_right _ h)))
theorem fd_X7_top_10 : qFd RX7 wsX7_top 10 7 0 1 700 := ⟨RX7, TX7, 3, _, rfl, hi_X7_top_7, by decide, (by decide +kernel : Cond.fieldLink RX7 10 (TX7 0).1 (TX7 0).2.1 (TX7 0).2.2.1 ∈ wsX7_top), rfl, rfl, by decide⟩
theorem hi_X7_top_2 : ∀ w ∈ wsX20, w ∈ wsX7_top := fun w h => List.mem_cons_of_mem _ (List.mem_append_left _ (List.mem_append_right _ h))
theorem fd_X7_top_105 : qFd RX7 wsX7_top 105 2 0 1 200 := ⟨RX2, TX2, 12, _, rfl, hi_X7_top_2, by decide, (by decide +kernel : Cond.fieldLink RX7 105 (TX2 0).1 (TX2 0).2.1 (TX2 0).2.2.1 ∈ wsX7_top), rfl, rfl, by decide⟩
theorem hi_X7_top_0 : ∀ w ∈ wsX00, w ∈ wsX7_top := fun w h => List.mem_cons_of_mem _ (List.mem_append_right _ h)
theorem fd_X7_top_181 : qFd RX7 wsX7_top 181 0 2 1 2 := ⟨RX0, TX0, 4, _, rfl, hi_X7_top_0, by decide, (by decide +kernel : Cond.fieldLink RX7 181 (TX0 2).1 (TX0 2).2.1 (TX0 2).2.2.1 ∈ wsX7_top), rfl, rfl, by decide⟩
set_option maxHeartbeats 4000000 in
set_option maxRecDepth 20000 in
theorem w_X7_top {X : qB} {N : Nat} (hX : qOk X cX7_top RX7 2 (some .int) wsX7_top 1 20) {r : Int} {nu : qM} (hE : xr X = some (.int (iZ r)) ∧ (in32 r → xΦ X) ∧ xμ X = nu) 
    {x0 : Nat} {x1 : Int} (k_x0 : gK (xG X) x0 = 8) (r_x1 : in32 x1) {m0 : qM} (hR_m0 : qR (xG X) m0)
    (h : f_X7_top N (xG X)  x0 x1 m0 = some (r, nu)) : qN X 2 0 [(0, .ref x0), (1, .int (iZ x1))] [] m0 := by
  have hT := hX.T
  unfold f_X7_top at h
  refine qn_iload_n hX (pc := 0) dX7_top_0 1 rfl rfl ?_
  obtain ⟨v2, m1, e_m1, h⟩ := kb2_e h
  refine qn_callSi hX (pc := 1) [.int (iZ x1)] [.int (iZ x1)] 1 dX7_top_1 gX7_top_X7_isSide rfl dd_X7_isSide ⟨rfl, rfl⟩ rfl rfl rfl hR_m0 (k_X7_isSide (xl X) hT r_x1 e_m1) (fun r_v2 hR_m1 => ?_)
  refine qn_if_eq hX (pc := 4) r_v2.i 22 dX7_top_4 (by decide) (fun c3 => ?_) (fun c3 => ?_)
  · have h := ite_t h c3
    refine qn_iconst hX (pc := 22) dX7_top_22 ?_
    exact qn_iret hX (pc := 23) dX7_top_23 hE hR_m1 (by decide) (Option.some.inj h)
  · have h := ite_f h c3
    refine qn_aload_n hX (pc := 7) dX7_top_7 0 rfl rfl ?_
    refine qn_getR hX (pc := 8) fd_X7_top_10 dX7_top_8 k_x0 ?_
    refine qn_getR hX (pc := 11) fd_X7_top_105 dX7_top_11 (qr_700 hT k_x0) ?_
    refine qn_getR hX (pc := 14) fd_X7_top_181 dX7_top_14 (qr_200 hT (qr_700 hT k_x0)) ?_
    refine qn_iload_n hX (pc := 17) dX7_top_17 1 rfl rfl ?_
    obtain ⟨v4, e_v4, b_v4, h⟩ := rdA_e h
    have r_v4 : in32 v4 := by rw [e_v4]; exact hR_m1.a (n := 2) _ (qr_2 hT (qr_200 hT (qr_700 hT k_x0))) (by decide)
    refine qn_iald hX (pc := 18) 2 dX7_top_18 (qr_2 hT (qr_200 hT (qr_700 hT k_x0))) (by decide) b_v4 e_v4 ?_
    refine qn_if_ne hX (pc := 19) r_v4 24 dX7_top_19 (by decide) (fun c5 => ?_) (fun c5 => ?_)
    · have h := ite_f h c5
      refine qn_aload_n hX (pc := 24) dX7_top_24 0 rfl rfl ?_
      refine qn_getR hX (pc := 25) fd_X7_top_10 dX7_top_25 k_x0 ?_
      refine qn_getR hX (pc := 28) fd_X7_top_105 dX7_top_28 (qr_700 hT k_x0) ?_
      refine qn_getR hX (pc := 31) fd_X7_top_181 dX7_top_31 (qr_200 hT (qr_700 hT k_x0)) ?_
      refine qn_iload_n hX (pc := 34) dX7_top_34 1 rfl rfl ?_
      obtain ⟨v6, e_v6, b_v6, h⟩ := rdA_e h
      have r_v6 : in32 v6 := by rw [e_v6]; exact hR_m1.a (n := 2) _ (qr_2 hT (qr_200 hT (qr_700 hT k_x0))) (by decide)
      refine qn_iald hX (pc := 35) 2 dX7_top_35 (qr_2 hT (qr_200 hT (qr_700 hT k_x0))) (by decide) b_v6 e_v6 ?_
      exact qn_iret hX (pc := 36) dX7_top_36 hE hR_m1 r_v6 (Option.some.inj h)
    · have h := ite_t h c5
      refine qn_iconst hX (pc := 22) dX7_top_22 ?_
      exact qn_iret hX (pc := 23) dX7_top_23 hE hR_m1 (by decide) (Option.some.inj h)
theorem k_X7_top (l : Launch) {G : qG} (hT : qT G) {N : Nat} {x0 : Nat} {x1 : Int} (k_x0 : gK G x0 = 8) (r_x1 : in32 x1) {m0 : qM} {r : Int} {nu : qM} (h : f_X7_top N G x0 x1 m0 = some (r, nu)) : qC l yX7_top wsX7_top 1 20 G [.ref x0, .int (iZ x1)] m0 (some (.int (iZ r))) (in32 r) nu := by
  refine qn_start (hy := by decide) hT (hw := rfl) (hn := Nat.le_of_ble_eq_true rfl) ?_
  intro X h1 h2 h3 h4 hX hR
  subst h4
  exact w_X7_top hX ⟨h1, fun q => h2 ▸ q, h3⟩ k_x0 r_x1 hR h
theorem dd_X7_top : yX7_top.cls = RX7 ∧ yX7_top.cls ≠ "java/lang/invoke/MethodHandle" ∧ yX7_top.cls ≠ "java/lang/invoke/VarHandle" ∧ (parseMethodDescriptor yX7_top.desc).map (fun d => d.parameters.length) = some 1 := by decide +kernel
-- ProRataMarket.trade
theorem hi_X7_trade_7 : ∀ w ∈ wsX70, w ∈ wsX7_trade := fun w h => List.mem_cons_of_mem _ (List.mem_append_left _ (List.mem_append_left _ (List.mem_append_right _ h)))
theorem fd_X7_trade_10 : qFd RX7 wsX7_trade 10 7 0 1 700 := ⟨RX7, TX7, 3, _, rfl, hi_X7_trade_7, by decide, (by decide +kernel : Cond.fieldLink RX7 10 (TX7 0).1 (TX7 0).2.1 (TX7 0).2.2.1 ∈ wsX7_trade), rfl, rfl, by decide⟩
theorem hi_X7_trade_2 : ∀ w ∈ wsX20, w ∈ wsX7_trade := fun w h => List.mem_cons_of_mem _ (List.mem_append_left _ (List.mem_append_right _ h))
theorem fd_X7_trade_224 : qFd RX7 wsX7_trade 224 2 1 1 201 := ⟨RX2, TX2, 12, _, rfl, hi_X7_trade_2, by decide, (by decide +kernel : Cond.fieldLink RX7 224 (TX2 1).1 (TX2 1).2.1 (TX2 1).2.2.1 ∈ wsX7_trade), rfl, rfl, by decide⟩
theorem hi_X7_trade_3 : ∀ w ∈ wsX30, w ∈ wsX7_trade := fun w h => List.mem_cons_of_mem _ (List.mem_append_right _ h)
theorem fd_X7_trade_269 : qFd RX7 wsX7_trade 269 3 1 0 301 := ⟨RX3, TX3, 7, _, rfl, hi_X7_trade_3, by decide, (by decide +kernel : Cond.fieldLink RX7 269 (TX3 1).1 (TX3 1).2.1 (TX3 1).2.2.1 ∈ wsX7_trade), rfl, rfl, by decide⟩
set_option maxHeartbeats 4000000 in
set_option maxRecDepth 20000 in
theorem w_X7_trade {X : qB} {N : Nat} (hX : qOk X cX7_trade RX7 3 (some .int) wsX7_trade 2 44) {r : Int} {nu : qM} (hE : xr X = some (.int (iZ r)) ∧ (in32 r → xΦ X) ∧ xμ X = nu) 
    {x0 : Nat} {x1 : Int} {x2 : Int} (k_x0 : gK (xG X) x0 = 8) (r_x1 : in32 x1) (r_x2 : in32 x2) {m0 : qM} (hR_m0 : qR (xG X) m0)
    (h : f_X7_trade N (xG X)  x0 x1 x2 m0 = some (r, nu)) : qN X 3 0 [(0, .ref x0), (1, .int (iZ x1)), (2, .int (iZ x2))] [] m0 := by
  have hT := hX.T
  unfold f_X7_trade at h
  refine qn_iload_n hX (pc := 0) dX7_trade_0 1 rfl rfl ?_
  refine qn_if_lt hX (pc := 1) r_x1 27 dX7_trade_1 (by decide) (fun c1 => ?_) (fun c1 => ?_)
  · have h := ite_t h c1
    refine qn_iconst hX (pc := 27) dX7_trade_27 ?_
    exact qn_iret hX (pc := 28) dX7_trade_28 hE hR_m0 (by decide) (Option.some.inj h)
  · have h := ite_f h c1
    refine qn_iload_n hX (pc := 4) dX7_trade_4 1 rfl rfl ?_
    refine qn_aload_n hX (pc := 5) dX7_trade_5 0 rfl rfl ?_
    refine qn_getR hX (pc := 6) fd_X7_trade_10 dX7_trade_6 k_x0 ?_
    refine qn_getR hX (pc := 9) fd_X7_trade_224 dX7_trade_9 (qr_700 hT k_x0) ?_
    refine qn_getI hX (pc := 12) fd_X7_trade_269 dX7_trade_12 (qr_201 hT (qr_700 hT k_x0)) ?_
    refine qn_icmp_ge hX (pc := 15) r_x1 (hR_m0.i 301 _ rfl) 27 dX7_trade_15 (by decide) (fun c2 => ?_) (fun c2 => ?_)
    · have h := ite_f h c2
      refine qn_iconst hX (pc := 27) dX7_trade_27 ?_
      exact qn_iret hX (pc := 28) dX7_trade_28 hE hR_m0 (by decide) (Option.some.inj h)
    · have h := ite_t h c2
      refine qn_iload_n hX (pc := 18) dX7_trade_18 2 rfl rfl ?_
      refine qn_if_lt hX (pc := 19) r_x2 27 dX7_trade_19 (by decide) (fun c3 => ?_) (fun c3 => ?_)
      · have h := ite_t h c3
        refine qn_iconst hX (pc := 27) dX7_trade_27 ?_
        exact qn_iret hX (pc := 28) dX7_trade_28 hE hR_m0 (by decide) (Option.some.inj h)
      · have h := ite_f h c3
        refine qn_iload_n hX (pc := 22) dX7_trade_22 2 rfl rfl ?_
        refine qn_iconst hX (pc := 23) dX7_trade_23 ?_
        refine qn_icmp_le hX (pc := 24) r_x2 (by decide) 29 dX7_trade_24 (by decide) (fun c4 => ?_) (fun c4 => ?_)
        · have h := ite_f h c4
          refine qn_aload_n hX (pc := 29) dX7_trade_29 0 rfl rfl ?_
          refine qn_getR hX (pc := 30) fd_X7_trade_10 dX7_trade_30 k_x0 ?_
          refine qn_getR hX (pc := 33) fd_X7_trade_224 dX7_trade_33 (qr_700 hT k_x0) ?_
          refine qn_iload_n hX (pc := 36) dX7_trade_36 1 rfl rfl ?_
          refine qn_iload_n hX (pc := 37) dX7_trade_37 2 rfl rfl ?_
          obtain ⟨v6, m5, e_m5, h⟩ := kb2_e h
          refine qn_callVi hX (pc := 38) [.int (iZ x1), .int (iZ x2)] [.int (iZ x2), .int (iZ x1)] 2 dX7_trade_38 gX7_trade_X3_told rfl dd_X3_told ⟨rfl, rfl⟩ rfl rfl (by decide) (qr_201 hT (qr_700 hT k_x0)) rfl rfl hR_m0 (k_X3_told (xl X) hT (qr_201 hT (qr_700 hT k_x0)) r_x1 r_x2 e_m5) (fun r_v6 hR_m5 => ?_)
          exact qn_iret hX (pc := 41) dX7_trade_41 hE hR_m5 r_v6 (Option.some.inj h)
        · have h := ite_t h c4
          refine qn_iconst hX (pc := 27) dX7_trade_27 ?_
          exact qn_iret hX (pc := 28) dX7_trade_28 hE hR_m0 (by decide) (Option.some.inj h)
theorem k_X7_trade (l : Launch) {G : qG} (hT : qT G) {N : Nat} {x0 : Nat} {x1 : Int} {x2 : Int} (k_x0 : gK G x0 = 8) (r_x1 : in32 x1) (r_x2 : in32 x2) {m0 : qM} {r : Int} {nu : qM} (h : f_X7_trade N G x0 x1 x2 m0 = some (r, nu)) : qC l yX7_trade wsX7_trade 2 44 G [.ref x0, .int (iZ x1), .int (iZ x2)] m0 (some (.int (iZ r))) (in32 r) nu := by
  refine qn_start (hy := by decide) hT (hw := rfl) (hn := Nat.le_of_ble_eq_true rfl) ?_
  intro X h1 h2 h3 h4 hX hR
  subst h4
  exact w_X7_trade hX ⟨h1, fun q => h2 ▸ q, h3⟩ k_x0 r_x1 r_x2 hR h
theorem dd_X7_trade : yX7_trade.cls = RX7 ∧ yX7_trade.cls ≠ "java/lang/invoke/MethodHandle" ∧ yX7_trade.cls ≠ "java/lang/invoke/VarHandle" ∧ (parseMethodDescriptor yX7_trade.desc).map (fun d => d.parameters.length) = some 2 := by decide +kernel
