-- ProRataMarket.trade
theorem hi_X7_trade_7 : ∀ w ∈ wsX70, w ∈ wsX7_trade := fun w h => List.mem_cons_of_mem _ (List.mem_append_left _ (List.mem_append_left _ (List.mem_append_right _ h)))
theorem fd_X7_trade_10 : qFd RX7 wsX7_trade 10 7 0 1 700 := ⟨RX7, TX7, 3, _, rfl, hi_X7_trade_7, by decide, (by decide +kernel : Cond.fieldLink RX7 10 (TX7 0).1 (TX7 0).2.1 (TX7 0).2.2.1 ∈ wsX7_trade), rfl, rfl, by decide⟩
theorem hi_X7_trade_2 : ∀ w ∈ wsX20, w ∈ wsX7_trade := fun w h => List.mem_cons_of_mem _ (List.mem_append_left _ (List.mem_append_right _ h))
theorem fd_X7_trade_224 : qFd RX7 wsX7_trade 224 2 1 1 201 := ⟨RX2, TX2, 12, _, rfl, hi_X7_trade_2, by decide, (by decide +kernel : Cond.fieldLink RX7 224 (TX2 1).1 (TX2 1).2.1 (TX2 1).2.2.1 ∈ wsX7_trade), rfl, rfl, by decide⟩
theorem hi_X7_trade_3 : ∀ w ∈ wsX30, w ∈ wsX7_trade := fun w h => List.mem_cons_of_mem _ (List.mem_append_right _ h)
theorem fd_X7_trade_269 : qFd RX7 wsX7_trade 269 3 1 0 301 := ⟨RX3, TX3, 7, _, rfl, hi_X7_trade_3, by decide, (by decide +kernel : Cond.fieldLink RX7 269 (TX3 1).1 (TX3 1).2.1 (TX3 1).2.2.1 ∈ wsX7_trade), rfl, rfl, by decide⟩
set_option maxHeartbeats 4000000 in
set_option maxRecDepth 20000 in
theorem w_X7_trade {X : qB} {N : Nat} (hX : qOk X cX7_trade RX7 3 (some .int) wsX7_trade 2 44) {r : Int} {nu : qM} (hE : xr X = some (.int (iZ r)) ∧ (in32 r → xΦ X) ∧ xμ X = nu) 
    {x0 : Nat} {x1 : Int} {x2 : Int} (k_x0 : gK (xG X) x0 = 8) (r_x1 : in32 x1) (r_x2 : in32 x2) {m0 : qM} (hR_m0 : qR (xG X) m0)
    (h : f_X7_trade N (xG X)  x0 x1 x2 m0 = some (r, nu)) : qN X 3 0 [(0, .ref x0), (1, .int (iZ x1)), (2, .int (iZ x2))] [] m0 := by
  have hT := hX.T
  unfold f_X7_trade at h
  refine qn_iload_n hX (pc := 0) dX7_trade_0 1 rfl rfl ?_
  refine qn_if_lt hX (pc := 1) r_x1 27 dX7_trade_1 (by decide) (fun c1 => ?_) (fun c1 => ?_)
  · have h := ite_t h c1
    refine qn_iconst hX (pc := 27) dX7_trade_27 ?_
    exact qn_iret hX (pc := 28) dX7_trade_28 hE hR_m0 (by decide) (Option.some.inj h)
  · have h := ite_f h c1
    refine qn_iload_n hX (pc := 4) dX7_trade_4 1 rfl rfl ?_
    refine qn_aload_n hX (pc := 5) dX7_trade_5 0 rfl rfl ?_
    refine qn_getR hX (pc := 6) fd_X7_trade_10 dX7_trade_6 k_x0 ?_
    refine qn_getR hX (pc := 9) fd_X7_trade_224 dX7_trade_9 (qr_700 hT k_x0) ?_
    refine qn_getI hX (pc := 12) fd_X7_trade_269 dX7_trade_12 (qr_201 hT (qr_700 hT k_x0)) ?_
    refine qn_icmp_ge hX (pc := 15) r_x1 (hR_m0.i 301 _ rfl) 27 dX7_trade_15 (by decide) (fun c2 => ?_) (fun c2 => ?_)
    · have h := ite_f h c2
      refine qn_iconst hX (pc := 27) dX7_trade_27 ?_
      exact qn_iret hX (pc := 28) dX7_trade_28 hE hR_m0 (by decide) (Option.some.inj h)
    · have h := ite_t h c2
      refine qn_iload_n hX (pc := 18) dX7_trade_18 2 rfl rfl ?_
      refine qn_if_lt hX (pc := 19) r_x2 27 dX7_trade_19 (by decide) (fun c3 => ?_) (fun c3 => ?_)
      · have h := ite_t h c3
        refine qn_iconst hX (pc := 27) dX7_trade_27 ?_
        exact qn_iret hX (pc := 28) dX7_trade_28 hE hR_m0 (by decide) (Option.some.inj h)
      · have h := ite_f h c3
        refine qn_iload_n hX (pc := 22) dX7_trade_22 2 rfl rfl ?_
        refine qn_iconst hX (pc := 23) dX7_trade_23 ?_
        refine qn_icmp_le hX (pc := 24) r_x2 (by decide) 29 dX7_trade_24 (by decide) (fun c4 => ?_) (fun c4 => ?_)
        · have h := ite_f h c4
          refine qn_aload_n hX (pc := 29) dX7_trade_29 0 rfl rfl ?_
          refine qn_getR hX (pc := 30) fd_X7_trade_10 dX7_trade_30 k_x0 ?_
          refine qn_getR hX (pc := 33) fd_X7_trade_224 dX7_trade_33 (qr_700 hT k_x0) ?_
          refine qn_iload_n hX (pc := 36) dX7_trade_36 1 rfl rfl ?_
          refine qn_iload_n hX (pc := 37) dX7_trade_37 2 rfl rfl ?_
          obtain ⟨v6, m5, e_m5, h⟩ := kb2_e h
          refine qn_callVi hX (pc := 38) [.int (iZ x1), .int (iZ x2)] [.int (iZ x2), .int (iZ x1)] 2 dX7_trade_38 gX7_trade_X3_told rfl dd_X3_told ⟨rfl, rfl⟩ rfl rfl (by decide) (qr_201 hT (qr_700 hT k_x0)) rfl rfl hR_m0 (k_X3_told (xl X) hT (qr_201 hT (qr_700 hT k_x0)) r_x1 r_x2 e_m5) (fun r_v6 hR_m5 => ?_)
          exact qn_iret hX (pc := 41) dX7_trade_41 hE hR_m5 r_v6 (Option.some.inj h)
        · have h := ite_t h c4
          refine qn_iconst hX (pc := 27) dX7_trade_27 ?_
          exact qn_iret hX (pc := 28) dX7_trade_28 hE hR_m0 (by decide) (Option.some.inj h)
theorem k_X7_trade (l : Launch) {G : qG} (hT : qT G) {N : Nat} {x0 : Nat} {x1 : Int} {x2 : Int} (k_x0 : gK G x0 = 8) (r_x1 : in32 x1) (r_x2 : in32 x2) {m0 : qM} {r : Int} {nu : qM} (h : f_X7_trade N G x0 x1 x2 m0 = some (r, nu)) : qC l yX7_trade wsX7_trade 2 44 G [.ref x0, .int (iZ x1), .int (iZ x2)] m0 (some (.int (iZ r))) (in32 r) nu := by
  refine qn_start (hy := by decide) hT (hw := rfl) (hn := Nat.le_of_ble_eq_true rfl) ?_
  intro X h1 h2 h3 h4 hX hR
  subst h4
  exact w_X7_trade hX ⟨h1, fun q => h2 ▸ q, h3⟩ k_x0 r_x1 r_x2 hR h
theorem dd_X7_trade : yX7_trade.cls = RX7 ∧ yX7_trade.cls ≠ "java/lang/invoke/MethodHandle" ∧ yX7_trade.cls ≠ "java/lang/invoke/VarHandle" ∧ (parseMethodDescriptor yX7_trade.desc).map (fun d => d.parameters.length) = some 2 := by decide +kernel
-- ProRataMarket.worth
theorem hi_X7_worth_7 : ∀ w ∈ wsX70, w ∈ wsX7_worth := fun w h => List.mem_cons_of_mem _ (List.mem_append_left _ (List.mem_append_left _ (List.mem_append_left _ (List.mem_append_left _ (List.mem_append_left _ (List.mem_append_right _ h))))))
theorem fd_X7_worth_16 : qFd RX7 wsX7_worth 16 7 1 1 701 := ⟨RX7, TX7, 3, _, rfl, hi_X7_worth_7, by decide, (by decide +kernel : Cond.fieldLink RX7 16 (TX7 1).1 (TX7 1).2.1 (TX7 1).2.2.1 ∈ wsX7_worth), rfl, rfl, by decide⟩
theorem fd_X7_worth_10 : qFd RX7 wsX7_worth 10 7 0 1 700 := ⟨RX7, TX7, 3, _, rfl, hi_X7_worth_7, by decide, (by decide +kernel : Cond.fieldLink RX7 10 (TX7 0).1 (TX7 0).2.1 (TX7 0).2.2.1 ∈ wsX7_worth), rfl, rfl, by decide⟩
theorem hi_X7_worth_2 : ∀ w ∈ wsX20, w ∈ wsX7_worth := fun w h => List.mem_cons_of_mem _ (List.mem_append_left _ (List.mem_append_left _ (List.mem_append_left _ (List.mem_append_left _ (List.mem_append_right _ h)))))
theorem fd_X7_worth_224 : qFd RX7 wsX7_worth 224 2 1 1 201 := ⟨RX2, TX2, 12, _, rfl, hi_X7_worth_2, by decide, (by decide +kernel : Cond.fieldLink RX7 224 (TX2 1).1 (TX2 1).2.1 (TX2 1).2.2.1 ∈ wsX7_worth), rfl, rfl, by decide⟩
theorem hi_X7_worth_3 : ∀ w ∈ wsX30, w ∈ wsX7_worth := fun w h => List.mem_cons_of_mem _ (List.mem_append_left _ (List.mem_append_left _ (List.mem_append_left _ (List.mem_append_right _ h))))
theorem fd_X7_worth_248 : qFd RX7 wsX7_worth 248 3 6 1 306 := ⟨RX3, TX3, 7, _, rfl, hi_X7_worth_3, by decide, (by decide +kernel : Cond.fieldLink RX7 248 (TX3 6).1 (TX3 6).2.1 (TX3 6).2.2.1 ∈ wsX7_worth), rfl, rfl, by decide⟩
set_option maxHeartbeats 4000000 in
set_option maxRecDepth 20000 in
theorem w_X7_worth {X : qB} {N : Nat} (hX : qOk X cX7_worth RX7 8 (some .long) wsX7_worth 6 148) {r : Int} {nu : qM} (hE : xr X = some (.long (lZ r)) ∧ (in64 r → xΦ X) ∧ xμ X = nu) 
    {x0 : Nat} {x1 : Int} {x2 : Int} {x3 : Int} {x4 : Int} {x5 : Int} (k_x0 : gK (xG X) x0 = 8) (r_x1 : in32 x1) (r_x2 : in32 x2) (r_x3 : in32 x3) (r_x4 : in32 x4) (r_x5 : in32 x5) {m0 : qM} (hR_m0 : qR (xG X) m0)
    (h : f_X7_worth N (xG X)  x0 x1 x2 x3 x4 x5 m0 = some (r, nu)) : qN X 8 0 [(0, .ref x0), (1, .int (iZ x1)), (2, .int (iZ x2)), (3, .int (iZ x3)), (4, .int (iZ x4)), (5, .int (iZ x5))] [] m0 := by
  have hT := hX.T
  unfold f_X7_worth at h
  refine qn_iload_n hX (pc := 0) dX7_worth_0 1 rfl rfl ?_
  refine qn_iload_n hX (pc := 1) dX7_worth_1 2 rfl rfl ?_
  refine qn_iload_n hX (pc := 2) dX7_worth_2 3 rfl rfl ?_
  refine qn_iload hX (pc := 3) dX7_worth_3 4 rfl ?_
  refine qn_iload hX (pc := 5) dX7_worth_5 5 rfl ?_
  obtain ⟨v2, m1, e_m1, h⟩ := kb2_e h
  refine qn_callSi hX (pc := 7) [.int (iZ x1), .int (iZ x2), .int (iZ x3), .int (iZ x4), .int (iZ x5)] [.int (iZ x5), .int (iZ x4), .int (iZ x3), .int (iZ x2), .int (iZ x1)] 5 dX7_worth_7 gX7_worth_X7_isForm rfl dd_X7_isForm ⟨rfl, rfl⟩ rfl rfl rfl hR_m0 (k_X7_isForm (xl X) hT r_x1 r_x2 r_x3 r_x4 r_x5 e_m1) (fun r_v2 hR_m1 => ?_)
  refine qn_if_eq hX (pc := 10) r_v2.i 22 dX7_worth_10 (by decide) (fun c3 => ?_) (fun c3 => ?_)
  · have h := ite_t h c3
    refine qn_ldc2 hX (pc := 22) (-1) dX7_worth_22 (by decide +kernel : Cond.constantLong RX7 246 (-1) ∈ wsX7_worth) (by decide) ?_
    exact qn_lret hX (pc := 25) dX7_worth_25 hE hR_m1 (by decide) (Option.some.inj h)
  · have h := ite_f h c3
    refine qn_iload_n hX (pc := 13) dX7_worth_13 3 rfl rfl ?_
    refine qn_iload hX (pc := 14) dX7_worth_14 4 rfl ?_
    obtain ⟨v5, m4, e_m4, h⟩ := kb2_e h
    refine qn_callSi hX (pc := 16) [.int (iZ x3), .int (iZ x4)] [.int (iZ x4), .int (iZ x3)] 2 dX7_worth_16 gX7_worth_X7_isWorthInt rfl dd_X7_isWorthInt ⟨rfl, rfl⟩ rfl rfl rfl hR_m1 (k_X7_isWorthInt (xl X) hT r_x3 r_x4 e_m4) (fun r_v5 hR_m4 => ?_)
    refine qn_if_ne hX (pc := 19) r_v5.i 26 dX7_worth_19 (by decide) (fun c6 => ?_) (fun c6 => ?_)
    · have h := ite_f h c6
      refine qn_aload_n hX (pc := 26) dX7_worth_26 0 rfl rfl ?_
      refine qn_getR hX (pc := 27) fd_X7_worth_16 dX7_worth_27 k_x0 ?_
      refine qn_aload_n hX (pc := 30) dX7_worth_30 0 rfl rfl ?_
      refine qn_getR hX (pc := 31) fd_X7_worth_10 dX7_worth_31 k_x0 ?_
      obtain ⟨m7, e_m7, h⟩ := kb_e h
      refine qn_callVv hX (pc := 34) [.ref (gR (xG X) 700 x0)] [.ref (gR (xG X) 700 x0)] 1 dX7_worth_34 gX7_worth_X2_prepareTrial rfl dd_X2_prepareTrial ⟨rfl, rfl⟩ rfl rfl (by decide) (qr_701 hT k_x0) rfl rfl hR_m4 (k_X2_prepareTrial (xl X) hT (qr_701 hT k_x0) (qr_700 hT k_x0) e_m7) (fun r_v8 hR_m7 => ?_)
      refine qn_aload_n hX (pc := 37) dX7_worth_37 0 rfl rfl ?_
      refine qn_getR hX (pc := 38) fd_X7_worth_16 dX7_worth_38 k_x0 ?_
      refine qn_iload_n hX (pc := 41) dX7_worth_41 1 rfl rfl ?_
      refine qn_iload_n hX (pc := 42) dX7_worth_42 2 rfl rfl ?_
      refine qn_iload_n hX (pc := 43) dX7_worth_43 3 rfl rfl ?_
      refine qn_iload hX (pc := 44) dX7_worth_44 4 rfl ?_
      refine qn_iload hX (pc := 46) dX7_worth_46 5 rfl ?_
      obtain ⟨v10, m9, e_m9, h⟩ := kb2_e h
      refine qn_callVi hX (pc := 48) [.int (iZ x1), .int (iZ x2), .int (iZ x3), .int (iZ x4), .int (iZ x5)] [.int (iZ x5), .int (iZ x4), .int (iZ x3), .int (iZ x2), .int (iZ x1)] 5 dX7_worth_48 gX7_worth_X2_comeIn rfl dd_X2_comeIn ⟨rfl, rfl⟩ rfl rfl (by decide) (qr_701 hT k_x0) rfl rfl hR_m7 (k_X2_comeIn (xl X) hT (qr_701 hT k_x0) r_x1 r_x2 r_x3 r_x4 r_x5 e_m9) (fun r_v10 hR_m9 => ?_)
      refine qn_pop hX (pc := 51) dX7_worth_51 rfl ?_
      refine qn_aload_n hX (pc := 52) dX7_worth_52 0 rfl rfl ?_
      refine qn_getR hX (pc := 53) fd_X7_worth_16 dX7_worth_53 k_x0 ?_
      refine qn_getR hX (pc := 56) fd_X7_worth_224 dX7_worth_56 (qr_701 hT k_x0) ?_
      refine qn_getR hX (pc := 59) fd_X7_worth_248 dX7_worth_59 (qr_201 hT (qr_701 hT k_x0)) ?_
      refine qn_iload_n hX (pc := 62) dX7_worth_62 1 rfl rfl ?_
      obtain ⟨v11, e_v11, b_v11, h⟩ := rdA_e h
      have r_v11 : in64 v11 := by rw [e_v11]; exact hR_m9.j (n := 10) _ (qr_306 hT (qr_201 hT (qr_701 hT k_x0))) (by decide)
      refine qn_lald hX (pc := 63) 10 dX7_worth_63 (qr_306 hT (qr_201 hT (qr_701 hT k_x0))) (by decide) b_v11 e_v11 ?_
      refine qn_lstore hX (pc := 64) (ls' := [(6, .long (lZ v11)), (0, .ref x0), (1, .int (iZ x1)), (2, .int (iZ x2)), (3, .int (iZ x3)), (4, .int (iZ x4)), (5, .int (iZ x5))]) dX7_worth_64 rfl rfl ?_
      refine qn_iload_n hX (pc := 66) dX7_worth_66 3 rfl rfl ?_
      refine qn_if_ne hX (pc := 67) r_x2 76 dX7_worth_67 (by decide) (fun c12 => ?_) (fun c12 => ?_)
      · have h := ite_f h c12
        refine qn_lload hX (pc := 76) dX7_worth_76 0 rfl ?_
        exact qn_lret hX (pc := 78) dX7_worth_78 hE hR_m9 r_v11 (Option.some.inj h)
      · have h := ite_t h c12
        refine qn_lload hX (pc := 70) dX7_worth_70 0 rfl ?_
        obtain ⟨v13, e_v13, h⟩ := kp_e h
        have r_v13 : in64 v13 := by rw [e_v13]; exact w64_in _
        refine qn_lnegw hX (pc := 72) dX7_worth_72 e_v13 ?_
        refine qn_goto hX (pc := 73) 78 dX7_worth_73 (by decide) ?_
        exact qn_lret hX (pc := 78) dX7_worth_78 hE hR_m9 r_v13 (Option.some.inj h)
    · have h := ite_t h c6
      refine qn_ldc2 hX (pc := 22) (-1) dX7_worth_22 (by decide +kernel : Cond.constantLong RX7 246 (-1) ∈ wsX7_worth) (by decide) ?_
      exact qn_lret hX (pc := 25) dX7_worth_25 hE hR_m4 (by decide) (Option.some.inj h)
theorem k_X7_worth (l : Launch) {G : qG} (hT : qT G) {N : Nat} {x0 : Nat} {x1 : Int} {x2 : Int} {x3 : Int} {x4 : Int} {x5 : Int} (k_x0 : gK G x0 = 8) (r_x1 : in32 x1) (r_x2 : in32 x2) (r_x3 : in32 x3) (r_x4 : in32 x4) (r_x5 : in32 x5) {m0 : qM} {r : Int} {nu : qM} (h : f_X7_worth N G x0 x1 x2 x3 x4 x5 m0 = some (r, nu)) : qC l yX7_worth wsX7_worth 6 148 G [.ref x0, .int (iZ x1), .int (iZ x2), .int (iZ x3), .int (iZ x4), .int (iZ x5)] m0 (some (.long (lZ r))) (in64 r) nu := by
  refine qn_start (hy := by decide) hT (hw := rfl) (hn := Nat.le_of_ble_eq_true rfl) ?_
  intro X h1 h2 h3 h4 hX hR
  subst h4
  exact w_X7_worth hX ⟨h1, fun q => h2 ▸ q, h3⟩ k_x0 r_x1 r_x2 r_x3 r_x4 r_x5 hR h
theorem dd_X7_worth : yX7_worth.cls = RX7 ∧ yX7_worth.cls ≠ "java/lang/invoke/MethodHandle" ∧ yX7_worth.cls ≠ "java/lang/invoke/VarHandle" ∧ (parseMethodDescriptor yX7_worth.desc).map (fun d => d.parameters.length) = some 5 := by decide +kernel
-- ProRataMarket.would
theorem hi_X7_would_7 : ∀ w ∈ wsX70, w ∈ wsX7_would := fun w h => List.mem_cons_of_mem _ (List.mem_append_left _ (List.mem_append_left _ (List.mem_append_left _ (List.mem_append_left _ (List.mem_append_left _ (List.mem_append_right _ h))))))
theorem fd_X7_would_16 : qFd RX7 wsX7_would 16 7 1 1 701 := ⟨RX7, TX7, 3, _, rfl, hi_X7_would_7, by decide, (by decide +kernel : Cond.fieldLink RX7 16 (TX7 1).1 (TX7 1).2.1 (TX7 1).2.2.1 ∈ wsX7_would), rfl, rfl, by decide⟩
theorem fd_X7_would_10 : qFd RX7 wsX7_would 10 7 0 1 700 := ⟨RX7, TX7, 3, _, rfl, hi_X7_would_7, by decide, (by decide +kernel : Cond.fieldLink RX7 10 (TX7 0).1 (TX7 0).2.1 (TX7 0).2.2.1 ∈ wsX7_would), rfl, rfl, by decide⟩
theorem hi_X7_would_2 : ∀ w ∈ wsX20, w ∈ wsX7_would := fun w h => List.mem_cons_of_mem _ (List.mem_append_left _ (List.mem_append_left _ (List.mem_append_left _ (List.mem_append_left _ (List.mem_append_right _ h)))))
theorem fd_X7_would_224 : qFd RX7 wsX7_would 224 2 1 1 201 := ⟨RX2, TX2, 12, _, rfl, hi_X7_would_2, by decide, (by decide +kernel : Cond.fieldLink RX7 224 (TX2 1).1 (TX2 1).2.1 (TX2 1).2.2.1 ∈ wsX7_would), rfl, rfl, by decide⟩
theorem hi_X7_would_3 : ∀ w ∈ wsX30, w ∈ wsX7_would := fun w h => List.mem_cons_of_mem _ (List.mem_append_left _ (List.mem_append_left _ (List.mem_append_left _ (List.mem_append_right _ h))))
theorem fd_X7_would_228 : qFd RX7 wsX7_would 228 3 4 0 304 := ⟨RX3, TX3, 7, _, rfl, hi_X7_would_3, by decide, (by decide +kernel : Cond.fieldLink RX7 228 (TX3 4).1 (TX3 4).2.1 (TX3 4).2.2.1 ∈ wsX7_would), rfl, rfl, by decide⟩
theorem fd_X7_would_233 : qFd RX7 wsX7_would 233 2 4 1 204 := ⟨RX2, TX2, 12, _, rfl, hi_X7_would_2, by decide, (by decide +kernel : Cond.fieldLink RX7 233 (TX2 4).1 (TX2 4).2.1 (TX2 4).2.2.1 ∈ wsX7_would), rfl, rfl, by decide⟩
theorem hi_X7_would_4 : ∀ w ∈ wsX40, w ∈ wsX7_would := fun w h => List.mem_cons_of_mem _ (List.mem_append_left _ (List.mem_append_left _ (List.mem_append_right _ h)))
theorem fd_X7_would_115 : qFd RX7 wsX7_would 115 4 4 0 404 := ⟨RX4, TX4, 6, _, rfl, hi_X7_would_4, by decide, (by decide +kernel : Cond.fieldLink RX7 115 (TX4 4).1 (TX4 4).2.1 (TX4 4).2.2.1 ∈ wsX7_would), rfl, rfl, by decide⟩
theorem fd_X7_would_237 : qFd RX7 wsX7_would 237 3 3 0 303 := ⟨RX3, TX3, 7, _, rfl, hi_X7_would_3, by decide, (by decide +kernel : Cond.fieldLink RX7 237 (TX3 3).1 (TX3 3).2.1 (TX3 3).2.2.1 ∈ wsX7_would), rfl, rfl, by decide⟩
theorem fd_X7_would_240 : qFd RX7 wsX7_would 240 2 10 0 210 := ⟨RX2, TX2, 12, _, rfl, hi_X7_would_2, by decide, (by decide +kernel : Cond.fieldLink RX7 240 (TX2 10).1 (TX2 10).2.1 (TX2 10).2.2.1 ∈ wsX7_would), rfl, rfl, by decide⟩
theorem fd_X7_would_243 : qFd RX7 wsX7_would 243 2 11 0 211 := ⟨RX2, TX2, 12, _, rfl, hi_X7_would_2, by decide, (by decide +kernel : Cond.fieldLink RX7 243 (TX2 11).1 (TX2 11).2.1 (TX2 11).2.2.1 ∈ wsX7_would), rfl, rfl, by decide⟩
set_option maxHeartbeats 4000000 in
set_option maxRecDepth 20000 in
theorem w_X7_would {X : qB} {N : Nat} (hX : qOk X cX7_would RX7 7 (some .int) wsX7_would 6 148) {r : Int} {nu : qM} (hE : xr X = some (.int (iZ r)) ∧ (in32 r → xΦ X) ∧ xμ X = nu) 
    {x0 : Nat} {x1 : Int} {x2 : Int} {x3 : Int} {x4 : Int} {x5 : Int} {x6 : Int} (k_x0 : gK (xG X) x0 = 8) (r_x1 : in32 x1) (r_x2 : in32 x2) (r_x3 : in32 x3) (r_x4 : in32 x4) (r_x5 : in32 x5) (r_x6 : in32 x6) {m0 : qM} (hR_m0 : qR (xG X) m0)
    (h : f_X7_would N (xG X)  x0 x1 x2 x3 x4 x5 x6 m0 = some (r, nu)) : qN X 7 0 [(0, .ref x0), (1, .int (iZ x1)), (2, .int (iZ x2)), (3, .int (iZ x3)), (4, .int (iZ x4)), (5, .int (iZ x5)), (6, .int (iZ x6))] [] m0 := by
  have hT := hX.T
  unfold f_X7_would at h
  refine qn_iload_n hX (pc := 0) dX7_would_0 1 rfl rfl ?_
  refine qn_iload_n hX (pc := 1) dX7_would_1 2 rfl rfl ?_
  refine qn_iload_n hX (pc := 2) dX7_would_2 3 rfl rfl ?_
  refine qn_iload hX (pc := 3) dX7_would_3 4 rfl ?_
  refine qn_iload hX (pc := 5) dX7_would_5 5 rfl ?_
  obtain ⟨v2, m1, e_m1, h⟩ := kb2_e h
  refine qn_callSi hX (pc := 7) [.int (iZ x1), .int (iZ x2), .int (iZ x3), .int (iZ x4), .int (iZ x5)] [.int (iZ x5), .int (iZ x4), .int (iZ x3), .int (iZ x2), .int (iZ x1)] 5 dX7_would_7 gX7_would_X7_isForm rfl dd_X7_isForm ⟨rfl, rfl⟩ rfl rfl rfl hR_m0 (k_X7_isForm (xl X) hT r_x1 r_x2 r_x3 r_x4 r_x5 e_m1) (fun r_v2 hR_m1 => ?_)
  refine qn_if_eq hX (pc := 10) r_v2.i 22 dX7_would_10 (by decide) (fun c3 => ?_) (fun c3 => ?_)
  · have h := ite_t h c3
    refine qn_iconst hX (pc := 22) dX7_would_22 ?_
    exact qn_iret hX (pc := 23) dX7_would_23 hE hR_m1 (by decide) (Option.some.inj h)
  · have h := ite_f h c3
    refine qn_iload_n hX (pc := 13) dX7_would_13 3 rfl rfl ?_
    refine qn_iload hX (pc := 14) dX7_would_14 4 rfl ?_
    obtain ⟨v5, m4, e_m4, h⟩ := kb2_e h
    refine qn_callSi hX (pc := 16) [.int (iZ x3), .int (iZ x4)] [.int (iZ x4), .int (iZ x3)] 2 dX7_would_16 gX7_would_X7_isWorthInt rfl dd_X7_isWorthInt ⟨rfl, rfl⟩ rfl rfl rfl hR_m1 (k_X7_isWorthInt (xl X) hT r_x3 r_x4 e_m4) (fun r_v5 hR_m4 => ?_)
    refine qn_if_ne hX (pc := 19) r_v5.i 24 dX7_would_19 (by decide) (fun c6 => ?_) (fun c6 => ?_)
    · have h := ite_f h c6
      refine qn_aload_n hX (pc := 24) dX7_would_24 0 rfl rfl ?_
      refine qn_getR hX (pc := 25) fd_X7_would_16 dX7_would_25 k_x0 ?_
      refine qn_aload_n hX (pc := 28) dX7_would_28 0 rfl rfl ?_
      refine qn_getR hX (pc := 29) fd_X7_would_10 dX7_would_29 k_x0 ?_
      obtain ⟨m7, e_m7, h⟩ := kb_e h
      refine qn_callVv hX (pc := 32) [.ref (gR (xG X) 700 x0)] [.ref (gR (xG X) 700 x0)] 1 dX7_would_32 gX7_would_X2_prepareTrial rfl dd_X2_prepareTrial ⟨rfl, rfl⟩ rfl rfl (by decide) (qr_701 hT k_x0) rfl rfl hR_m4 (k_X2_prepareTrial (xl X) hT (qr_701 hT k_x0) (qr_700 hT k_x0) e_m7) (fun r_v8 hR_m7 => ?_)
      refine qn_aload_n hX (pc := 35) dX7_would_35 0 rfl rfl ?_
      refine qn_getR hX (pc := 36) fd_X7_would_16 dX7_would_36 k_x0 ?_
      refine qn_iload_n hX (pc := 39) dX7_would_39 1 rfl rfl ?_
      refine qn_iload_n hX (pc := 40) dX7_would_40 2 rfl rfl ?_
      refine qn_iload_n hX (pc := 41) dX7_would_41 3 rfl rfl ?_
      refine qn_iload hX (pc := 42) dX7_would_42 4 rfl ?_
      refine qn_iload hX (pc := 44) dX7_would_44 5 rfl ?_
      obtain ⟨v10, m9, e_m9, h⟩ := kb2_e h
      refine qn_callVi hX (pc := 46) [.int (iZ x1), .int (iZ x2), .int (iZ x3), .int (iZ x4), .int (iZ x5)] [.int (iZ x5), .int (iZ x4), .int (iZ x3), .int (iZ x2), .int (iZ x1)] 5 dX7_would_46 gX7_would_X2_comeIn rfl dd_X2_comeIn ⟨rfl, rfl⟩ rfl rfl (by decide) (qr_701 hT k_x0) rfl rfl hR_m7 (k_X2_comeIn (xl X) hT (qr_701 hT k_x0) r_x1 r_x2 r_x3 r_x4 r_x5 e_m9) (fun r_v10 hR_m9 => ?_)
      refine qn_pop hX (pc := 49) dX7_would_49 rfl ?_
      refine qn_iload hX (pc := 50) dX7_would_50 6 rfl ?_
      by_cases c11 : x6 = 0
      · have h := ite_t h c11
        refine qn_tswIn hX (pc := 52) r_x6 84 dX7_would_52 0 c11 (by decide) rfl (by decide) ?_
        refine qn_aload_n hX (pc := 84) dX7_would_84 0 rfl rfl ?_
        refine qn_getR hX (pc := 85) fd_X7_would_16 dX7_would_85 k_x0 ?_
        refine qn_getR hX (pc := 88) fd_X7_would_224 dX7_would_88 (qr_701 hT k_x0) ?_
        refine qn_getI hX (pc := 91) fd_X7_would_228 dX7_would_91 (qr_201 hT (qr_701 hT k_x0)) ?_
        exact qn_iret hX (pc := 94) dX7_would_94 hE hR_m9 (hR_m9.i 304 _ rfl) (Option.some.inj h)
      have h := ite_f h c11
      by_cases c12 : x6 = 1
      · have h := ite_t h c12
        refine qn_tswIn hX (pc := 52) r_x6 95 dX7_would_52 1 c12 (by decide) rfl (by decide) ?_
        refine qn_aload_n hX (pc := 95) dX7_would_95 0 rfl rfl ?_
        refine qn_getR hX (pc := 96) fd_X7_would_16 dX7_would_96 k_x0 ?_
        refine qn_getR hX (pc := 99) fd_X7_would_233 dX7_would_99 (qr_701 hT k_x0) ?_
        refine qn_getI hX (pc := 102) fd_X7_would_115 dX7_would_102 (qr_204 hT (qr_701 hT k_x0)) ?_
        exact qn_iret hX (pc := 105) dX7_would_105 hE hR_m9 (hR_m9.i 404 _ rfl) (Option.some.inj h)
      have h := ite_f h c12
      by_cases c13 : x6 = 2
      · have h := ite_t h c13
        refine qn_tswIn hX (pc := 52) r_x6 106 dX7_would_52 2 c13 (by decide) rfl (by decide) ?_
        refine qn_aload_n hX (pc := 106) dX7_would_106 0 rfl rfl ?_
        refine qn_getR hX (pc := 107) fd_X7_would_16 dX7_would_107 k_x0 ?_
        refine qn_getR hX (pc := 110) fd_X7_would_224 dX7_would_110 (qr_701 hT k_x0) ?_
        refine qn_getI hX (pc := 113) fd_X7_would_237 dX7_would_113 (qr_201 hT (qr_701 hT k_x0)) ?_
        exact qn_iret hX (pc := 116) dX7_would_116 hE hR_m9 (hR_m9.i 303 _ rfl) (Option.some.inj h)
      have h := ite_f h c13
      by_cases c14 : x6 = 3
      · have h := ite_t h c14
        refine qn_tswIn hX (pc := 52) r_x6 117 dX7_would_52 3 c14 (by decide) rfl (by decide) ?_
        refine qn_aload_n hX (pc := 117) dX7_would_117 0 rfl rfl ?_
        refine qn_getR hX (pc := 118) fd_X7_would_16 dX7_would_118 k_x0 ?_
        refine qn_getI hX (pc := 121) fd_X7_would_240 dX7_would_121 (qr_701 hT k_x0) ?_
        refine qn_aload_n hX (pc := 124) dX7_would_124 0 rfl rfl ?_
        refine qn_getR hX (pc := 125) fd_X7_would_16 dX7_would_125 k_x0 ?_
        refine qn_getI hX (pc := 128) fd_X7_would_243 dX7_would_128 (qr_701 hT k_x0) ?_
        obtain ⟨v15, e_v15, h⟩ := kp_e h
        have r_v15 : in32 v15 := by rw [e_v15]; exact w32_in _
        refine qn_iaddw hX (pc := 131) dX7_would_131 e_v15 ?_
        exact qn_iret hX (pc := 132) dX7_would_132 hE hR_m9 r_v15 (Option.some.inj h)
      have h := ite_f h c14
      refine qn_tswOut hX (pc := 52) r_x6 133 dX7_would_52 (by omega) (by decide) ?_
      refine qn_iconst hX (pc := 133) dX7_would_133 ?_
      exact qn_iret hX (pc := 134) dX7_would_134 hE hR_m9 (by decide) (Option.some.inj h)
    · have h := ite_t h c6
      refine qn_iconst hX (pc := 22) dX7_would_22 ?_
      exact qn_iret hX (pc := 23) dX7_would_23 hE hR_m4 (by decide) (Option.some.inj h)
theorem k_X7_would (l : Launch) {G : qG} (hT : qT G) {N : Nat} {x0 : Nat} {x1 : Int} {x2 : Int} {x3 : Int} {x4 : Int} {x5 : Int} {x6 : Int} (k_x0 : gK G x0 = 8) (r_x1 : in32 x1) (r_x2 : in32 x2) (r_x3 : in32 x3) (r_x4 : in32 x4) (r_x5 : in32 x5) (r_x6 : in32 x6) {m0 : qM} {r : Int} {nu : qM} (h : f_X7_would N G x0 x1 x2 x3 x4 x5 x6 m0 = some (r, nu)) : qC l yX7_would wsX7_would 6 148 G [.ref x0, .int (iZ x1), .int (iZ x2), .int (iZ x3), .int (iZ x4), .int (iZ x5), .int (iZ x6)] m0 (some (.int (iZ r))) (in32 r) nu := by
  refine qn_start (hy := by decide) hT (hw := rfl) (hn := Nat.le_of_ble_eq_true rfl) ?_
  intro X h1 h2 h3 h4 hX hR
  subst h4
  exact w_X7_would hX ⟨h1, fun q => h2 ▸ q, h3⟩ k_x0 r_x1 r_x2 r_x3 r_x4 r_x5 r_x6 hR h
theorem dd_X7_would : yX7_would.cls = RX7 ∧ yX7_would.cls ≠ "java/lang/invoke/MethodHandle" ∧ yX7_would.cls ≠ "java/lang/invoke/VarHandle" ∧ (parseMethodDescriptor yX7_would.desc).map (fun d => d.parameters.length) = some 6 := by decide +kernel
-- ProRataMarketModel.ofOrder
theorem hi_X8_ofOrder_8 : ∀ w ∈ wsX80, w ∈ wsX8_ofOrder := fun w h => List.mem_cons_of_mem _ (List.mem_append_right _ h)
theorem fd_X8_ofOrder_7 : qFd RX8 wsX8_ofOrder 7 8 0 1 800 := ⟨RX8, TX8, 32, _, rfl, hi_X8_ofOrder_8, by decide, (by decide +kernel : Cond.fieldLink RX8 7 (TX8 0).1 (TX8 0).2.1 (TX8 0).2.2.1 ∈ wsX8_ofOrder), rfl, rfl, by decide⟩
set_option maxHeartbeats 4000000 in
set_option maxRecDepth 20000 in
theorem w_X8_ofOrder {X : qB} {N : Nat} (hX : qOk X cX8_ofOrder RX8 3 (some .int) wsX8_ofOrder 0 0) {r : Int} {nu : qM} (hE : xr X = some (.int (iZ r)) ∧ (in32 r → xΦ X) ∧ xμ X = nu) 
    {x0 : Nat} {x1 : Int} {x2 : Int} (k_x0 : gK (xG X) x0 = 9) (r_x1 : in32 x1) (r_x2 : in32 x2) {m0 : qM} (hR_m0 : qR (xG X) m0)
    (h : f_X8_ofOrder N (xG X)  x0 x1 x2 m0 = some (r, nu)) : qN X 3 0 [(0, .ref x0), (1, .int (iZ x1)), (2, .int (iZ x2))] [] m0 := by
  have hT := hX.T
  unfold f_X8_ofOrder at h
  refine qn_aload_n hX (pc := 0) dX8_ofOrder_0 0 rfl rfl ?_
  refine qn_getR hX (pc := 1) fd_X8_ofOrder_7 dX8_ofOrder_1 k_x0 ?_
  refine qn_bipush hX (pc := 4) dX8_ofOrder_4 (by decide) ?_
  refine qn_bipush hX (pc := 6) dX8_ofOrder_6 (by decide) ?_
  refine qn_iload_n hX (pc := 8) dX8_ofOrder_8 1 rfl rfl ?_
  obtain ⟨v1, e_v1, r_v1, h⟩ := ckI_e h
  refine qn_imul hX (pc := 9) dX8_ofOrder_9 e_v1 ?_
  obtain ⟨v2, e_v2, r_v2, h⟩ := ckI_e h
  refine qn_iadd hX (pc := 10) dX8_ofOrder_10 e_v2 ?_
  refine qn_iload_n hX (pc := 11) dX8_ofOrder_11 2 rfl rfl ?_
  obtain ⟨v3, e_v3, r_v3, h⟩ := ckI_e h
  refine qn_iadd hX (pc := 12) dX8_ofOrder_12 e_v3 ?_
  obtain ⟨v4, e_v4, b_v4, h⟩ := rdA_e h
  have r_v4 : in32 v4 := by rw [e_v4]; exact hR_m0.a (n := 684) _ (qr_800 hT k_x0) (by decide)
  refine qn_iald hX (pc := 13) 684 dX8_ofOrder_13 (qr_800 hT k_x0) (by decide) b_v4 e_v4 ?_
  exact qn_iret hX (pc := 14) dX8_ofOrder_14 hE hR_m0 r_v4 (Option.some.inj h)
theorem k_X8_ofOrder (l : Launch) {G : qG} (hT : qT G) {N : Nat} {x0 : Nat} {x1 : Int} {x2 : Int} (k_x0 : gK G x0 = 9) (r_x1 : in32 x1) (r_x2 : in32 x2) {m0 : qM} {r : Int} {nu : qM} (h : f_X8_ofOrder N G x0 x1 x2 m0 = some (r, nu)) : qC l yX8_ofOrder wsX8_ofOrder 0 0 G [.ref x0, .int (iZ x1), .int (iZ x2)] m0 (some (.int (iZ r))) (in32 r) nu := by
  refine qn_start (hy := by decide) hT (hw := rfl) (hn := Nat.le_of_ble_eq_true rfl) ?_
  intro X h1 h2 h3 h4 hX hR
  subst h4
  exact w_X8_ofOrder hX ⟨h1, fun q => h2 ▸ q, h3⟩ k_x0 r_x1 r_x2 hR h
theorem dd_X8_ofOrder : yX8_ofOrder.cls = RX8 ∧ yX8_ofOrder.cls ≠ "java/lang/invoke/MethodHandle" ∧ yX8_ofOrder.cls ≠ "java/lang/invoke/VarHandle" ∧ (parseMethodDescriptor yX8_ofOrder.desc).map (fun d => d.parameters.length) = some 2 := by decide +kernel
-- ProRataMarketModel.placeOf
theorem hi_X8_placeOf_8 : ∀ w ∈ wsX80, w ∈ wsX8_placeOf := fun w h => List.mem_cons_of_mem _ (List.mem_append_right _ h)
theorem fd_X8_placeOf_7 : qFd RX8 wsX8_placeOf 7 8 0 1 800 := ⟨RX8, TX8, 32, _, rfl, hi_X8_placeOf_8, by decide, (by decide +kernel : Cond.fieldLink RX8 7 (TX8 0).1 (TX8 0).2.1 (TX8 0).2.2.1 ∈ wsX8_placeOf), rfl, rfl, by decide⟩
set_option maxHeartbeats 4000000 in
set_option maxRecDepth 20000 in
theorem w_X8_placeOf_2 {X : qB} {N : Nat} (hX : qOk X cX8_placeOf RX8 3 (some .int) wsX8_placeOf 1 22) {r : Int} {nu : qM} (hE : xr X = some (.int (iZ r)) ∧ (in32 r → xΦ X) ∧ xμ X = nu) {k2 : (Nat → Int → Int → qM → Option (Int × qM))} (hk2 : ∀ (x0 : Nat) (x1 : Int) (x2 : Int) (m0 : qM), gK (xG X) x0 = 9 → in32 x1 → in32 x2 → qR (xG X) m0 → k2 x0 x1 x2 m0 = some (r, nu) → qN X 3 2 [(0, .ref x0), (1, .int (iZ x1)), (2, .int (iZ x2))] [] m0)
    {x0 : Nat} {x1 : Int} {x2 : Int} (k_x0 : gK (xG X) x0 = 9) (r_x1 : in32 x1) (r_x2 : in32 x2) {m0 : qM} (hR_m0 : qR (xG X) m0)
    (h : f_X8_placeOf_2 N (xG X) k2 x0 x1 x2 m0 = some (r, nu)) : qN X 3 2 [(0, .ref x0), (1, .int (iZ x1)), (2, .int (iZ x2))] [] m0 := by
  have hT := hX.T
  unfold f_X8_placeOf_2 at h
  refine qn_iload_n hX (pc := 2) dX8_placeOf_2 2 rfl rfl ?_
  refine qn_aload_n hX (pc := 3) dX8_placeOf_3 0 rfl rfl ?_
  refine qn_getR hX (pc := 4) fd_X8_placeOf_7 dX8_placeOf_4 k_x0 ?_
  refine qn_iconst hX (pc := 7) dX8_placeOf_7 ?_
  refine qn_iald hX (pc := 8) (v := gA m0 (gR (xG X) 800 x0) 5) 684 dX8_placeOf_8 (qr_800 hT k_x0) (by decide) (by decide) rfl ?_
  refine qn_icmp_ge hX (pc := 9) r_x2 (hR_m0.a (n := 684) _ (qr_800 hT k_x0) (by decide)) 30 dX8_placeOf_9 (by decide) (fun c1 => ?_) (fun c1 => ?_)
  · have h := ite_f h c1
    refine qn_iconst hX (pc := 30) dX8_placeOf_30 ?_
    exact qn_iret hX (pc := 31) dX8_placeOf_31 hE hR_m0 (by decide) (Option.some.inj h)
  · have h := ite_t h c1
    refine qn_aload_n hX (pc := 12) dX8_placeOf_12 0 rfl rfl ?_
    refine qn_iload_n hX (pc := 13) dX8_placeOf_13 2 rfl rfl ?_
    refine qn_iconst hX (pc := 14) dX8_placeOf_14 ?_
    obtain ⟨v3, m2, e_m2, h⟩ := kb2_e h
    refine qn_callVi hX (pc := 15) [.int (iZ x2), .int (iZ 0)] [.int (iZ 0), .int (iZ x2)] 2 dX8_placeOf_15 gX8_placeOf_X8_ofOrder rfl dd_X8_ofOrder ⟨rfl, rfl⟩ rfl rfl (by decide) k_x0 rfl rfl hR_m0 (k_X8_ofOrder (xl X) hT k_x0 r_x2 (by decide) e_m2) (fun r_v3 hR_m2 => ?_)
    refine qn_iload_n hX (pc := 18) dX8_placeOf_18 1 rfl rfl ?_
    refine qn_icmp_ne hX (pc := 19) r_v3 r_x1 24 dX8_placeOf_19 (by decide) (fun c4 => ?_) (fun c4 => ?_)
    · have h := ite_f h c4
      obtain ⟨v5, e_v5, r_v5, h⟩ := ckI_e h
      refine qn_iinc hX (pc := 24) (ls' := [(2, .int (iZ v5)), (0, .ref x0), (1, .int (iZ x1))]) dX8_placeOf_24 2 rfl e_v5 rfl rfl ?_
      refine qn_goto hX (pc := 27) 2 dX8_placeOf_27 (by decide) ?_
      refine qn_sub (ls' := [(0, .ref x0), (1, .int (iZ x1)), (2, .int (iZ v5))]) [1, 2, 0] rfl ?_
      exact hk2 x0 x1 v5 m2 k_x0 r_x1 r_v5 hR_m2 h
    · have h := ite_t h c4
      refine qn_iload_n hX (pc := 22) dX8_placeOf_22 2 rfl rfl ?_
      exact qn_iret hX (pc := 23) dX8_placeOf_23 hE hR_m2 r_x2 (Option.some.inj h)
set_option maxHeartbeats 4000000 in
set_option maxRecDepth 20000 in
theorem w_X8_placeOf_L2 {X : qB} {N : Nat} (hX : qOk X cX8_placeOf RX8 3 (some .int) wsX8_placeOf 1 22) {r : Int} {nu : qM} (hE : xr X = some (.int (iZ r)) ∧ (in32 r → xΦ X) ∧ xμ X = nu) 
    {x0 : Nat} {x1 : Int} {x2 : Int} (k_x0 : gK (xG X) x0 = 9) (r_x1 : in32 x1) (r_x2 : in32 x2) {m0 : qM} (hR_m0 : qR (xG X) m0)
    (h : f_X8_placeOf_L2 N (xG X)  x0 x1 x2 m0 = some (r, nu)) : qN X 3 2 [(0, .ref x0), (1, .int (iZ x1)), (2, .int (iZ x2))] [] m0 := by
  unfold f_X8_placeOf_L2 at h
  exact qLoop_w (σ := Nat × Int × Int × qM) (P := fun p => gK (xG X) p.1 = 9 ∧ in32 p.2.1 ∧ in32 p.2.2.1 ∧ qR (xG X) p.2.2.2) (Q := fun p => qN X 3 2 [(0, .ref p.1), (1, .int (iZ p.2.1)), (2, .int (iZ p.2.2.1))] [] p.2.2.2) (fun k hrec p hp hh => w_X8_placeOf_2 hX hE (fun x0 x1 x2 m0 q0 q1 q2 hRm hh => hrec (x0, x1, x2, m0) ⟨q0, q1, q2, hRm⟩ hh) hp.1 hp.2.1 hp.2.2.1 hp.2.2.2 hh) N (x0, x1, x2, m0) ⟨k_x0, r_x1, r_x2, hR_m0⟩ h
set_option maxHeartbeats 4000000 in
set_option maxRecDepth 20000 in
theorem w_X8_placeOf {X : qB} {N : Nat} (hX : qOk X cX8_placeOf RX8 3 (some .int) wsX8_placeOf 1 22) {r : Int} {nu : qM} (hE : xr X = some (.int (iZ r)) ∧ (in32 r → xΦ X) ∧ xμ X = nu) 
    {x0 : Nat} {x1 : Int} (k_x0 : gK (xG X) x0 = 9) (r_x1 : in32 x1) {m0 : qM} (hR_m0 : qR (xG X) m0)
    (h : f_X8_placeOf N (xG X)  x0 x1 m0 = some (r, nu)) : qN X 3 0 [(0, .ref x0), (1, .int (iZ x1))] [] m0 := by
  have hT := hX.T
  unfold f_X8_placeOf at h
  refine qn_iconst hX (pc := 0) dX8_placeOf_0 ?_
  refine qn_istore_n hX (pc := 1) (ls' := [(2, .int (iZ 0)), (0, .ref x0), (1, .int (iZ x1))]) dX8_placeOf_1 rfl rfl rfl ?_
  refine qn_sub (ls' := [(0, .ref x0), (1, .int (iZ x1)), (2, .int (iZ 0))]) [1, 2, 0] rfl ?_
  exact w_X8_placeOf_L2 hX hE  k_x0 r_x1 (by decide) hR_m0 h
theorem k_X8_placeOf (l : Launch) {G : qG} (hT : qT G) {N : Nat} {x0 : Nat} {x1 : Int} (k_x0 : gK G x0 = 9) (r_x1 : in32 x1) {m0 : qM} {r : Int} {nu : qM} (h : f_X8_placeOf N G x0 x1 m0 = some (r, nu)) : qC l yX8_placeOf wsX8_placeOf 1 22 G [.ref x0, .int (iZ x1)] m0 (some (.int (iZ r))) (in32 r) nu := by
  refine qn_start (hy := by decide) hT (hw := rfl) (hn := Nat.le_of_ble_eq_true rfl) ?_
  intro X h1 h2 h3 h4 hX hR
  subst h4
  exact w_X8_placeOf hX ⟨h1, fun q => h2 ▸ q, h3⟩ k_x0 r_x1 hR h
theorem dd_X8_placeOf : yX8_placeOf.cls = RX8 ∧ yX8_placeOf.cls ≠ "java/lang/invoke/MethodHandle" ∧ yX8_placeOf.cls ≠ "java/lang/invoke/VarHandle" ∧ (parseMethodDescriptor yX8_placeOf.desc).map (fun d => d.parameters.length) = some 1 := by decide +kernel
-- ProRataMarketModel.within
set_option maxHeartbeats 4000000 in
set_option maxRecDepth 20000 in
theorem w_X8_within {X : qB} {N : Nat} (hX : qOk X cX8_within RX8 6 (some .boolean) wsX8_within 0 0) {r : Int} {nu : qM} (hE : xr X = some (.int (iZ r)) ∧ (in01 r → xΦ X) ∧ xμ X = nu) 
    {x0 : Int} {x2 : Int} {x4 : Int} (r_x0 : in64 x0) (r_x2 : in64 x2) (r_x4 : in64 x4) {m0 : qM} (hR_m0 : qR (xG X) m0)
    (h : f_X8_within N (xG X)  x0 x2 x4 m0 = some (r, nu)) : qN X 6 0 [(0, .long (lZ x0)), (2, .long (lZ x2)), (4, .long (lZ x4))] [] m0 := by
  have hT := hX.T
  unfold f_X8_within at h
  refine qn_lload_n hX (pc := 0) dX8_within_0 0 rfl rfl ?_
  refine qn_lload_n hX (pc := 1) dX8_within_1 1 rfl rfl ?_
  refine qn_lcmp hX (pc := 2) r_x0 r_x2 dX8_within_2 ?_
  refine qn_if_lt hX (pc := 3) (sgn_in _ _) 17 dX8_within_3 (by decide) (fun c1 => ?_) (fun c1 => ?_)
  · have h := ite_t h ((sgn_lt _ _).mp c1)
    refine qn_iconst hX (pc := 17) dX8_within_17 ?_
    exact qn_zret hX (pc := 18) dX8_within_18 hE hR_m0 (by decide) (Option.some.inj h)
  · have h := ite_f h (fun q => c1 ((sgn_lt _ _).mpr q))
    refine qn_lload_n hX (pc := 6) dX8_within_6 0 rfl rfl ?_
    refine qn_lload hX (pc := 7) dX8_within_7 2 rfl ?_
    refine qn_lcmp hX (pc := 9) r_x0 r_x4 dX8_within_9 ?_
    refine qn_if_gt hX (pc := 10) (sgn_in _ _) 17 dX8_within_10 (by decide) (fun c2 => ?_) (fun c2 => ?_)
    · have h := ite_t h ((sgn_gt _ _).mp c2)
      refine qn_iconst hX (pc := 17) dX8_within_17 ?_
      exact qn_zret hX (pc := 18) dX8_within_18 hE hR_m0 (by decide) (Option.some.inj h)
    · have h := ite_f h (fun q => c2 ((sgn_gt _ _).mpr q))
      refine qn_iconst hX (pc := 13) dX8_within_13 ?_
      refine qn_goto hX (pc := 14) 18 dX8_within_14 (by decide) ?_
      exact qn_zret hX (pc := 18) dX8_within_18 hE hR_m0 (by decide) (Option.some.inj h)
theorem k_X8_within (l : Launch) {G : qG} (hT : qT G) {N : Nat} {x0 : Int} {x2 : Int} {x4 : Int} (r_x0 : in64 x0) (r_x2 : in64 x2) (r_x4 : in64 x4) {m0 : qM} {r : Int} {nu : qM} (h : f_X8_within N G x0 x2 x4 m0 = some (r, nu)) : qC l yX8_within wsX8_within 0 0 G [.long (lZ x0), .long (lZ x2), .long (lZ x4)] m0 (some (.int (iZ r))) (in01 r) nu := by
  refine qn_start (hy := by decide) hT (hw := rfl) (hn := Nat.le_of_ble_eq_true rfl) ?_
  intro X h1 h2 h3 h4 hX hR
  subst h4
  exact w_X8_within hX ⟨h1, fun q => h2 ▸ q, h3⟩ r_x0 r_x2 r_x4 hR h
theorem dd_X8_within : yX8_within.cls ≠ "java/lang/invoke/MethodHandle" ∧ yX8_within.cls ≠ "java/lang/invoke/VarHandle" ∧ (parseMethodDescriptor yX8_within.desc).map (fun d => d.parameters.length) = some 3 := by decide +kernel
-- ProRataMarketModel.isBetter
set_option maxHeartbeats 4000000 in
set_option maxRecDepth 20000 in
theorem w_X8_isBetter {X : qB} {N : Nat} (hX : qOk X cX8_isBetter RX8 3 (some .boolean) wsX8_isBetter 0 0) {r : Int} {nu : qM} (hE : xr X = some (.int (iZ r)) ∧ (in01 r → xΦ X) ∧ xμ X = nu) 
    {x0 : Int} {x1 : Int} {x2 : Int} (r_x0 : in32 x0) (r_x1 : in32 x1) (r_x2 : in32 x2) {m0 : qM} (hR_m0 : qR (xG X) m0)
    (h : f_X8_isBetter N (xG X)  x0 x1 x2 m0 = some (r, nu)) : qN X 3 0 [(0, .int (iZ x0)), (1, .int (iZ x1)), (2, .int (iZ x2))] [] m0 := by
  have hT := hX.T
  unfold f_X8_isBetter at h
  refine qn_iload_n hX (pc := 0) dX8_isBetter_0 0 rfl rfl ?_
  refine qn_if_ne hX (pc := 1) r_x0 17 dX8_isBetter_1 (by decide) (fun c1 => ?_) (fun c1 => ?_)
  · have h := ite_f h c1
    refine qn_iload_n hX (pc := 17) dX8_isBetter_17 1 rfl rfl ?_
    refine qn_iload_n hX (pc := 18) dX8_isBetter_18 2 rfl rfl ?_
    refine qn_icmp_ge hX (pc := 19) r_x1 r_x2 26 dX8_isBetter_19 (by decide) (fun c2 => ?_) (fun c2 => ?_)
    · have h := ite_f h c2
      refine qn_iconst hX (pc := 26) dX8_isBetter_26 ?_
      exact qn_zret hX (pc := 27) dX8_isBetter_27 hE hR_m0 (by decide) (Option.some.inj h)
    · have h := ite_t h c2
      refine qn_iconst hX (pc := 22) dX8_isBetter_22 ?_
      refine qn_goto hX (pc := 23) 27 dX8_isBetter_23 (by decide) ?_
      exact qn_zret hX (pc := 27) dX8_isBetter_27 hE hR_m0 (by decide) (Option.some.inj h)
  · have h := ite_t h c1
    refine qn_iload_n hX (pc := 4) dX8_isBetter_4 1 rfl rfl ?_
    refine qn_iload_n hX (pc := 5) dX8_isBetter_5 2 rfl rfl ?_
    refine qn_icmp_le hX (pc := 6) r_x1 r_x2 13 dX8_isBetter_6 (by decide) (fun c3 => ?_) (fun c3 => ?_)
    · have h := ite_f h c3
      refine qn_iconst hX (pc := 13) dX8_isBetter_13 ?_
      refine qn_goto hX (pc := 14) 27 dX8_isBetter_14 (by decide) ?_
      exact qn_zret hX (pc := 27) dX8_isBetter_27 hE hR_m0 (by decide) (Option.some.inj h)
    · have h := ite_t h c3
      refine qn_iconst hX (pc := 9) dX8_isBetter_9 ?_
      refine qn_goto hX (pc := 10) 27 dX8_isBetter_10 (by decide) ?_
      exact qn_zret hX (pc := 27) dX8_isBetter_27 hE hR_m0 (by decide) (Option.some.inj h)
theorem k_X8_isBetter (l : Launch) {G : qG} (hT : qT G) {N : Nat} {x0 : Int} {x1 : Int} {x2 : Int} (r_x0 : in32 x0) (r_x1 : in32 x1) (r_x2 : in32 x2) {m0 : qM} {r : Int} {nu : qM} (h : f_X8_isBetter N G x0 x1 x2 m0 = some (r, nu)) : qC l yX8_isBetter wsX8_isBetter 0 0 G [.int (iZ x0), .int (iZ x1), .int (iZ x2)] m0 (some (.int (iZ r))) (in01 r) nu := by
  refine qn_start (hy := by decide) hT (hw := rfl) (hn := Nat.le_of_ble_eq_true rfl) ?_
  intro X h1 h2 h3 h4 hX hR
  subst h4
  exact w_X8_isBetter hX ⟨h1, fun q => h2 ▸ q, h3⟩ r_x0 r_x1 r_x2 hR h
theorem dd_X8_isBetter : yX8_isBetter.cls ≠ "java/lang/invoke/MethodHandle" ∧ yX8_isBetter.cls ≠ "java/lang/invoke/VarHandle" ∧ (parseMethodDescriptor yX8_isBetter.desc).map (fun d => d.parameters.length) = some 3 := by decide +kernel
-- ProRataMarketModel.ahead
theorem hi_X8_ahead_8 : ∀ w ∈ wsX80, w ∈ wsX8_ahead := fun w h => List.mem_cons_of_mem _ (List.mem_append_right _ h)
theorem fd_X8_ahead_7 : qFd RX8 wsX8_ahead 7 8 0 1 800 := ⟨RX8, TX8, 32, _, rfl, hi_X8_ahead_8, by decide, (by decide +kernel : Cond.fieldLink RX8 7 (TX8 0).1 (TX8 0).2.1 (TX8 0).2.2.1 ∈ wsX8_ahead), rfl, rfl, by decide⟩
theorem fp_X8_ahead_45 : qFp RX8 wsX8_ahead 45 8 4 0 804 .int := ⟨RX8, TX8, 32, _, tyX8, rfl, hi_X8_ahead_8, by decide, (by decide +kernel : Cond.fieldLink RX8 45 (TX8 4).1 (TX8 4).2.1 (TX8 4).2.2.1 ∈ wsX8_ahead), rfl, rfl, by decide, tyX8_ok, nmX8, rfl, by decide +kernel⟩
set_option maxHeartbeats 4000000 in
set_option maxRecDepth 20000 in
theorem w_X8_ahead_138 {X : qB} {N : Nat} (hX : qOk X cX8_ahead RX8 8 (some .int) wsX8_ahead 2 44) {r : Int} {nu : qM} (hE : xr X = some (.int (iZ r)) ∧ (in32 r → xΦ X) ∧ xμ X = nu) {k41 : (Nat → Int → Int → Int → Int → Int → qM → Option (Int × qM))} (hk41 : ∀ (x0 : Nat) (x2 : Int) (x3 : Int) (x4 : Int) (x5 : Int) (x6 : Int) (m0 : qM), gK (xG X) x0 = 9 → in32 x2 → in32 x3 → in32 x4 → in32 x5 → in32 x6 → qR (xG X) m0 → k41 x0 x2 x3 x4 x5 x6 m0 = some (r, nu) → qN X 8 41 [(0, .ref x0), (2, .int (iZ x2)), (3, .int (iZ x3)), (4, .int (iZ x4)), (5, .int (iZ x5)), (6, .int (iZ x6))] [] m0)
    {x0 : Nat} {x2 : Int} {x3 : Int} {x4 : Int} {x5 : Int} {x6 : Int} (k_x0 : gK (xG X) x0 = 9) (r_x2 : in32 x2) (r_x3 : in32 x3) (r_x4 : in32 x4) (r_x5 : in32 x5) (r_x6 : in32 x6) {m0 : qM} (hR_m0 : qR (xG X) m0)
    (h : f_X8_ahead_138 N (xG X) k41 x0 x2 x3 x4 x5 x6 m0 = some (r, nu)) : qN X 8 138 [(0, .ref x0), (2, .int (iZ x2)), (3, .int (iZ x3)), (4, .int (iZ x4)), (5, .int (iZ x5)), (6, .int (iZ x6))] [] m0 := by
  have hT := hX.T
  unfold f_X8_ahead_138 at h
  obtain ⟨v1, e_v1, r_v1, h⟩ := ckI_e h
  refine qn_iinc hX (pc := 138) (ls' := [(6, .int (iZ v1)), (0, .ref x0), (2, .int (iZ x2)), (3, .int (iZ x3)), (4, .int (iZ x4)), (5, .int (iZ x5))]) dX8_ahead_138 5 rfl e_v1 rfl rfl ?_
  refine qn_goto hX (pc := 141) 41 dX8_ahead_141 (by decide) ?_
  refine qn_sub (ls' := [(0, .ref x0), (2, .int (iZ x2)), (3, .int (iZ x3)), (4, .int (iZ x4)), (5, .int (iZ x5)), (6, .int (iZ v1))]) [1, 2, 3, 4, 5, 0] rfl ?_
  exact hk41 x0 x2 x3 x4 x5 v1 m0 k_x0 r_x2 r_x3 r_x4 r_x5 r_v1 hR_m0 h
set_option maxHeartbeats 4000000 in
set_option maxRecDepth 20000 in
theorem w_X8_ahead_119 {X : qB} {N : Nat} (hX : qOk X cX8_ahead RX8 8 (some .int) wsX8_ahead 2 44) {r : Int} {nu : qM} (hE : xr X = some (.int (iZ r)) ∧ (in32 r → xΦ X) ∧ xμ X = nu) {k41 : (Nat → Int → Int → Int → Int → Int → qM → Option (Int × qM))} (hk41 : ∀ (x0 : Nat) (x2 : Int) (x3 : Int) (x4 : Int) (x5 : Int) (x6 : Int) (m0 : qM), gK (xG X) x0 = 9 → in32 x2 → in32 x3 → in32 x4 → in32 x5 → in32 x6 → qR (xG X) m0 → k41 x0 x2 x3 x4 x5 x6 m0 = some (r, nu) → qN X 8 41 [(0, .ref x0), (2, .int (iZ x2)), (3, .int (iZ x3)), (4, .int (iZ x4)), (5, .int (iZ x5)), (6, .int (iZ x6))] [] m0)
    {x0 : Nat} {x2 : Int} {x3 : Int} {x4 : Int} {x5 : Int} {x6 : Int} {s0 : Int} (k_x0 : gK (xG X) x0 = 9) (r_x2 : in32 x2) (r_x3 : in32 x3) (r_x4 : in32 x4) (r_x5 : in32 x5) (r_x6 : in32 x6) (b_s0 : in01 s0) {m0 : qM} (hR_m0 : qR (xG X) m0)
    (h : f_X8_ahead_119 N (xG X) k41 x0 x2 x3 x4 x5 x6 s0 m0 = some (r, nu)) : qN X 8 119 [(0, .ref x0), (2, .int (iZ x2)), (3, .int (iZ x3)), (4, .int (iZ x4)), (5, .int (iZ x5)), (6, .int (iZ x6))] [.int (iZ s0)] m0 := by
  have hT := hX.T
  unfold f_X8_ahead_119 at h
  refine qn_istore hX (pc := 119) (ls' := [(7, .int (iZ s0)), (0, .ref x0), (2, .int (iZ x2)), (3, .int (iZ x3)), (4, .int (iZ x4)), (5, .int (iZ x5)), (6, .int (iZ x6))]) dX8_ahead_119 rfl rfl ?_
  refine qn_iload hX (pc := 121) dX8_ahead_121 0 rfl ?_
  refine qn_if_eq hX (pc := 123) b_s0.i 138 dX8_ahead_123 (by decide) (fun c1 => ?_) (fun c1 => ?_)
  · have h := ite_t h c1
    refine qn_sub (ls' := [(0, .ref x0), (2, .int (iZ x2)), (3, .int (iZ x3)), (4, .int (iZ x4)), (5, .int (iZ x5)), (6, .int (iZ x6))]) [1, 2, 3, 4, 5, 6] rfl ?_
    exact w_X8_ahead_138 hX hE hk41 k_x0 r_x2 r_x3 r_x4 r_x5 r_x6 hR_m0 h
  · have h := ite_f h c1
    refine qn_iload hX (pc := 126) dX8_ahead_126 5 rfl ?_
    refine qn_aload_n hX (pc := 128) dX8_ahead_128 1 rfl rfl ?_
    refine qn_iload hX (pc := 129) dX8_ahead_129 6 rfl ?_
    refine qn_iconst hX (pc := 131) dX8_ahead_131 ?_
    obtain ⟨v3, m2, e_m2, h⟩ := kb2_e h
    refine qn_callVi hX (pc := 132) [.int (iZ x6), .int (iZ 4)] [.int (iZ 4), .int (iZ x6)] 2 dX8_ahead_132 gX8_ahead_X8_ofOrder rfl dd_X8_ofOrder ⟨rfl, rfl⟩ rfl rfl (by decide) k_x0 rfl rfl hR_m0 (k_X8_ofOrder (xl X) hT k_x0 r_x6 (by decide) e_m2) (fun r_v3 hR_m2 => ?_)
    obtain ⟨v4, e_v4, r_v4, h⟩ := ckI_e h
    refine qn_iadd hX (pc := 135) dX8_ahead_135 e_v4 ?_
    refine qn_istore hX (pc := 136) (ls' := [(5, .int (iZ v4)), (7, .int (iZ s0)), (0, .ref x0), (2, .int (iZ x2)), (3, .int (iZ x3)), (4, .int (iZ x4)), (6, .int (iZ x6))]) dX8_ahead_136 rfl rfl ?_
    refine qn_sub (ls' := [(0, .ref x0), (2, .int (iZ x2)), (3, .int (iZ x3)), (4, .int (iZ x4)), (5, .int (iZ v4)), (6, .int (iZ x6))]) [2, 3, 4, 5, 0, 6] rfl ?_
    exact w_X8_ahead_138 hX hE hk41 k_x0 r_x2 r_x3 r_x4 r_v4 r_x6 hR_m2 h
set_option maxHeartbeats 4000000 in
set_option maxRecDepth 20000 in
theorem w_X8_ahead_97 {X : qB} {N : Nat} (hX : qOk X cX8_ahead RX8 8 (some .int) wsX8_ahead 2 44) {r : Int} {nu : qM} (hE : xr X = some (.int (iZ r)) ∧ (in32 r → xΦ X) ∧ xμ X = nu) {k41 : (Nat → Int → Int → Int → Int → Int → qM → Option (Int × qM))} (hk41 : ∀ (x0 : Nat) (x2 : Int) (x3 : Int) (x4 : Int) (x5 : Int) (x6 : Int) (m0 : qM), gK (xG X) x0 = 9 → in32 x2 → in32 x3 → in32 x4 → in32 x5 → in32 x6 → qR (xG X) m0 → k41 x0 x2 x3 x4 x5 x6 m0 = some (r, nu) → qN X 8 41 [(0, .ref x0), (2, .int (iZ x2)), (3, .int (iZ x3)), (4, .int (iZ x4)), (5, .int (iZ x5)), (6, .int (iZ x6))] [] m0)
    {x0 : Nat} {x2 : Int} {x3 : Int} {x4 : Int} {x5 : Int} {x6 : Int} (k_x0 : gK (xG X) x0 = 9) (r_x2 : in32 x2) (r_x3 : in32 x3) (r_x4 : in32 x4) (r_x5 : in32 x5) (r_x6 : in32 x6) {m0 : qM} (hR_m0 : qR (xG X) m0)
    (h : f_X8_ahead_97 N (xG X) k41 x0 x2 x3 x4 x5 x6 m0 = some (r, nu)) : qN X 8 97 [(0, .ref x0), (2, .int (iZ x2)), (3, .int (iZ x3)), (4, .int (iZ x4)), (5, .int (iZ x5)), (6, .int (iZ x6))] [] m0 := by
  have hT := hX.T
  unfold f_X8_ahead_97 at h
  refine qn_iconst hX (pc := 97) dX8_ahead_97 ?_
  refine qn_goto hX (pc := 98) 119 dX8_ahead_98 (by decide) ?_
  refine qn_sub (ls' := [(0, .ref x0), (2, .int (iZ x2)), (3, .int (iZ x3)), (4, .int (iZ x4)), (5, .int (iZ x5)), (6, .int (iZ x6))]) [0, 1, 2, 3, 4, 5] rfl ?_
  exact w_X8_ahead_119 hX hE hk41 k_x0 r_x2 r_x3 r_x4 r_x5 r_x6 (by decide) hR_m0 h
set_option maxHeartbeats 4000000 in
set_option maxRecDepth 20000 in
theorem w_X8_ahead_41 {X : qB} {N : Nat} (hX : qOk X cX8_ahead RX8 8 (some .int) wsX8_ahead 2 44) {r : Int} {nu : qM} (hE : xr X = some (.int (iZ r)) ∧ (in32 r → xΦ X) ∧ xμ X = nu) {k41 : (Nat → Int → Int → Int → Int → Int → qM → Option (Int × qM))} (hk41 : ∀ (x0 : Nat) (x2 : Int) (x3 : Int) (x4 : Int) (x5 : Int) (x6 : Int) (m0 : qM), gK (xG X) x0 = 9 → in32 x2 → in32 x3 → in32 x4 → in32 x5 → in32 x6 → qR (xG X) m0 → k41 x0 x2 x3 x4 x5 x6 m0 = some (r, nu) → qN X 8 41 [(0, .ref x0), (2, .int (iZ x2)), (3, .int (iZ x3)), (4, .int (iZ x4)), (5, .int (iZ x5)), (6, .int (iZ x6))] [] m0)
    {x0 : Nat} {x2 : Int} {x3 : Int} {x4 : Int} {x5 : Int} {x6 : Int} (k_x0 : gK (xG X) x0 = 9) (r_x2 : in32 x2) (r_x3 : in32 x3) (r_x4 : in32 x4) (r_x5 : in32 x5) (r_x6 : in32 x6) {m0 : qM} (hR_m0 : qR (xG X) m0)
    (h : f_X8_ahead_41 N (xG X) k41 x0 x2 x3 x4 x5 x6 m0 = some (r, nu)) : qN X 8 41 [(0, .ref x0), (2, .int (iZ x2)), (3, .int (iZ x3)), (4, .int (iZ x4)), (5, .int (iZ x5)), (6, .int (iZ x6))] [] m0 := by
  have hT := hX.T
  unfold f_X8_ahead_41 at h
  refine qn_iload hX (pc := 41) dX8_ahead_41 5 rfl ?_
  refine qn_aload_n hX (pc := 43) dX8_ahead_43 0 rfl rfl ?_
  refine qn_getR hX (pc := 44) fd_X8_ahead_7 dX8_ahead_44 k_x0 ?_
  refine qn_iconst hX (pc := 47) dX8_ahead_47 ?_
  refine qn_iald hX (pc := 48) (v := gA m0 (gR (xG X) 800 x0) 5) 684 dX8_ahead_48 (qr_800 hT k_x0) (by decide) (by decide) rfl ?_
  refine qn_icmp_ge hX (pc := 49) r_x6 (hR_m0.a (n := 684) _ (qr_800 hT k_x0) (by decide)) 144 dX8_ahead_49 (by decide) (fun c1 => ?_) (fun c1 => ?_)
  · have h := ite_f h c1
    refine qn_iload hX (pc := 144) dX8_ahead_144 4 rfl ?_
    exact qn_iret hX (pc := 146) dX8_ahead_146 hE hR_m0 r_x5 (Option.some.inj h)
  · have h := ite_t h c1
    refine qn_aload_n hX (pc := 52) dX8_ahead_52 0 rfl rfl ?_
    refine qn_iload hX (pc := 53) dX8_ahead_53 5 rfl ?_
    refine qn_iconst hX (pc := 55) dX8_ahead_55 ?_
    obtain ⟨v3, m2, e_m2, h⟩ := kb2_e h
    refine qn_callVi hX (pc := 56) [.int (iZ x6), .int (iZ 2)] [.int (iZ 2), .int (iZ x6)] 2 dX8_ahead_56 gX8_ahead_X8_ofOrder rfl dd_X8_ofOrder ⟨rfl, rfl⟩ rfl rfl (by decide) k_x0 rfl rfl hR_m0 (k_X8_ofOrder (xl X) hT k_x0 r_x6 (by decide) e_m2) (fun r_v3 hR_m2 => ?_)
    refine qn_iload hX (pc := 59) dX8_ahead_59 3 rfl ?_
    refine qn_icmp_eq hX (pc := 61) r_v3 r_x4 67 dX8_ahead_61 (by decide) (fun c4 => ?_) (fun c4 => ?_)
    · have h := ite_t h c4
      refine qn_iload_n hX (pc := 67) dX8_ahead_67 1 rfl rfl ?_
      refine qn_if_ne hX (pc := 68) r_x2 101 dX8_ahead_68 (by decide) (fun c5 => ?_) (fun c5 => ?_)
      · have h := ite_f h c5
        refine qn_iload hX (pc := 101) dX8_ahead_101 3 rfl ?_
        refine qn_aload_n hX (pc := 103) dX8_ahead_103 0 rfl rfl ?_
        refine qn_iload hX (pc := 104) dX8_ahead_104 5 rfl ?_
        refine qn_iconst hX (pc := 106) dX8_ahead_106 ?_
        obtain ⟨v7, m6, e_m6, h⟩ := kb2_e h
        refine qn_callVi hX (pc := 107) [.int (iZ x6), .int (iZ 3)] [.int (iZ 3), .int (iZ x6)] 2 dX8_ahead_107 gX8_ahead_X8_ofOrder rfl dd_X8_ofOrder ⟨rfl, rfl⟩ rfl rfl (by decide) k_x0 rfl rfl hR_m2 (k_X8_ofOrder (xl X) hT k_x0 r_x6 (by decide) e_m6) (fun r_v7 hR_m6 => ?_)
        refine qn_aload_n hX (pc := 110) dX8_ahead_110 0 rfl rfl ?_
        refine qn_iload_n hX (pc := 111) dX8_ahead_111 2 rfl rfl ?_
        refine qn_iconst hX (pc := 112) dX8_ahead_112 ?_
        obtain ⟨v9, m8, e_m8, h⟩ := kb2_e h
        refine qn_callVi hX (pc := 113) [.int (iZ x3), .int (iZ 3)] [.int (iZ 3), .int (iZ x3)] 2 dX8_ahead_113 gX8_ahead_X8_ofOrder rfl dd_X8_ofOrder ⟨rfl, rfl⟩ rfl rfl (by decide) k_x0 rfl rfl hR_m6 (k_X8_ofOrder (xl X) hT k_x0 r_x3 (by decide) e_m8) (fun r_v9 hR_m8 => ?_)
        obtain ⟨v11, m10, e_m10, h⟩ := kb2_e h
        refine qn_callSi hX (pc := 116) [.int (iZ x4), .int (iZ v7), .int (iZ v9)] [.int (iZ v9), .int (iZ v7), .int (iZ x4)] 3 dX8_ahead_116 gX8_ahead_X8_isBetter rfl dd_X8_isBetter ⟨rfl, rfl⟩ rfl rfl rfl hR_m8 (k_X8_isBetter (xl X) hT r_x4 r_v7 r_v9 e_m10) (fun r_v11 hR_m10 => ?_)
        refine qn_sub (ls' := [(0, .ref x0), (2, .int (iZ x2)), (3, .int (iZ x3)), (4, .int (iZ x4)), (5, .int (iZ x5)), (6, .int (iZ x6))]) [0, 1, 2, 3, 4, 5] rfl ?_
        exact w_X8_ahead_119 hX hE hk41 k_x0 r_x2 r_x3 r_x4 r_x5 r_x6 r_v11 hR_m10 h
      · have h := ite_t h c5
        refine qn_iload hX (pc := 71) dX8_ahead_71 5 rfl ?_
        refine qn_iload_n hX (pc := 73) dX8_ahead_73 2 rfl rfl ?_
        refine qn_icmp_ge hX (pc := 74) r_x6 r_x3 97 dX8_ahead_74 (by decide) (fun c12 => ?_) (fun c12 => ?_)
        · have h := ite_f h c12
          refine qn_sub (ls' := [(0, .ref x0), (2, .int (iZ x2)), (3, .int (iZ x3)), (4, .int (iZ x4)), (5, .int (iZ x5)), (6, .int (iZ x6))]) [0, 1, 2, 3, 4, 5] rfl ?_
          exact w_X8_ahead_97 hX hE hk41 k_x0 r_x2 r_x3 r_x4 r_x5 r_x6 hR_m2 h
        · have h := ite_t h c12
          refine qn_aload_n hX (pc := 77) dX8_ahead_77 0 rfl rfl ?_
          refine qn_iload hX (pc := 78) dX8_ahead_78 5 rfl ?_
          refine qn_iconst hX (pc := 80) dX8_ahead_80 ?_
          obtain ⟨v14, m13, e_m13, h⟩ := kb2_e h
          refine qn_callVi hX (pc := 81) [.int (iZ x6), .int (iZ 3)] [.int (iZ 3), .int (iZ x6)] 2 dX8_ahead_81 gX8_ahead_X8_ofOrder rfl dd_X8_ofOrder ⟨rfl, rfl⟩ rfl rfl (by decide) k_x0 rfl rfl hR_m2 (k_X8_ofOrder (xl X) hT k_x0 r_x6 (by decide) e_m13) (fun r_v14 hR_m13 => ?_)
          refine qn_aload_n hX (pc := 84) dX8_ahead_84 0 rfl rfl ?_
          refine qn_iload_n hX (pc := 85) dX8_ahead_85 2 rfl rfl ?_
          refine qn_iconst hX (pc := 86) dX8_ahead_86 ?_
          obtain ⟨v16, m15, e_m15, h⟩ := kb2_e h
          refine qn_callVi hX (pc := 87) [.int (iZ x3), .int (iZ 3)] [.int (iZ 3), .int (iZ x3)] 2 dX8_ahead_87 gX8_ahead_X8_ofOrder rfl dd_X8_ofOrder ⟨rfl, rfl⟩ rfl rfl (by decide) k_x0 rfl rfl hR_m13 (k_X8_ofOrder (xl X) hT k_x0 r_x3 (by decide) e_m15) (fun r_v16 hR_m15 => ?_)
          refine qn_icmp_ne hX (pc := 90) r_v14 r_v16 97 dX8_ahead_90 (by decide) (fun c17 => ?_) (fun c17 => ?_)
          · have h := ite_f h c17
            refine qn_sub (ls' := [(0, .ref x0), (2, .int (iZ x2)), (3, .int (iZ x3)), (4, .int (iZ x4)), (5, .int (iZ x5)), (6, .int (iZ x6))]) [0, 1, 2, 3, 4, 5] rfl ?_
            exact w_X8_ahead_97 hX hE hk41 k_x0 r_x2 r_x3 r_x4 r_x5 r_x6 hR_m15 h
          · have h := ite_t h c17
            refine qn_iconst hX (pc := 93) dX8_ahead_93 ?_
            refine qn_goto hX (pc := 94) 119 dX8_ahead_94 (by decide) ?_
            refine qn_sub (ls' := [(0, .ref x0), (2, .int (iZ x2)), (3, .int (iZ x3)), (4, .int (iZ x4)), (5, .int (iZ x5)), (6, .int (iZ x6))]) [0, 1, 2, 3, 4, 5] rfl ?_
            exact w_X8_ahead_119 hX hE hk41 k_x0 r_x2 r_x3 r_x4 r_x5 r_x6 (by decide) hR_m15 h
    · have h := ite_f h c4
      refine qn_goto hX (pc := 64) 138 dX8_ahead_64 (by decide) ?_
      refine qn_sub (ls' := [(0, .ref x0), (2, .int (iZ x2)), (3, .int (iZ x3)), (4, .int (iZ x4)), (5, .int (iZ x5)), (6, .int (iZ x6))]) [0, 1, 2, 3, 4, 5] rfl ?_
      exact w_X8_ahead_138 hX hE hk41 k_x0 r_x2 r_x3 r_x4 r_x5 r_x6 hR_m2 h
set_option maxHeartbeats 4000000 in
set_option maxRecDepth 20000 in
theorem w_X8_ahead_L41 {X : qB} {N : Nat} (hX : qOk X cX8_ahead RX8 8 (some .int) wsX8_ahead 2 44) {r : Int} {nu : qM} (hE : xr X = some (.int (iZ r)) ∧ (in32 r → xΦ X) ∧ xμ X = nu) 
    {x0 : Nat} {x2 : Int} {x3 : Int} {x4 : Int} {x5 : Int} {x6 : Int} (k_x0 : gK (xG X) x0 = 9) (r_x2 : in32 x2) (r_x3 : in32 x3) (r_x4 : in32 x4) (r_x5 : in32 x5) (r_x6 : in32 x6) {m0 : qM} (hR_m0 : qR (xG X) m0)
    (h : f_X8_ahead_L41 N (xG X)  x0 x2 x3 x4 x5 x6 m0 = some (r, nu)) : qN X 8 41 [(0, .ref x0), (2, .int (iZ x2)), (3, .int (iZ x3)), (4, .int (iZ x4)), (5, .int (iZ x5)), (6, .int (iZ x6))] [] m0 := by
  unfold f_X8_ahead_L41 at h
  exact qLoop_w (σ := Nat × Int × Int × Int × Int × Int × qM) (P := fun p => gK (xG X) p.1 = 9 ∧ in32 p.2.1 ∧ in32 p.2.2.1 ∧ in32 p.2.2.2.1 ∧ in32 p.2.2.2.2.1 ∧ in32 p.2.2.2.2.2.1 ∧ qR (xG X) p.2.2.2.2.2.2) (Q := fun p => qN X 8 41 [(0, .ref p.1), (2, .int (iZ p.2.1)), (3, .int (iZ p.2.2.1)), (4, .int (iZ p.2.2.2.1)), (5, .int (iZ p.2.2.2.2.1)), (6, .int (iZ p.2.2.2.2.2.1))] [] p.2.2.2.2.2.2) (fun k hrec p hp hh => w_X8_ahead_41 hX hE (fun x0 x2 x3 x4 x5 x6 m0 q0 q1 q2 q3 q4 q5 hRm hh => hrec (x0, x2, x3, x4, x5, x6, m0) ⟨q0, q1, q2, q3, q4, q5, hRm⟩ hh) hp.1 hp.2.1 hp.2.2.1 hp.2.2.2.1 hp.2.2.2.2.1 hp.2.2.2.2.2.1 hp.2.2.2.2.2.2 hh) N (x0, x2, x3, x4, x5, x6, m0) ⟨k_x0, r_x2, r_x3, r_x4, r_x5, r_x6, hR_m0⟩ h
set_option maxHeartbeats 4000000 in
set_option maxRecDepth 20000 in
theorem w_X8_ahead {X : qB} {N : Nat} (hX : qOk X cX8_ahead RX8 8 (some .int) wsX8_ahead 2 44) {r : Int} {nu : qM} (hE : xr X = some (.int (iZ r)) ∧ (in32 r → xΦ X) ∧ xμ X = nu) 
    {x0 : Nat} {x1 : Int} {x2 : Int} (k_x0 : gK (xG X) x0 = 9) (r_x1 : in32 x1) (r_x2 : in32 x2) {m0 : qM} (hR_m0 : qR (xG X) m0)
    (h : f_X8_ahead N (xG X)  x0 x1 x2 m0 = some (r, nu)) : qN X 8 0 [(0, .ref x0), (1, .int (iZ x1)), (2, .int (iZ x2))] [] m0 := by
  have hT := hX.T
  unfold f_X8_ahead at h
  refine qn_aload_n hX (pc := 0) dX8_ahead_0 0 rfl rfl ?_
  refine qn_iconst hX (pc := 1) dX8_ahead_1 ?_
  obtain ⟨m1, e_m1, h⟩ := kp_e h
  refine qn_putI hX (pc := 2) fp_X8_ahead_45 dX8_ahead_2 k_x0 hR_m0 (show in32 0 by decide) e_m1 (fun hR_m1 => ?_) 
  refine qn_aload_n hX (pc := 5) dX8_ahead_5 0 rfl rfl ?_
  refine qn_iload_n hX (pc := 6) dX8_ahead_6 1 rfl rfl ?_
  obtain ⟨v3, m2, e_m2, h⟩ := kb2_e h
  refine qn_callVi hX (pc := 7) [.int (iZ x1)] [.int (iZ x1)] 1 dX8_ahead_7 gX8_ahead_X8_placeOf rfl dd_X8_placeOf ⟨rfl, rfl⟩ rfl rfl (by decide) k_x0 rfl rfl hR_m1 (k_X8_placeOf (xl X) hT k_x0 r_x1 e_m2) (fun r_v3 hR_m2 => ?_)
  refine qn_istore_n hX (pc := 10) (ls' := [(3, .int (iZ v3)), (0, .ref x0), (1, .int (iZ x1)), (2, .int (iZ x2))]) dX8_ahead_10 rfl rfl rfl ?_
  refine qn_iload_n hX (pc := 11) dX8_ahead_11 0 rfl rfl ?_
  refine qn_if_lt hX (pc := 12) r_v3 25 dX8_ahead_12 (by decide) (fun c4 => ?_) (fun c4 => ?_)
  · have h := ite_t h c4
    refine qn_iconst hX (pc := 25) dX8_ahead_25 ?_
    exact qn_iret hX (pc := 26) dX8_ahead_26 hE hR_m2 (by decide) (Option.some.inj h)
  · have h := ite_f h c4
    refine qn_iload_n hX (pc := 15) dX8_ahead_15 3 rfl rfl ?_
    refine qn_i2l hX (pc := 16) r_x2 dX8_ahead_16 ?_
    refine qn_lconst hX (pc := 17) 0 dX8_ahead_17 (by decide) ?_
    refine qn_lconst hX (pc := 18) 1 dX8_ahead_18 (by decide) ?_
    obtain ⟨v6, m5, e_m5, h⟩ := kb2_e h
    refine qn_callSi hX (pc := 19) [.long (lZ x2), .long (lZ 0), .long (lZ 1)] [.long (lZ 1), .long (lZ 0), .long (lZ x2)] 3 dX8_ahead_19 gX8_ahead_X8_within rfl dd_X8_within ⟨rfl, rfl⟩ rfl rfl rfl hR_m2 (k_X8_within (xl X) hT (in32.l r_x2) (by decide) (by decide) e_m5) (fun r_v6 hR_m5 => ?_)
    refine qn_if_ne hX (pc := 22) r_v6.i 27 dX8_ahead_22 (by decide) (fun c7 => ?_) (fun c7 => ?_)
    · have h := ite_f h c7
      refine qn_aload_n hX (pc := 27) dX8_ahead_27 1 rfl rfl ?_
      refine qn_iload_n hX (pc := 28) dX8_ahead_28 0 rfl rfl ?_
      refine qn_iconst hX (pc := 29) dX8_ahead_29 ?_
      obtain ⟨v9, m8, e_m8, h⟩ := kb2_e h
      refine qn_callVi hX (pc := 30) [.int (iZ v3), .int (iZ 2)] [.int (iZ 2), .int (iZ v3)] 2 dX8_ahead_30 gX8_ahead_X8_ofOrder rfl dd_X8_ofOrder ⟨rfl, rfl⟩ rfl rfl (by decide) k_x0 rfl rfl hR_m5 (k_X8_ofOrder (xl X) hT k_x0 r_v3 (by decide) e_m8) (fun r_v9 hR_m8 => ?_)
      refine qn_istore hX (pc := 33) (ls' := [(4, .int (iZ v9)), (3, .int (iZ v3)), (0, .ref x0), (1, .int (iZ x1)), (2, .int (iZ x2))]) dX8_ahead_33 rfl rfl ?_
      refine qn_iconst hX (pc := 35) dX8_ahead_35 ?_
      refine qn_istore hX (pc := 36) (ls' := [(5, .int (iZ 0)), (4, .int (iZ v9)), (3, .int (iZ v3)), (0, .ref x0), (1, .int (iZ x1)), (2, .int (iZ x2))]) dX8_ahead_36 rfl rfl ?_
      refine qn_iconst hX (pc := 38) dX8_ahead_38 ?_
      refine qn_istore hX (pc := 39) (ls' := [(6, .int (iZ 0)), (5, .int (iZ 0)), (4, .int (iZ v9)), (3, .int (iZ v3)), (0, .ref x0), (1, .int (iZ x1)), (2, .int (iZ x2))]) dX8_ahead_39 rfl rfl ?_
      refine qn_sub (ls' := [(0, .ref x0), (2, .int (iZ x2)), (3, .int (iZ v3)), (4, .int (iZ v9)), (5, .int (iZ 0)), (6, .int (iZ 0))]) [4, 6, 3, 2, 1, 0] rfl ?_
      exact w_X8_ahead_L41 hX hE  k_x0 r_x2 r_v3 r_v9 (by decide) (by decide) hR_m8 h
    · have h := ite_t h c7
      refine qn_iconst hX (pc := 25) dX8_ahead_25 ?_
      exact qn_iret hX (pc := 26) dX8_ahead_26 hE hR_m5 (by decide) (Option.some.inj h)
theorem k_X8_ahead (l : Launch) {G : qG} (hT : qT G) {N : Nat} {x0 : Nat} {x1 : Int} {x2 : Int} (k_x0 : gK G x0 = 9) (r_x1 : in32 x1) (r_x2 : in32 x2) {m0 : qM} {r : Int} {nu : qM} (h : f_X8_ahead N G x0 x1 x2 m0 = some (r, nu)) : qC l yX8_ahead wsX8_ahead 2 44 G [.ref x0, .int (iZ x1), .int (iZ x2)] m0 (some (.int (iZ r))) (in32 r) nu := by
  refine qn_start (hy := by decide) hT (hw := rfl) (hn := Nat.le_of_ble_eq_true rfl) ?_
  intro X h1 h2 h3 h4 hX hR
  subst h4
  exact w_X8_ahead hX ⟨h1, fun q => h2 ▸ q, h3⟩ k_x0 r_x1 r_x2 hR h
theorem dd_X8_ahead : yX8_ahead.cls = RX8 ∧ yX8_ahead.cls ≠ "java/lang/invoke/MethodHandle" ∧ yX8_ahead.cls ≠ "java/lang/invoke/VarHandle" ∧ (parseMethodDescriptor yX8_ahead.desc).map (fun d => d.parameters.length) = some 2 := by decide +kernel
-- ProRataMarketModel.bestOf
theorem hi_X8_bestOf_8 : ∀ w ∈ wsX80, w ∈ wsX8_bestOf := fun w h => List.mem_cons_of_mem _ (List.mem_append_right _ h)
theorem fd_X8_bestOf_7 : qFd RX8 wsX8_bestOf 7 8 0 1 800 := ⟨RX8, TX8, 32, _, rfl, hi_X8_bestOf_8, by decide, (by decide +kernel : Cond.fieldLink RX8 7 (TX8 0).1 (TX8 0).2.1 (TX8 0).2.2.1 ∈ wsX8_bestOf), rfl, rfl, by decide⟩
set_option maxHeartbeats 4000000 in
set_option maxRecDepth 20000 in
theorem w_X8_bestOf_52 {X : qB} {N : Nat} (hX : qOk X cX8_bestOf RX8 5 (some .int) wsX8_bestOf 1 22) {r : Int} {nu : qM} (hE : xr X = some (.int (iZ r)) ∧ (in32 r → xΦ X) ∧ xμ X = nu) {k4 : (Nat → Int → Int → Int → qM → Option (Int × qM))} (hk4 : ∀ (x0 : Nat) (x1 : Int) (x2 : Int) (x3 : Int) (m0 : qM), gK (xG X) x0 = 9 → in32 x1 → in32 x2 → in32 x3 → qR (xG X) m0 → k4 x0 x1 x2 x3 m0 = some (r, nu) → qN X 5 4 [(0, .ref x0), (1, .int (iZ x1)), (2, .int (iZ x2)), (3, .int (iZ x3))] [] m0)
    {x0 : Nat} {x1 : Int} {x2 : Int} {x3 : Int} (k_x0 : gK (xG X) x0 = 9) (r_x1 : in32 x1) (r_x2 : in32 x2) (r_x3 : in32 x3) {m0 : qM} (hR_m0 : qR (xG X) m0)
    (h : f_X8_bestOf_52 N (xG X) k4 x0 x1 x2 x3 m0 = some (r, nu)) : qN X 5 52 [(0, .ref x0), (1, .int (iZ x1)), (2, .int (iZ x2)), (3, .int (iZ x3))] [] m0 := by
  have hT := hX.T
  unfold f_X8_bestOf_52 at h
  obtain ⟨v1, e_v1, r_v1, h⟩ := ckI_e h
  refine qn_iinc hX (pc := 52) (ls' := [(3, .int (iZ v1)), (0, .ref x0), (1, .int (iZ x1)), (2, .int (iZ x2))]) dX8_bestOf_52 3 rfl e_v1 rfl rfl ?_
  refine qn_goto hX (pc := 55) 4 dX8_bestOf_55 (by decide) ?_
  refine qn_sub (ls' := [(0, .ref x0), (1, .int (iZ x1)), (2, .int (iZ x2)), (3, .int (iZ v1))]) [1, 2, 3, 0] rfl ?_
  exact hk4 x0 x1 x2 v1 m0 k_x0 r_x1 r_x2 r_v1 hR_m0 h
set_option maxHeartbeats 4000000 in
set_option maxRecDepth 20000 in
theorem w_X8_bestOf_49 {X : qB} {N : Nat} (hX : qOk X cX8_bestOf RX8 5 (some .int) wsX8_bestOf 1 22) {r : Int} {nu : qM} (hE : xr X = some (.int (iZ r)) ∧ (in32 r → xΦ X) ∧ xμ X = nu) {k4 : (Nat → Int → Int → Int → qM → Option (Int × qM))} (hk4 : ∀ (x0 : Nat) (x1 : Int) (x2 : Int) (x3 : Int) (m0 : qM), gK (xG X) x0 = 9 → in32 x1 → in32 x2 → in32 x3 → qR (xG X) m0 → k4 x0 x1 x2 x3 m0 = some (r, nu) → qN X 5 4 [(0, .ref x0), (1, .int (iZ x1)), (2, .int (iZ x2)), (3, .int (iZ x3))] [] m0)
    {x0 : Nat} {x1 : Int} {x3 : Int} {x4 : Int} (k_x0 : gK (xG X) x0 = 9) (r_x1 : in32 x1) (r_x3 : in32 x3) (r_x4 : in32 x4) {m0 : qM} (hR_m0 : qR (xG X) m0)
    (h : f_X8_bestOf_49 N (xG X) k4 x0 x1 x3 x4 m0 = some (r, nu)) : qN X 5 49 [(0, .ref x0), (1, .int (iZ x1)), (3, .int (iZ x3)), (4, .int (iZ x4))] [] m0 := by
  have hT := hX.T
  unfold f_X8_bestOf_49 at h
  refine qn_iload hX (pc := 49) dX8_bestOf_49 3 rfl ?_
  refine qn_istore_n hX (pc := 51) (ls' := [(2, .int (iZ x4)), (0, .ref x0), (1, .int (iZ x1)), (3, .int (iZ x3)), (4, .int (iZ x4))]) dX8_bestOf_51 rfl rfl rfl ?_
  refine qn_sub (ls' := [(0, .ref x0), (1, .int (iZ x1)), (2, .int (iZ x4)), (3, .int (iZ x3))]) [1, 2, 0, 3] rfl ?_
  exact w_X8_bestOf_52 hX hE hk4 k_x0 r_x1 r_x4 r_x3 hR_m0 h
set_option maxHeartbeats 4000000 in
set_option maxRecDepth 20000 in
theorem w_X8_bestOf_4 {X : qB} {N : Nat} (hX : qOk X cX8_bestOf RX8 5 (some .int) wsX8_bestOf 1 22) {r : Int} {nu : qM} (hE : xr X = some (.int (iZ r)) ∧ (in32 r → xΦ X) ∧ xμ X = nu) {k4 : (Nat → Int → Int → Int → qM → Option (Int × qM))} (hk4 : ∀ (x0 : Nat) (x1 : Int) (x2 : Int) (x3 : Int) (m0 : qM), gK (xG X) x0 = 9 → in32 x1 → in32 x2 → in32 x3 → qR (xG X) m0 → k4 x0 x1 x2 x3 m0 = some (r, nu) → qN X 5 4 [(0, .ref x0), (1, .int (iZ x1)), (2, .int (iZ x2)), (3, .int (iZ x3))] [] m0)
    {x0 : Nat} {x1 : Int} {x2 : Int} {x3 : Int} (k_x0 : gK (xG X) x0 = 9) (r_x1 : in32 x1) (r_x2 : in32 x2) (r_x3 : in32 x3) {m0 : qM} (hR_m0 : qR (xG X) m0)
    (h : f_X8_bestOf_4 N (xG X) k4 x0 x1 x2 x3 m0 = some (r, nu)) : qN X 5 4 [(0, .ref x0), (1, .int (iZ x1)), (2, .int (iZ x2)), (3, .int (iZ x3))] [] m0 := by
  have hT := hX.T
  unfold f_X8_bestOf_4 at h
  refine qn_iload_n hX (pc := 4) dX8_bestOf_4 3 rfl rfl ?_
  refine qn_aload_n hX (pc := 5) dX8_bestOf_5 0 rfl rfl ?_
  refine qn_getR hX (pc := 6) fd_X8_bestOf_7 dX8_bestOf_6 k_x0 ?_
  refine qn_iconst hX (pc := 9) dX8_bestOf_9 ?_
  refine qn_iald hX (pc := 10) (v := gA m0 (gR (xG X) 800 x0) 5) 684 dX8_bestOf_10 (qr_800 hT k_x0) (by decide) (by decide) rfl ?_
  refine qn_icmp_ge hX (pc := 11) r_x3 (hR_m0.a (n := 684) _ (qr_800 hT k_x0) (by decide)) 58 dX8_bestOf_11 (by decide) (fun c1 => ?_) (fun c1 => ?_)
  · have h := ite_f h c1
    refine qn_iload_n hX (pc := 58) dX8_bestOf_58 2 rfl rfl ?_
    exact qn_iret hX (pc := 59) dX8_bestOf_59 hE hR_m0 r_x2 (Option.some.inj h)
  · have h := ite_t h c1
    refine qn_aload_n hX (pc := 14) dX8_bestOf_14 0 rfl rfl ?_
    refine qn_iload_n hX (pc := 15) dX8_bestOf_15 3 rfl rfl ?_
    refine qn_iconst hX (pc := 16) dX8_bestOf_16 ?_
    obtain ⟨v3, m2, e_m2, h⟩ := kb2_e h
    refine qn_callVi hX (pc := 17) [.int (iZ x3), .int (iZ 2)] [.int (iZ 2), .int (iZ x3)] 2 dX8_bestOf_17 gX8_bestOf_X8_ofOrder rfl dd_X8_ofOrder ⟨rfl, rfl⟩ rfl rfl (by decide) k_x0 rfl rfl hR_m0 (k_X8_ofOrder (xl X) hT k_x0 r_x3 (by decide) e_m2) (fun r_v3 hR_m2 => ?_)
    refine qn_iload_n hX (pc := 20) dX8_bestOf_20 1 rfl rfl ?_
    refine qn_icmp_eq hX (pc := 21) r_v3 r_x1 27 dX8_bestOf_21 (by decide) (fun c4 => ?_) (fun c4 => ?_)
    · have h := ite_t h c4
      refine qn_aload_n hX (pc := 27) dX8_bestOf_27 0 rfl rfl ?_
      refine qn_iload_n hX (pc := 28) dX8_bestOf_28 3 rfl rfl ?_
      refine qn_iconst hX (pc := 29) dX8_bestOf_29 ?_
      obtain ⟨v6, m5, e_m5, h⟩ := kb2_e h
      refine qn_callVi hX (pc := 30) [.int (iZ x3), .int (iZ 3)] [.int (iZ 3), .int (iZ x3)] 2 dX8_bestOf_30 gX8_bestOf_X8_ofOrder rfl dd_X8_ofOrder ⟨rfl, rfl⟩ rfl rfl (by decide) k_x0 rfl rfl hR_m2 (k_X8_ofOrder (xl X) hT k_x0 r_x3 (by decide) e_m5) (fun r_v6 hR_m5 => ?_)
      refine qn_istore hX (pc := 33) (ls' := [(4, .int (iZ v6)), (0, .ref x0), (1, .int (iZ x1)), (2, .int (iZ x2)), (3, .int (iZ x3))]) dX8_bestOf_33 rfl rfl ?_
      refine qn_iload_n hX (pc := 35) dX8_bestOf_35 3 rfl rfl ?_
      refine qn_if_eq hX (pc := 36) r_x2 49 dX8_bestOf_36 (by decide) (fun c7 => ?_) (fun c7 => ?_)
      · have h := ite_t h c7
        refine qn_sub (ls' := [(0, .ref x0), (1, .int (iZ x1)), (3, .int (iZ x3)), (4, .int (iZ v6))]) [1, 2, 4, 0] rfl ?_
        exact w_X8_bestOf_49 hX hE hk4 k_x0 r_x1 r_x3 r_v6 hR_m5 h
      · have h := ite_f h c7
        refine qn_iload_n hX (pc := 39) dX8_bestOf_39 2 rfl rfl ?_
        refine qn_iload hX (pc := 40) dX8_bestOf_40 0 rfl ?_
        refine qn_iload_n hX (pc := 42) dX8_bestOf_42 3 rfl rfl ?_
        obtain ⟨v9, m8, e_m8, h⟩ := kb2_e h
        refine qn_callSi hX (pc := 43) [.int (iZ x1), .int (iZ v6), .int (iZ x2)] [.int (iZ x2), .int (iZ v6), .int (iZ x1)] 3 dX8_bestOf_43 gX8_bestOf_X8_isBetter rfl dd_X8_isBetter ⟨rfl, rfl⟩ rfl rfl rfl hR_m5 (k_X8_isBetter (xl X) hT r_x1 r_v6 r_x2 e_m8) (fun r_v9 hR_m8 => ?_)
        refine qn_if_eq hX (pc := 46) r_v9.i 52 dX8_bestOf_46 (by decide) (fun c10 => ?_) (fun c10 => ?_)
        · have h := ite_t h c10
          refine qn_sub (ls' := [(0, .ref x0), (1, .int (iZ x1)), (2, .int (iZ x2)), (3, .int (iZ x3))]) [1, 2, 3, 4] rfl ?_
          exact w_X8_bestOf_52 hX hE hk4 k_x0 r_x1 r_x2 r_x3 hR_m8 h
        · have h := ite_f h c10
          refine qn_sub (ls' := [(0, .ref x0), (1, .int (iZ x1)), (3, .int (iZ x3)), (4, .int (iZ v6))]) [1, 2, 4, 0] rfl ?_
          exact w_X8_bestOf_49 hX hE hk4 k_x0 r_x1 r_x3 r_v6 hR_m8 h
    · have h := ite_f h c4
      refine qn_goto hX (pc := 24) 52 dX8_bestOf_24 (by decide) ?_
      refine qn_sub (ls' := [(0, .ref x0), (1, .int (iZ x1)), (2, .int (iZ x2)), (3, .int (iZ x3))]) [0, 1, 2, 3] rfl ?_
      exact w_X8_bestOf_52 hX hE hk4 k_x0 r_x1 r_x2 r_x3 hR_m2 h
set_option maxHeartbeats 4000000 in
set_option maxRecDepth 20000 in
theorem w_X8_bestOf_L4 {X : qB} {N : Nat} (hX : qOk X cX8_bestOf RX8 5 (some .int) wsX8_bestOf 1 22) {r : Int} {nu : qM} (hE : xr X = some (.int (iZ r)) ∧ (in32 r → xΦ X) ∧ xμ X = nu) 
    {x0 : Nat} {x1 : Int} {x2 : Int} {x3 : Int} (k_x0 : gK (xG X) x0 = 9) (r_x1 : in32 x1) (r_x2 : in32 x2) (r_x3 : in32 x3) {m0 : qM} (hR_m0 : qR (xG X) m0)
    (h : f_X8_bestOf_L4 N (xG X)  x0 x1 x2 x3 m0 = some (r, nu)) : qN X 5 4 [(0, .ref x0), (1, .int (iZ x1)), (2, .int (iZ x2)), (3, .int (iZ x3))] [] m0 := by
  unfold f_X8_bestOf_L4 at h
  exact qLoop_w (σ := Nat × Int × Int × Int × qM) (P := fun p => gK (xG X) p.1 = 9 ∧ in32 p.2.1 ∧ in32 p.2.2.1 ∧ in32 p.2.2.2.1 ∧ qR (xG X) p.2.2.2.2) (Q := fun p => qN X 5 4 [(0, .ref p.1), (1, .int (iZ p.2.1)), (2, .int (iZ p.2.2.1)), (3, .int (iZ p.2.2.2.1))] [] p.2.2.2.2) (fun k hrec p hp hh => w_X8_bestOf_4 hX hE (fun x0 x1 x2 x3 m0 q0 q1 q2 q3 hRm hh => hrec (x0, x1, x2, x3, m0) ⟨q0, q1, q2, q3, hRm⟩ hh) hp.1 hp.2.1 hp.2.2.1 hp.2.2.2.1 hp.2.2.2.2 hh) N (x0, x1, x2, x3, m0) ⟨k_x0, r_x1, r_x2, r_x3, hR_m0⟩ h
set_option maxHeartbeats 4000000 in
set_option maxRecDepth 20000 in
theorem w_X8_bestOf {X : qB} {N : Nat} (hX : qOk X cX8_bestOf RX8 5 (some .int) wsX8_bestOf 1 22) {r : Int} {nu : qM} (hE : xr X = some (.int (iZ r)) ∧ (in32 r → xΦ X) ∧ xμ X = nu) 
    {x0 : Nat} {x1 : Int} (k_x0 : gK (xG X) x0 = 9) (r_x1 : in32 x1) {m0 : qM} (hR_m0 : qR (xG X) m0)
    (h : f_X8_bestOf N (xG X)  x0 x1 m0 = some (r, nu)) : qN X 5 0 [(0, .ref x0), (1, .int (iZ x1))] [] m0 := by
  have hT := hX.T
  unfold f_X8_bestOf at h
  refine qn_iconst hX (pc := 0) dX8_bestOf_0 ?_
  refine qn_istore_n hX (pc := 1) (ls' := [(2, .int (iZ 0)), (0, .ref x0), (1, .int (iZ x1))]) dX8_bestOf_1 rfl rfl rfl ?_
  refine qn_iconst hX (pc := 2) dX8_bestOf_2 ?_
  refine qn_istore_n hX (pc := 3) (ls' := [(3, .int (iZ 0)), (2, .int (iZ 0)), (0, .ref x0), (1, .int (iZ x1))]) dX8_bestOf_3 rfl rfl rfl ?_
  refine qn_sub (ls' := [(0, .ref x0), (1, .int (iZ x1)), (2, .int (iZ 0)), (3, .int (iZ 0))]) [2, 3, 1, 0] rfl ?_
  exact w_X8_bestOf_L4 hX hE  k_x0 r_x1 (by decide) (by decide) hR_m0 h
theorem k_X8_bestOf (l : Launch) {G : qG} (hT : qT G) {N : Nat} {x0 : Nat} {x1 : Int} (k_x0 : gK G x0 = 9) (r_x1 : in32 x1) {m0 : qM} {r : Int} {nu : qM} (h : f_X8_bestOf N G x0 x1 m0 = some (r, nu)) : qC l yX8_bestOf wsX8_bestOf 1 22 G [.ref x0, .int (iZ x1)] m0 (some (.int (iZ r))) (in32 r) nu := by
  refine qn_start (hy := by decide) hT (hw := rfl) (hn := Nat.le_of_ble_eq_true rfl) ?_
  intro X h1 h2 h3 h4 hX hR
  subst h4
  exact w_X8_bestOf hX ⟨h1, fun q => h2 ▸ q, h3⟩ k_x0 r_x1 hR h
theorem dd_X8_bestOf : yX8_bestOf.cls = RX8 ∧ yX8_bestOf.cls ≠ "java/lang/invoke/MethodHandle" ∧ yX8_bestOf.cls ≠ "java/lang/invoke/VarHandle" ∧ (parseMethodDescriptor yX8_bestOf.desc).map (fun d => d.parameters.length) = some 1 := by decide +kernel
-- ProRataMarketModel.lapses
theorem hi_X8_lapses_8 : ∀ w ∈ wsX80, w ∈ wsX8_lapses := fun w h => List.mem_cons_of_mem _ (List.mem_append_right _ h)
theorem fd_X8_lapses_7 : qFd RX8 wsX8_lapses 7 8 0 1 800 := ⟨RX8, TX8, 32, _, rfl, hi_X8_lapses_8, by decide, (by decide +kernel : Cond.fieldLink RX8 7 (TX8 0).1 (TX8 0).2.1 (TX8 0).2.2.1 ∈ wsX8_lapses), rfl, rfl, by decide⟩
set_option maxHeartbeats 4000000 in
set_option maxRecDepth 20000 in
theorem w_X8_lapses {X : qB} {N : Nat} (hX : qOk X cX8_lapses RX8 2 none wsX8_lapses 0 0) {r : qM} (hE : xr X = none ∧ (True → xΦ X) ∧ xμ X = r) 
    {x0 : Nat} {x1 : Int} (k_x0 : gK (xG X) x0 = 9) (r_x1 : in32 x1) {m0 : qM} (hR_m0 : qR (xG X) m0)
    (h : f_X8_lapses N (xG X)  x0 x1 m0 = some r) : qN X 2 0 [(0, .ref x0), (1, .int (iZ x1))] [] m0 := by
  have hT := hX.T
  unfold f_X8_lapses at h
  refine qn_aload_n hX (pc := 0) dX8_lapses_0 0 rfl rfl ?_
  refine qn_getR hX (pc := 1) fd_X8_lapses_7 dX8_lapses_1 k_x0 ?_
  refine qn_bipush hX (pc := 4) dX8_lapses_4 (by decide) ?_
  refine qn_iload_n hX (pc := 6) dX8_lapses_6 1 rfl rfl ?_
  obtain ⟨v1, e_v1, r_v1, h⟩ := ckI_e h
  refine qn_iadd hX (pc := 7) dX8_lapses_7 e_v1 ?_
  refine qn_iconst hX (pc := 8) dX8_lapses_8 ?_
  obtain ⟨m2, e_m2, b_m2, h⟩ := wrA_e h
  refine qn_iast hX (pc := 9) 684 dX8_lapses_9 (qr_800 hT k_x0) (by decide) b_m2 hR_m0 (by decide) e_m2 (fun hR_m2 => ?_) 
  refine qn_aload_n hX (pc := 10) dX8_lapses_10 0 rfl rfl ?_
  refine qn_getR hX (pc := 11) fd_X8_lapses_7 dX8_lapses_11 k_x0 ?_
  refine qn_bipush hX (pc := 14) dX8_lapses_14 (by decide) ?_
  refine qn_iload_n hX (pc := 16) dX8_lapses_16 1 rfl rfl ?_
  obtain ⟨v3, e_v3, r_v3, h⟩ := ckI_e h
  refine qn_iadd hX (pc := 17) dX8_lapses_17 e_v3 ?_
  refine qn_iconst hX (pc := 18) dX8_lapses_18 ?_
  obtain ⟨m4, e_m4, b_m4, h⟩ := wrA_e h
  refine qn_iast hX (pc := 19) 684 dX8_lapses_19 (qr_800 hT k_x0) (by decide) b_m4 hR_m2 (by decide) e_m4 (fun hR_m4 => ?_) 
  exact qn_vret hX (pc := 20) dX8_lapses_20 hE hR_m4 (Option.some.inj h)
theorem k_X8_lapses (l : Launch) {G : qG} (hT : qT G) {N : Nat} {x0 : Nat} {x1 : Int} (k_x0 : gK G x0 = 9) (r_x1 : in32 x1) {m0 : qM} {r : qM} (h : f_X8_lapses N G x0 x1 m0 = some r) : qC l yX8_lapses wsX8_lapses 0 0 G [.ref x0, .int (iZ x1)] m0 none True r := by
  refine qn_start (hy := by decide) hT (hw := rfl) (hn := Nat.le_of_ble_eq_true rfl) ?_
  intro X h1 h2 h3 h4 hX hR
  subst h4
  exact w_X8_lapses hX ⟨h1, fun q => h2 ▸ q, h3⟩ k_x0 r_x1 hR h
theorem dd_X8_lapses : yX8_lapses.cls = RX8 ∧ yX8_lapses.cls ≠ "java/lang/invoke/MethodHandle" ∧ yX8_lapses.cls ≠ "java/lang/invoke/VarHandle" ∧ (parseMethodDescriptor yX8_lapses.desc).map (fun d => d.parameters.length) = some 1 := by decide +kernel
-- ProRataMarketModel.calls
theorem hi_X8_calls_8 : ∀ w ∈ wsX80, w ∈ wsX8_calls := fun w h => List.mem_cons_of_mem _ (List.mem_append_right _ h)
theorem fd_X8_calls_7 : qFd RX8 wsX8_calls 7 8 0 1 800 := ⟨RX8, TX8, 32, _, rfl, hi_X8_calls_8, by decide, (by decide +kernel : Cond.fieldLink RX8 7 (TX8 0).1 (TX8 0).2.1 (TX8 0).2.2.1 ∈ wsX8_calls), rfl, rfl, by decide⟩
set_option maxHeartbeats 4000000 in
set_option maxRecDepth 20000 in
theorem w_X8_calls {X : qB} {N : Nat} (hX : qOk X cX8_calls RX8 1 (some .boolean) wsX8_calls 1 21) {r : Int} {nu : qM} (hE : xr X = some (.int (iZ r)) ∧ (in01 r → xΦ X) ∧ xμ X = nu) 
    {x0 : Nat} (k_x0 : gK (xG X) x0 = 9) {m0 : qM} (hR_m0 : qR (xG X) m0)
    (h : f_X8_calls N (xG X)  x0 m0 = some (r, nu)) : qN X 1 0 [(0, .ref x0)] [] m0 := by
  have hT := hX.T
  unfold f_X8_calls at h
  refine qn_aload_n hX (pc := 0) dX8_calls_0 0 rfl rfl ?_
  refine qn_getR hX (pc := 1) fd_X8_calls_7 dX8_calls_1 k_x0 ?_
  refine qn_iconst hX (pc := 4) dX8_calls_4 ?_
  refine qn_iald hX (pc := 5) (v := gA m0 (gR (xG X) 800 x0) 2) 684 dX8_calls_5 (qr_800 hT k_x0) (by decide) (by decide) rfl ?_
  refine qn_iconst hX (pc := 6) dX8_calls_6 ?_
  refine qn_icmp_ne hX (pc := 7) (hR_m0.a (n := 684) _ (qr_800 hT k_x0) (by decide)) (by decide) 12 dX8_calls_7 (by decide) (fun c1 => ?_) (fun c1 => ?_)
  · have h := ite_f h c1
    refine qn_aload_n hX (pc := 12) dX8_calls_12 0 rfl rfl ?_
    refine qn_getR hX (pc := 13) fd_X8_calls_7 dX8_calls_13 k_x0 ?_
    refine qn_iconst hX (pc := 16) dX8_calls_16 ?_
    refine qn_iconst hX (pc := 17) dX8_calls_17 ?_
    obtain ⟨m2, e_m2, h⟩ := kp_e h
    refine qn_iast hX (pc := 18) 684 dX8_calls_18 (qr_800 hT k_x0) (by decide) (by decide) hR_m0 (by decide) e_m2 (fun hR_m2 => ?_) 
    refine qn_aload_n hX (pc := 19) dX8_calls_19 0 rfl rfl ?_
    refine qn_iconst hX (pc := 20) dX8_calls_20 ?_
    obtain ⟨m3, e_m3, h⟩ := kb_e h
    refine qn_callVv hX (pc := 21) [.int (iZ 0)] [.int (iZ 0)] 1 dX8_calls_21 gX8_calls_X8_lapses rfl dd_X8_lapses ⟨rfl, rfl⟩ rfl rfl (by decide) k_x0 rfl rfl hR_m2 (k_X8_lapses (xl X) hT k_x0 (by decide) e_m3) (fun r_v4 hR_m3 => ?_)
    refine qn_aload_n hX (pc := 24) dX8_calls_24 0 rfl rfl ?_
    refine qn_iconst hX (pc := 25) dX8_calls_25 ?_
    obtain ⟨m5, e_m5, h⟩ := kb_e h
    refine qn_callVv hX (pc := 26) [.int (iZ 1)] [.int (iZ 1)] 1 dX8_calls_26 gX8_calls_X8_lapses rfl dd_X8_lapses ⟨rfl, rfl⟩ rfl rfl (by decide) k_x0 rfl rfl hR_m3 (k_X8_lapses (xl X) hT k_x0 (by decide) e_m5) (fun r_v6 hR_m5 => ?_)
    refine qn_iconst hX (pc := 29) dX8_calls_29 ?_
    exact qn_zret hX (pc := 30) dX8_calls_30 hE hR_m5 (by decide) (Option.some.inj h)
  · have h := ite_t h c1
    refine qn_iconst hX (pc := 10) dX8_calls_10 ?_
    exact qn_zret hX (pc := 11) dX8_calls_11 hE hR_m0 (by decide) (Option.some.inj h)
theorem k_X8_calls (l : Launch) {G : qG} (hT : qT G) {N : Nat} {x0 : Nat} (k_x0 : gK G x0 = 9) {m0 : qM} {r : Int} {nu : qM} (h : f_X8_calls N G x0 m0 = some (r, nu)) : qC l yX8_calls wsX8_calls 1 21 G [.ref x0] m0 (some (.int (iZ r))) (in01 r) nu := by
  refine qn_start (hy := by decide) hT (hw := rfl) (hn := Nat.le_of_ble_eq_true rfl) ?_
  intro X h1 h2 h3 h4 hX hR
  subst h4
  exact w_X8_calls hX ⟨h1, fun q => h2 ▸ q, h3⟩ k_x0 hR h
theorem dd_X8_calls : yX8_calls.cls = RX8 ∧ yX8_calls.cls ≠ "java/lang/invoke/MethodHandle" ∧ yX8_calls.cls ≠ "java/lang/invoke/VarHandle" ∧ (parseMethodDescriptor yX8_calls.desc).map (fun d => d.parameters.length) = some 0 := by decide +kernel
-- ProRataMarketModel.call
theorem hi_X8_call_8 : ∀ w ∈ wsX80, w ∈ wsX8_call := fun w h => List.mem_cons_of_mem _ (List.mem_append_right _ h)
theorem fp_X8_call_45 : qFp RX8 wsX8_call 45 8 4 0 804 .int := ⟨RX8, TX8, 32, _, tyX8, rfl, hi_X8_call_8, by decide, (by decide +kernel : Cond.fieldLink RX8 45 (TX8 4).1 (TX8 4).2.1 (TX8 4).2.2.1 ∈ wsX8_call), rfl, rfl, by decide, tyX8_ok, nmX8, rfl, by decide +kernel⟩
set_option maxHeartbeats 4000000 in
set_option maxRecDepth 20000 in
theorem w_X8_call {X : qB} {N : Nat} (hX : qOk X cX8_call RX8 1 (some .boolean) wsX8_call 2 41) {r : Int} {nu : qM} (hE : xr X = some (.int (iZ r)) ∧ (in01 r → xΦ X) ∧ xμ X = nu) 
    {x0 : Nat} (k_x0 : gK (xG X) x0 = 9) {m0 : qM} (hR_m0 : qR (xG X) m0)
    (h : f_X8_call N (xG X)  x0 m0 = some (r, nu)) : qN X 1 0 [(0, .ref x0)] [] m0 := by
  have hT := hX.T
  unfold f_X8_call at h
  refine qn_aload_n hX (pc := 0) dX8_call_0 0 rfl rfl ?_
  refine qn_iconst hX (pc := 1) dX8_call_1 ?_
  obtain ⟨m1, e_m1, h⟩ := kp_e h
  refine qn_putI hX (pc := 2) fp_X8_call_45 dX8_call_2 k_x0 hR_m0 (show in32 0 by decide) e_m1 (fun hR_m1 => ?_) 
  refine qn_aload_n hX (pc := 5) dX8_call_5 0 rfl rfl ?_
  obtain ⟨v3, m2, e_m2, h⟩ := kb2_e h
  refine qn_callVi hX (pc := 6) [] [] 0 dX8_call_6 gX8_call_X8_calls rfl dd_X8_calls ⟨rfl, rfl⟩ rfl rfl (by decide) k_x0 rfl rfl hR_m1 (k_X8_calls (xl X) hT k_x0 e_m2) (fun r_v3 hR_m2 => ?_)
  exact qn_zret hX (pc := 9) dX8_call_9 hE hR_m2 r_v3 (Option.some.inj h)
theorem k_X8_call (l : Launch) {G : qG} (hT : qT G) {N : Nat} {x0 : Nat} (k_x0 : gK G x0 = 9) {m0 : qM} {r : Int} {nu : qM} (h : f_X8_call N G x0 m0 = some (r, nu)) : qC l yX8_call wsX8_call 2 41 G [.ref x0] m0 (some (.int (iZ r))) (in01 r) nu := by
  refine qn_start (hy := by decide) hT (hw := rfl) (hn := Nat.le_of_ble_eq_true rfl) ?_
  intro X h1 h2 h3 h4 hX hR
  subst h4
  exact w_X8_call hX ⟨h1, fun q => h2 ▸ q, h3⟩ k_x0 hR h
theorem dd_X8_call : yX8_call.cls = RX8 ∧ yX8_call.cls ≠ "java/lang/invoke/MethodHandle" ∧ yX8_call.cls ≠ "java/lang/invoke/VarHandle" ∧ (parseMethodDescriptor yX8_call.desc).map (fun d => d.parameters.length) = some 0 := by decide +kernel
-- ProRataMarketModel.endOf
theorem hi_X8_endOf_8 : ∀ w ∈ wsX80, w ∈ wsX8_endOf := fun w h => List.mem_cons_of_mem _ (List.mem_append_right _ h)
theorem fd_X8_endOf_7 : qFd RX8 wsX8_endOf 7 8 0 1 800 := ⟨RX8, TX8, 32, _, rfl, hi_X8_endOf_8, by decide, (by decide +kernel : Cond.fieldLink RX8 7 (TX8 0).1 (TX8 0).2.1 (TX8 0).2.2.1 ∈ wsX8_endOf), rfl, rfl, by decide⟩
set_option maxHeartbeats 4000000 in
set_option maxRecDepth 20000 in
theorem w_X8_endOf_58 {X : qB} {N : Nat} (hX : qOk X cX8_endOf RX8 5 (some .int) wsX8_endOf 1 22) {r : Int} {nu : qM} (hE : xr X = some (.int (iZ r)) ∧ (in32 r → xΦ X) ∧ xμ X = nu) {k5 : (Nat → Int → Int → Int → qM → Option (Int × qM))} (hk5 : ∀ (x0 : Nat) (x1 : Int) (x2 : Int) (x3 : Int) (m0 : qM), gK (xG X) x0 = 9 → in32 x1 → in32 x2 → in32 x3 → qR (xG X) m0 → k5 x0 x1 x2 x3 m0 = some (r, nu) → qN X 5 5 [(0, .ref x0), (1, .int (iZ x1)), (2, .int (iZ x2)), (3, .int (iZ x3))] [] m0)
    {x0 : Nat} {x1 : Int} {x2 : Int} {x3 : Int} (k_x0 : gK (xG X) x0 = 9) (r_x1 : in32 x1) (r_x2 : in32 x2) (r_x3 : in32 x3) {m0 : qM} (hR_m0 : qR (xG X) m0)
    (h : f_X8_endOf_58 N (xG X) k5 x0 x1 x2 x3 m0 = some (r, nu)) : qN X 5 58 [(0, .ref x0), (1, .int (iZ x1)), (2, .int (iZ x2)), (3, .int (iZ x3))] [] m0 := by
  have hT := hX.T
  unfold f_X8_endOf_58 at h
  obtain ⟨v1, e_v1, r_v1, h⟩ := ckI_e h
  refine qn_iinc hX (pc := 58) (ls' := [(3, .int (iZ v1)), (0, .ref x0), (1, .int (iZ x1)), (2, .int (iZ x2))]) dX8_endOf_58 3 rfl e_v1 rfl rfl ?_
  refine qn_goto hX (pc := 61) 5 dX8_endOf_61 (by decide) ?_
  refine qn_sub (ls' := [(0, .ref x0), (1, .int (iZ x1)), (2, .int (iZ x2)), (3, .int (iZ v1))]) [1, 2, 3, 0] rfl ?_
  exact hk5 x0 x1 x2 v1 m0 k_x0 r_x1 r_x2 r_v1 hR_m0 h
set_option maxHeartbeats 4000000 in
set_option maxRecDepth 20000 in
theorem w_X8_endOf_41 {X : qB} {N : Nat} (hX : qOk X cX8_endOf RX8 5 (some .int) wsX8_endOf 1 22) {r : Int} {nu : qM} (hE : xr X = some (.int (iZ r)) ∧ (in32 r → xΦ X) ∧ xμ X = nu) {k5 : (Nat → Int → Int → Int → qM → Option (Int × qM))} (hk5 : ∀ (x0 : Nat) (x1 : Int) (x2 : Int) (x3 : Int) (m0 : qM), gK (xG X) x0 = 9 → in32 x1 → in32 x2 → in32 x3 → qR (xG X) m0 → k5 x0 x1 x2 x3 m0 = some (r, nu) → qN X 5 5 [(0, .ref x0), (1, .int (iZ x1)), (2, .int (iZ x2)), (3, .int (iZ x3))] [] m0)
    {x0 : Nat} {x1 : Int} {x2 : Int} {x3 : Int} {s0 : Int} (k_x0 : gK (xG X) x0 = 9) (r_x1 : in32 x1) (r_x2 : in32 x2) (r_x3 : in32 x3) (r_s0 : in32 s0) {m0 : qM} (hR_m0 : qR (xG X) m0)
    (h : f_X8_endOf_41 N (xG X) k5 x0 x1 x2 x3 s0 m0 = some (r, nu)) : qN X 5 41 [(0, .ref x0), (1, .int (iZ x1)), (2, .int (iZ x2)), (3, .int (iZ x3))] [.int (iZ s0)] m0 := by
  have hT := hX.T
  unfold f_X8_endOf_41 at h
  refine qn_istore hX (pc := 41) (ls' := [(4, .int (iZ s0)), (0, .ref x0), (1, .int (iZ x1)), (2, .int (iZ x2)), (3, .int (iZ x3))]) dX8_endOf_41 rfl rfl ?_
  refine qn_iload hX (pc := 43) dX8_endOf_43 0 rfl ?_
  refine qn_iload_n hX (pc := 45) dX8_endOf_45 2 rfl rfl ?_
  refine qn_icmp_lt hX (pc := 46) r_s0 r_x1 58 dX8_endOf_46 (by decide) (fun c1 => ?_) (fun c1 => ?_)
  · have h := ite_t h c1
    refine qn_sub (ls' := [(0, .ref x0), (1, .int (iZ x1)), (2, .int (iZ x2)), (3, .int (iZ x3))]) [1, 2, 3, 4] rfl ?_
    exact w_X8_endOf_58 hX hE hk5 k_x0 r_x1 r_x2 r_x3 hR_m0 h
  · have h := ite_f h c1
    refine qn_iload hX (pc := 49) dX8_endOf_49 0 rfl ?_
    refine qn_iload_n hX (pc := 51) dX8_endOf_51 3 rfl rfl ?_
    refine qn_icmp_ge hX (pc := 52) r_s0 r_x2 58 dX8_endOf_52 (by decide) (fun c2 => ?_) (fun c2 => ?_)
    · have h := ite_f h c2
      refine qn_sub (ls' := [(0, .ref x0), (1, .int (iZ x1)), (2, .int (iZ x2)), (3, .int (iZ x3))]) [1, 2, 3, 4] rfl ?_
      exact w_X8_endOf_58 hX hE hk5 k_x0 r_x1 r_x2 r_x3 hR_m0 h
    · have h := ite_t h c2
      refine qn_iload hX (pc := 55) dX8_endOf_55 0 rfl ?_
      refine qn_istore_n hX (pc := 57) (ls' := [(2, .int (iZ s0)), (4, .int (iZ s0)), (0, .ref x0), (1, .int (iZ x1)), (3, .int (iZ x3))]) dX8_endOf_57 rfl rfl rfl ?_
      refine qn_sub (ls' := [(0, .ref x0), (1, .int (iZ x1)), (2, .int (iZ s0)), (3, .int (iZ x3))]) [2, 3, 0, 4] rfl ?_
      exact w_X8_endOf_58 hX hE hk5 k_x0 r_x1 r_s0 r_x3 hR_m0 h
set_option maxHeartbeats 4000000 in
set_option maxRecDepth 20000 in
theorem w_X8_endOf_5 {X : qB} {N : Nat} (hX : qOk X cX8_endOf RX8 5 (some .int) wsX8_endOf 1 22) {r : Int} {nu : qM} (hE : xr X = some (.int (iZ r)) ∧ (in32 r → xΦ X) ∧ xμ X = nu) {k5 : (Nat → Int → Int → Int → qM → Option (Int × qM))} (hk5 : ∀ (x0 : Nat) (x1 : Int) (x2 : Int) (x3 : Int) (m0 : qM), gK (xG X) x0 = 9 → in32 x1 → in32 x2 → in32 x3 → qR (xG X) m0 → k5 x0 x1 x2 x3 m0 = some (r, nu) → qN X 5 5 [(0, .ref x0), (1, .int (iZ x1)), (2, .int (iZ x2)), (3, .int (iZ x3))] [] m0)
    {x0 : Nat} {x1 : Int} {x2 : Int} {x3 : Int} (k_x0 : gK (xG X) x0 = 9) (r_x1 : in32 x1) (r_x2 : in32 x2) (r_x3 : in32 x3) {m0 : qM} (hR_m0 : qR (xG X) m0)
    (h : f_X8_endOf_5 N (xG X) k5 x0 x1 x2 x3 m0 = some (r, nu)) : qN X 5 5 [(0, .ref x0), (1, .int (iZ x1)), (2, .int (iZ x2)), (3, .int (iZ x3))] [] m0 := by
  have hT := hX.T
  unfold f_X8_endOf_5 at h
  refine qn_iload_n hX (pc := 5) dX8_endOf_5 3 rfl rfl ?_
  refine qn_aload_n hX (pc := 6) dX8_endOf_6 0 rfl rfl ?_
  refine qn_getR hX (pc := 7) fd_X8_endOf_7 dX8_endOf_7 k_x0 ?_
  refine qn_iconst hX (pc := 10) dX8_endOf_10 ?_
  refine qn_iald hX (pc := 11) (v := gA m0 (gR (xG X) 800 x0) 5) 684 dX8_endOf_11 (qr_800 hT k_x0) (by decide) (by decide) rfl ?_
  refine qn_icmp_ge hX (pc := 12) r_x3 (hR_m0.a (n := 684) _ (qr_800 hT k_x0) (by decide)) 64 dX8_endOf_12 (by decide) (fun c1 => ?_) (fun c1 => ?_)
  · have h := ite_f h c1
    refine qn_iload_n hX (pc := 64) dX8_endOf_64 2 rfl rfl ?_
    exact qn_iret hX (pc := 65) dX8_endOf_65 hE hR_m0 r_x2 (Option.some.inj h)
  · have h := ite_t h c1
    refine qn_aload_n hX (pc := 15) dX8_endOf_15 0 rfl rfl ?_
    refine qn_iload_n hX (pc := 16) dX8_endOf_16 3 rfl rfl ?_
    refine qn_iconst hX (pc := 17) dX8_endOf_17 ?_
    obtain ⟨v3, m2, e_m2, h⟩ := kb2_e h
    refine qn_callVi hX (pc := 18) [.int (iZ x3), .int (iZ 2)] [.int (iZ 2), .int (iZ x3)] 2 dX8_endOf_18 gX8_endOf_X8_ofOrder rfl dd_X8_ofOrder ⟨rfl, rfl⟩ rfl rfl (by decide) k_x0 rfl rfl hR_m0 (k_X8_ofOrder (xl X) hT k_x0 r_x3 (by decide) e_m2) (fun r_v3 hR_m2 => ?_)
    refine qn_if_ne hX (pc := 21) r_v3 33 dX8_endOf_21 (by decide) (fun c4 => ?_) (fun c4 => ?_)
    · have h := ite_f h c4
      refine qn_aload_n hX (pc := 33) dX8_endOf_33 0 rfl rfl ?_
      refine qn_iload_n hX (pc := 34) dX8_endOf_34 3 rfl rfl ?_
      refine qn_iconst hX (pc := 35) dX8_endOf_35 ?_
      obtain ⟨v6, m5, e_m5, h⟩ := kb2_e h
      refine qn_callVi hX (pc := 36) [.int (iZ x3), .int (iZ 3)] [.int (iZ 3), .int (iZ x3)] 2 dX8_endOf_36 gX8_endOf_X8_ofOrder rfl dd_X8_ofOrder ⟨rfl, rfl⟩ rfl rfl (by decide) k_x0 rfl rfl hR_m2 (k_X8_ofOrder (xl X) hT k_x0 r_x3 (by decide) e_m5) (fun r_v6 hR_m5 => ?_)
      refine qn_iconst hX (pc := 39) dX8_endOf_39 ?_
      obtain ⟨v7, e_v7, r_v7, h⟩ := ckI_e h
      refine qn_isub hX (pc := 40) dX8_endOf_40 e_v7 ?_
      refine qn_sub (ls' := [(0, .ref x0), (1, .int (iZ x1)), (2, .int (iZ x2)), (3, .int (iZ x3))]) [0, 1, 2, 3] rfl ?_
      exact w_X8_endOf_41 hX hE hk5 k_x0 r_x1 r_x2 r_x3 r_v7 hR_m5 h
    · have h := ite_t h c4
      refine qn_aload_n hX (pc := 24) dX8_endOf_24 0 rfl rfl ?_
      refine qn_iload_n hX (pc := 25) dX8_endOf_25 3 rfl rfl ?_
      refine qn_iconst hX (pc := 26) dX8_endOf_26 ?_
      obtain ⟨v9, m8, e_m8, h⟩ := kb2_e h
      refine qn_callVi hX (pc := 27) [.int (iZ x3), .int (iZ 3)] [.int (iZ 3), .int (iZ x3)] 2 dX8_endOf_27 gX8_endOf_X8_ofOrder rfl dd_X8_ofOrder ⟨rfl, rfl⟩ rfl rfl (by decide) k_x0 rfl rfl hR_m2 (k_X8_ofOrder (xl X) hT k_x0 r_x3 (by decide) e_m8) (fun r_v9 hR_m8 => ?_)
      refine qn_goto hX (pc := 30) 41 dX8_endOf_30 (by decide) ?_
      refine qn_sub (ls' := [(0, .ref x0), (1, .int (iZ x1)), (2, .int (iZ x2)), (3, .int (iZ x3))]) [0, 1, 2, 3] rfl ?_
      exact w_X8_endOf_41 hX hE hk5 k_x0 r_x1 r_x2 r_x3 r_v9 hR_m8 h
set_option maxHeartbeats 4000000 in
set_option maxRecDepth 20000 in
theorem w_X8_endOf_L5 {X : qB} {N : Nat} (hX : qOk X cX8_endOf RX8 5 (some .int) wsX8_endOf 1 22) {r : Int} {nu : qM} (hE : xr X = some (.int (iZ r)) ∧ (in32 r → xΦ X) ∧ xμ X = nu) 
    {x0 : Nat} {x1 : Int} {x2 : Int} {x3 : Int} (k_x0 : gK (xG X) x0 = 9) (r_x1 : in32 x1) (r_x2 : in32 x2) (r_x3 : in32 x3) {m0 : qM} (hR_m0 : qR (xG X) m0)
    (h : f_X8_endOf_L5 N (xG X)  x0 x1 x2 x3 m0 = some (r, nu)) : qN X 5 5 [(0, .ref x0), (1, .int (iZ x1)), (2, .int (iZ x2)), (3, .int (iZ x3))] [] m0 := by
  unfold f_X8_endOf_L5 at h
  exact qLoop_w (σ := Nat × Int × Int × Int × qM) (P := fun p => gK (xG X) p.1 = 9 ∧ in32 p.2.1 ∧ in32 p.2.2.1 ∧ in32 p.2.2.2.1 ∧ qR (xG X) p.2.2.2.2) (Q := fun p => qN X 5 5 [(0, .ref p.1), (1, .int (iZ p.2.1)), (2, .int (iZ p.2.2.1)), (3, .int (iZ p.2.2.2.1))] [] p.2.2.2.2) (fun k hrec p hp hh => w_X8_endOf_5 hX hE (fun x0 x1 x2 x3 m0 q0 q1 q2 q3 hRm hh => hrec (x0, x1, x2, x3, m0) ⟨q0, q1, q2, q3, hRm⟩ hh) hp.1 hp.2.1 hp.2.2.1 hp.2.2.2.1 hp.2.2.2.2 hh) N (x0, x1, x2, x3, m0) ⟨k_x0, r_x1, r_x2, r_x3, hR_m0⟩ h
set_option maxHeartbeats 4000000 in
set_option maxRecDepth 20000 in
theorem w_X8_endOf {X : qB} {N : Nat} (hX : qOk X cX8_endOf RX8 5 (some .int) wsX8_endOf 1 22) {r : Int} {nu : qM} (hE : xr X = some (.int (iZ r)) ∧ (in32 r → xΦ X) ∧ xμ X = nu) 
    {x0 : Nat} {x1 : Int} (k_x0 : gK (xG X) x0 = 9) (r_x1 : in32 x1) {m0 : qM} (hR_m0 : qR (xG X) m0)
    (h : f_X8_endOf N (xG X)  x0 x1 m0 = some (r, nu)) : qN X 5 0 [(0, .ref x0), (1, .int (iZ x1))] [] m0 := by
  have hT := hX.T
  unfold f_X8_endOf at h
  refine qn_ldc hX (pc := 0) 9999999 dX8_endOf_0 (by decide +kernel : Cond.constant RX8 201 (9999999) ∈ wsX8_endOf) (by decide) ?_
  refine qn_istore_n hX (pc := 2) (ls' := [(2, .int (iZ 9999999)), (0, .ref x0), (1, .int (iZ x1))]) dX8_endOf_2 rfl rfl rfl ?_
  refine qn_iconst hX (pc := 3) dX8_endOf_3 ?_
  refine qn_istore_n hX (pc := 4) (ls' := [(3, .int (iZ 0)), (2, .int (iZ 9999999)), (0, .ref x0), (1, .int (iZ x1))]) dX8_endOf_4 rfl rfl rfl ?_
  refine qn_sub (ls' := [(0, .ref x0), (1, .int (iZ x1)), (2, .int (iZ 9999999)), (3, .int (iZ 0))]) [2, 3, 1, 0] rfl ?_
  exact w_X8_endOf_L5 hX hE  k_x0 r_x1 (by decide) (by decide) hR_m0 h
theorem k_X8_endOf (l : Launch) {G : qG} (hT : qT G) {N : Nat} {x0 : Nat} {x1 : Int} (k_x0 : gK G x0 = 9) (r_x1 : in32 x1) {m0 : qM} {r : Int} {nu : qM} (h : f_X8_endOf N G x0 x1 m0 = some (r, nu)) : qC l yX8_endOf wsX8_endOf 1 22 G [.ref x0, .int (iZ x1)] m0 (some (.int (iZ r))) (in32 r) nu := by
  refine qn_start (hy := by decide) hT (hw := rfl) (hn := Nat.le_of_ble_eq_true rfl) ?_
  intro X h1 h2 h3 h4 hX hR
  subst h4
  exact w_X8_endOf hX ⟨h1, fun q => h2 ▸ q, h3⟩ k_x0 r_x1 hR h
theorem dd_X8_endOf : yX8_endOf.cls = RX8 ∧ yX8_endOf.cls ≠ "java/lang/invoke/MethodHandle" ∧ yX8_endOf.cls ≠ "java/lang/invoke/VarHandle" ∧ (parseMethodDescriptor yX8_endOf.desc).map (fun d => d.parameters.length) = some 1 := by decide +kernel
