-- ProRataMarket.feed
theorem hi_X7_feed_7 : ∀ w ∈ wsX70, w ∈ wsX7_feed := fun w h => List.mem_cons_of_mem _ (List.mem_append_left _ (List.mem_append_right _ h))
theorem fd_X7_feed_22 : qFd RX7 wsX7_feed 22 7 2 1 702 := ⟨RX7, TX7, 3, _, rfl, hi_X7_feed_7, by decide, (by decide +kernel : Cond.fieldLink RX7 22 (TX7 2).1 (TX7 2).2.1 (TX7 2).2.2.1 ∈ wsX7_feed), rfl, rfl, by decide⟩
theorem hi_X7_feed_6 : ∀ w ∈ wsX60, w ∈ wsX7_feed := fun w h => List.mem_cons_of_mem _ (List.mem_append_right _ h)
theorem fd_X7_feed_26 : qFd RX7 wsX7_feed 26 6 1 0 601 := ⟨RX6, TX6, 12, _, rfl, hi_X7_feed_6, by decide, (by decide +kernel : Cond.fieldLink RX7 26 (TX6 1).1 (TX6 1).2.1 (TX6 1).2.2.1 ∈ wsX7_feed), rfl, rfl, by decide⟩
set_option maxHeartbeats 4000000 in
set_option maxRecDepth 20000 in
theorem w_X7_feed {X : qB} {N : Nat} (hX : qOk X cX7_feed RX7 6 (some .int) wsX7_feed 1 22) {r : Int} {nu : qM} (hE : xr X = some (.int (iZ r)) ∧ (in32 r → xΦ X) ∧ xμ X = nu) 
    {x0 : Nat} {x1 : Int} {x2 : Int} {x3 : Int} {x4 : Int} {x5 : Int} (k_x0 : gK (xG X) x0 = 8) (r_x1 : in32 x1) (r_x2 : in32 x2) (r_x3 : in32 x3) (r_x4 : in32 x4) (r_x5 : in32 x5) {m0 : qM} (hR_m0 : qR (xG X) m0)
    (h : f_X7_feed N (xG X)  x0 x1 x2 x3 x4 x5 m0 = some (r, nu)) : qN X 6 0 [(0, .ref x0), (1, .int (iZ x1)), (2, .int (iZ x2)), (3, .int (iZ x3)), (4, .int (iZ x4)), (5, .int (iZ x5))] [] m0 := by
  have hT := hX.T
  unfold f_X7_feed at h
  refine qn_aload_n hX (pc := 0) dX7_feed_0 0 rfl rfl ?_
  refine qn_getR hX (pc := 1) fd_X7_feed_22 dX7_feed_1 k_x0 ?_
  refine qn_getI hX (pc := 4) fd_X7_feed_26 dX7_feed_4 (qr_702 hT k_x0) ?_
  refine qn_bipush hX (pc := 7) dX7_feed_7 (by decide) ?_
  obtain ⟨v1, e_v1, r_v1, h⟩ := ckI_e h
  refine qn_iadd hX (pc := 9) dX7_feed_9 e_v1 ?_
  refine qn_sipush hX (pc := 10) dX7_feed_10 (by decide) ?_
  refine qn_icmp_le hX (pc := 13) r_v1 (by decide) 18 dX7_feed_13 (by decide) (fun c2 => ?_) (fun c2 => ?_)
  · have h := ite_f h c2
    refine qn_aload_n hX (pc := 18) dX7_feed_18 0 rfl rfl ?_
    refine qn_getR hX (pc := 19) fd_X7_feed_22 dX7_feed_19 k_x0 ?_
    refine qn_iload_n hX (pc := 22) dX7_feed_22 1 rfl rfl ?_
    obtain ⟨m3, e_m3, h⟩ := kb_e h
    refine qn_callVv hX (pc := 23) [.int (iZ x1)] [.int (iZ x1)] 1 dX7_feed_23 gX7_feed_X6_put rfl dd_X6_put ⟨rfl, rfl⟩ rfl rfl (by decide) (qr_702 hT k_x0) rfl rfl hR_m0 (k_X6_put (xl X) hT (qr_702 hT k_x0) r_x1 e_m3) (fun r_v4 hR_m3 => ?_)
    refine qn_aload_n hX (pc := 26) dX7_feed_26 0 rfl rfl ?_
    refine qn_getR hX (pc := 27) fd_X7_feed_22 dX7_feed_27 k_x0 ?_
    refine qn_iload_n hX (pc := 30) dX7_feed_30 2 rfl rfl ?_
    obtain ⟨m5, e_m5, h⟩ := kb_e h
    refine qn_callVv hX (pc := 31) [.int (iZ x2)] [.int (iZ x2)] 1 dX7_feed_31 gX7_feed_X6_put rfl dd_X6_put ⟨rfl, rfl⟩ rfl rfl (by decide) (qr_702 hT k_x0) rfl rfl hR_m3 (k_X6_put (xl X) hT (qr_702 hT k_x0) r_x2 e_m5) (fun r_v6 hR_m5 => ?_)
    refine qn_aload_n hX (pc := 34) dX7_feed_34 0 rfl rfl ?_
    refine qn_getR hX (pc := 35) fd_X7_feed_22 dX7_feed_35 k_x0 ?_
    refine qn_iload_n hX (pc := 38) dX7_feed_38 3 rfl rfl ?_
    obtain ⟨m7, e_m7, h⟩ := kb_e h
    refine qn_callVv hX (pc := 39) [.int (iZ x3)] [.int (iZ x3)] 1 dX7_feed_39 gX7_feed_X6_put rfl dd_X6_put ⟨rfl, rfl⟩ rfl rfl (by decide) (qr_702 hT k_x0) rfl rfl hR_m5 (k_X6_put (xl X) hT (qr_702 hT k_x0) r_x3 e_m7) (fun r_v8 hR_m7 => ?_)
    refine qn_aload_n hX (pc := 42) dX7_feed_42 0 rfl rfl ?_
    refine qn_getR hX (pc := 43) fd_X7_feed_22 dX7_feed_43 k_x0 ?_
    refine qn_iload hX (pc := 46) dX7_feed_46 4 rfl ?_
    obtain ⟨m9, e_m9, h⟩ := kb_e h
    refine qn_callVv hX (pc := 48) [.int (iZ x4)] [.int (iZ x4)] 1 dX7_feed_48 gX7_feed_X6_put rfl dd_X6_put ⟨rfl, rfl⟩ rfl rfl (by decide) (qr_702 hT k_x0) rfl rfl hR_m7 (k_X6_put (xl X) hT (qr_702 hT k_x0) r_x4 e_m9) (fun r_v10 hR_m9 => ?_)
    refine qn_aload_n hX (pc := 51) dX7_feed_51 0 rfl rfl ?_
    refine qn_getR hX (pc := 52) fd_X7_feed_22 dX7_feed_52 k_x0 ?_
    refine qn_iload hX (pc := 55) dX7_feed_55 5 rfl ?_
    obtain ⟨m11, e_m11, h⟩ := kb_e h
    refine qn_callVv hX (pc := 57) [.int (iZ x5)] [.int (iZ x5)] 1 dX7_feed_57 gX7_feed_X6_put rfl dd_X6_put ⟨rfl, rfl⟩ rfl rfl (by decide) (qr_702 hT k_x0) rfl rfl hR_m9 (k_X6_put (xl X) hT (qr_702 hT k_x0) r_x5 e_m11) (fun r_v12 hR_m11 => ?_)
    refine qn_aload_n hX (pc := 60) dX7_feed_60 0 rfl rfl ?_
    refine qn_getR hX (pc := 61) fd_X7_feed_22 dX7_feed_61 k_x0 ?_
    refine qn_getI hX (pc := 64) fd_X7_feed_26 dX7_feed_64 (qr_702 hT k_x0) ?_
    exact qn_iret hX (pc := 67) dX7_feed_67 hE hR_m11 (hR_m11.i 601 _ rfl) (Option.some.inj h)
  · have h := ite_t h c2
    refine qn_iconst hX (pc := 16) dX7_feed_16 ?_
    exact qn_iret hX (pc := 17) dX7_feed_17 hE hR_m0 (by decide) (Option.some.inj h)
theorem k_X7_feed (l : Launch) {G : qG} (hT : qT G) {N : Nat} {x0 : Nat} {x1 : Int} {x2 : Int} {x3 : Int} {x4 : Int} {x5 : Int} (k_x0 : gK G x0 = 8) (r_x1 : in32 x1) (r_x2 : in32 x2) (r_x3 : in32 x3) (r_x4 : in32 x4) (r_x5 : in32 x5) {m0 : qM} {r : Int} {nu : qM} (h : f_X7_feed N G x0 x1 x2 x3 x4 x5 m0 = some (r, nu)) : qC l yX7_feed wsX7_feed 1 22 G [.ref x0, .int (iZ x1), .int (iZ x2), .int (iZ x3), .int (iZ x4), .int (iZ x5)] m0 (some (.int (iZ r))) (in32 r) nu := by
  refine qn_start (hy := by decide) hT (hw := rfl) (hn := Nat.le_of_ble_eq_true rfl) ?_
  intro X h1 h2 h3 h4 hX hR
  subst h4
  exact w_X7_feed hX ⟨h1, fun q => h2 ▸ q, h3⟩ k_x0 r_x1 r_x2 r_x3 r_x4 r_x5 hR h
theorem dd_X7_feed : yX7_feed.cls = RX7 ∧ yX7_feed.cls ≠ "java/lang/invoke/MethodHandle" ∧ yX7_feed.cls ≠ "java/lang/invoke/VarHandle" ∧ (parseMethodDescriptor yX7_feed.desc).map (fun d => d.parameters.length) = some 5 := by decide +kernel
-- ProRataMarket.isTrader
set_option maxHeartbeats 4000000 in
set_option maxRecDepth 20000 in
theorem w_X7_isTrader {X : qB} {N : Nat} (hX : qOk X cX7_isTrader RX7 1 (some .boolean) wsX7_isTrader 0 0) {r : Int} {nu : qM} (hE : xr X = some (.int (iZ r)) ∧ (in01 r → xΦ X) ∧ xμ X = nu) 
    {x0 : Int} (r_x0 : in32 x0) {m0 : qM} (hR_m0 : qR (xG X) m0)
    (h : f_X7_isTrader N (xG X)  x0 m0 = some (r, nu)) : qN X 1 0 [(0, .int (iZ x0))] [] m0 := by
  have hT := hX.T
  unfold f_X7_isTrader at h
  refine qn_iload_n hX (pc := 0) dX7_isTrader_0 0 rfl rfl ?_
  refine qn_if_lt hX (pc := 1) r_x0 14 dX7_isTrader_1 (by decide) (fun c1 => ?_) (fun c1 => ?_)
  · have h := ite_t h c1
    refine qn_iconst hX (pc := 14) dX7_isTrader_14 ?_
    exact qn_zret hX (pc := 15) dX7_isTrader_15 hE hR_m0 (by decide) (Option.some.inj h)
  · have h := ite_f h c1
    refine qn_iload_n hX (pc := 4) dX7_isTrader_4 0 rfl rfl ?_
    refine qn_bipush hX (pc := 5) dX7_isTrader_5 (by decide) ?_
    refine qn_icmp_ge hX (pc := 7) r_x0 (by decide) 14 dX7_isTrader_7 (by decide) (fun c2 => ?_) (fun c2 => ?_)
    · have h := ite_f h c2
      refine qn_iconst hX (pc := 14) dX7_isTrader_14 ?_
      exact qn_zret hX (pc := 15) dX7_isTrader_15 hE hR_m0 (by decide) (Option.some.inj h)
    · have h := ite_t h c2
      refine qn_iconst hX (pc := 10) dX7_isTrader_10 ?_
      refine qn_goto hX (pc := 11) 15 dX7_isTrader_11 (by decide) ?_
      exact qn_zret hX (pc := 15) dX7_isTrader_15 hE hR_m0 (by decide) (Option.some.inj h)
theorem k_X7_isTrader (l : Launch) {G : qG} (hT : qT G) {N : Nat} {x0 : Int} (r_x0 : in32 x0) {m0 : qM} {r : Int} {nu : qM} (h : f_X7_isTrader N G x0 m0 = some (r, nu)) : qC l yX7_isTrader wsX7_isTrader 0 0 G [.int (iZ x0)] m0 (some (.int (iZ r))) (in01 r) nu := by
  refine qn_start (hy := by decide) hT (hw := rfl) (hn := Nat.le_of_ble_eq_true rfl) ?_
  intro X h1 h2 h3 h4 hX hR
  subst h4
  exact w_X7_isTrader hX ⟨h1, fun q => h2 ▸ q, h3⟩ r_x0 hR h
theorem dd_X7_isTrader : yX7_isTrader.cls ≠ "java/lang/invoke/MethodHandle" ∧ yX7_isTrader.cls ≠ "java/lang/invoke/VarHandle" ∧ (parseMethodDescriptor yX7_isTrader.desc).map (fun d => d.parameters.length) = some 1 := by decide +kernel
-- ProRataMarket.isSide
set_option maxHeartbeats 4000000 in
set_option maxRecDepth 20000 in
theorem w_X7_isSide_9 {X : qB} {N : Nat} (hX : qOk X cX7_isSide RX7 1 (some .boolean) wsX7_isSide 0 0) {r : Int} {nu : qM} (hE : xr X = some (.int (iZ r)) ∧ (in01 r → xΦ X) ∧ xμ X = nu) 
      {m0 : qM} (hR_m0 : qR (xG X) m0)
    (h : f_X7_isSide_9 N (xG X)   m0 = some (r, nu)) : qN X 1 9 [] [] m0 := by
  have hT := hX.T
  unfold f_X7_isSide_9 at h
  refine qn_iconst hX (pc := 9) dX7_isSide_9 ?_
  refine qn_goto hX (pc := 10) 14 dX7_isSide_10 (by decide) ?_
  exact qn_zret hX (pc := 14) dX7_isSide_14 hE hR_m0 (by decide) (Option.some.inj h)
set_option maxHeartbeats 4000000 in
set_option maxRecDepth 20000 in
theorem w_X7_isSide {X : qB} {N : Nat} (hX : qOk X cX7_isSide RX7 1 (some .boolean) wsX7_isSide 0 0) {r : Int} {nu : qM} (hE : xr X = some (.int (iZ r)) ∧ (in01 r → xΦ X) ∧ xμ X = nu) 
    {x0 : Int} (r_x0 : in32 x0) {m0 : qM} (hR_m0 : qR (xG X) m0)
    (h : f_X7_isSide N (xG X)  x0 m0 = some (r, nu)) : qN X 1 0 [(0, .int (iZ x0))] [] m0 := by
  have hT := hX.T
  unfold f_X7_isSide at h
  refine qn_iload_n hX (pc := 0) dX7_isSide_0 0 rfl rfl ?_
  refine qn_if_eq hX (pc := 1) r_x0 9 dX7_isSide_1 (by decide) (fun c1 => ?_) (fun c1 => ?_)
  · have h := ite_t h c1
    refine qn_sub (ls' := []) [] rfl ?_
    exact w_X7_isSide_9 hX hE   hR_m0 h
  · have h := ite_f h c1
    refine qn_iload_n hX (pc := 4) dX7_isSide_4 0 rfl rfl ?_
    refine qn_iconst hX (pc := 5) dX7_isSide_5 ?_
    refine qn_icmp_ne hX (pc := 6) r_x0 (by decide) 13 dX7_isSide_6 (by decide) (fun c2 => ?_) (fun c2 => ?_)
    · have h := ite_f h c2
      refine qn_iconst hX (pc := 13) dX7_isSide_13 ?_
      exact qn_zret hX (pc := 14) dX7_isSide_14 hE hR_m0 (by decide) (Option.some.inj h)
    · have h := ite_t h c2
      refine qn_sub (ls' := []) [] rfl ?_
      exact w_X7_isSide_9 hX hE   hR_m0 h
theorem k_X7_isSide (l : Launch) {G : qG} (hT : qT G) {N : Nat} {x0 : Int} (r_x0 : in32 x0) {m0 : qM} {r : Int} {nu : qM} (h : f_X7_isSide N G x0 m0 = some (r, nu)) : qC l yX7_isSide wsX7_isSide 0 0 G [.int (iZ x0)] m0 (some (.int (iZ r))) (in01 r) nu := by
  refine qn_start (hy := by decide) hT (hw := rfl) (hn := Nat.le_of_ble_eq_true rfl) ?_
  intro X h1 h2 h3 h4 hX hR
  subst h4
  exact w_X7_isSide hX ⟨h1, fun q => h2 ▸ q, h3⟩ r_x0 hR h
theorem dd_X7_isSide : yX7_isSide.cls ≠ "java/lang/invoke/MethodHandle" ∧ yX7_isSide.cls ≠ "java/lang/invoke/VarHandle" ∧ (parseMethodDescriptor yX7_isSide.desc).map (fun d => d.parameters.length) = some 1 := by decide +kernel
-- ProRataMarket.isForm
set_option maxHeartbeats 4000000 in
set_option maxRecDepth 20000 in
theorem w_X7_isForm {X : qB} {N : Nat} (hX : qOk X cX7_isForm RX7 5 (some .boolean) wsX7_isForm 1 20) {r : Int} {nu : qM} (hE : xr X = some (.int (iZ r)) ∧ (in01 r → xΦ X) ∧ xμ X = nu) 
    {x0 : Int} {x1 : Int} {x2 : Int} {x3 : Int} {x4 : Int} (r_x0 : in32 x0) (r_x1 : in32 x1) (r_x2 : in32 x2) (r_x3 : in32 x3) (r_x4 : in32 x4) {m0 : qM} (hR_m0 : qR (xG X) m0)
    (h : f_X7_isForm N (xG X)  x0 x1 x2 x3 x4 m0 = some (r, nu)) : qN X 5 0 [(0, .int (iZ x0)), (1, .int (iZ x1)), (2, .int (iZ x2)), (3, .int (iZ x3)), (4, .int (iZ x4))] [] m0 := by
  have hT := hX.T
  unfold f_X7_isForm at h
  refine qn_iload_n hX (pc := 0) dX7_isForm_0 0 rfl rfl ?_
  obtain ⟨v2, m1, e_m1, h⟩ := kb2_e h
  refine qn_callSi hX (pc := 1) [.int (iZ x0)] [.int (iZ x0)] 1 dX7_isForm_1 gX7_isForm_X7_isTrader rfl dd_X7_isTrader ⟨rfl, rfl⟩ rfl rfl rfl hR_m0 (k_X7_isTrader (xl X) hT r_x0 e_m1) (fun r_v2 hR_m1 => ?_)
  refine qn_if_eq hX (pc := 4) r_v2.i 52 dX7_isForm_4 (by decide) (fun c3 => ?_) (fun c3 => ?_)
  · have h := ite_t h c3
    refine qn_iconst hX (pc := 52) dX7_isForm_52 ?_
    exact qn_zret hX (pc := 53) dX7_isForm_53 hE hR_m1 (by decide) (Option.some.inj h)
  · have h := ite_f h c3
    refine qn_iload_n hX (pc := 7) dX7_isForm_7 1 rfl rfl ?_
    obtain ⟨v5, m4, e_m4, h⟩ := kb2_e h
    refine qn_callSi hX (pc := 8) [.int (iZ x1)] [.int (iZ x1)] 1 dX7_isForm_8 gX7_isForm_X7_isSide rfl dd_X7_isSide ⟨rfl, rfl⟩ rfl rfl rfl hR_m1 (k_X7_isSide (xl X) hT r_x1 e_m4) (fun r_v5 hR_m4 => ?_)
    refine qn_if_eq hX (pc := 11) r_v5.i 52 dX7_isForm_11 (by decide) (fun c6 => ?_) (fun c6 => ?_)
    · have h := ite_t h c6
      refine qn_iconst hX (pc := 52) dX7_isForm_52 ?_
      exact qn_zret hX (pc := 53) dX7_isForm_53 hE hR_m4 (by decide) (Option.some.inj h)
    · have h := ite_f h c6
      refine qn_iload_n hX (pc := 14) dX7_isForm_14 2 rfl rfl ?_
      refine qn_iconst hX (pc := 15) dX7_isForm_15 ?_
      refine qn_icmp_lt hX (pc := 16) r_x2 (by decide) 52 dX7_isForm_16 (by decide) (fun c7 => ?_) (fun c7 => ?_)
      · have h := ite_t h c7
        refine qn_iconst hX (pc := 52) dX7_isForm_52 ?_
        exact qn_zret hX (pc := 53) dX7_isForm_53 hE hR_m4 (by decide) (Option.some.inj h)
      · have h := ite_f h c7
        refine qn_iload_n hX (pc := 19) dX7_isForm_19 2 rfl rfl ?_
        refine qn_ldc hX (pc := 20) 9999999 dX7_isForm_20 (by decide +kernel : Cond.constant RX7 102 (9999999) ∈ wsX7_isForm) (by decide) ?_
        refine qn_icmp_gt hX (pc := 22) r_x2 (by decide) 52 dX7_isForm_22 (by decide) (fun c8 => ?_) (fun c8 => ?_)
        · have h := ite_t h c8
          refine qn_iconst hX (pc := 52) dX7_isForm_52 ?_
          exact qn_zret hX (pc := 53) dX7_isForm_53 hE hR_m4 (by decide) (Option.some.inj h)
        · have h := ite_f h c8
          refine qn_iload_n hX (pc := 25) dX7_isForm_25 3 rfl rfl ?_
          refine qn_iconst hX (pc := 26) dX7_isForm_26 ?_
          refine qn_icmp_lt hX (pc := 27) r_x3 (by decide) 52 dX7_isForm_27 (by decide) (fun c9 => ?_) (fun c9 => ?_)
          · have h := ite_t h c9
            refine qn_iconst hX (pc := 52) dX7_isForm_52 ?_
            exact qn_zret hX (pc := 53) dX7_isForm_53 hE hR_m4 (by decide) (Option.some.inj h)
          · have h := ite_f h c9
            refine qn_iload_n hX (pc := 30) dX7_isForm_30 3 rfl rfl ?_
            refine qn_sipush hX (pc := 31) dX7_isForm_31 (by decide) ?_
            refine qn_icmp_gt hX (pc := 34) r_x3 (by decide) 52 dX7_isForm_34 (by decide) (fun c10 => ?_) (fun c10 => ?_)
            · have h := ite_t h c10
              refine qn_iconst hX (pc := 52) dX7_isForm_52 ?_
              exact qn_zret hX (pc := 53) dX7_isForm_53 hE hR_m4 (by decide) (Option.some.inj h)
            · have h := ite_f h c10
              refine qn_iload hX (pc := 37) dX7_isForm_37 4 rfl ?_
              refine qn_if_lt hX (pc := 39) r_x4 52 dX7_isForm_39 (by decide) (fun c11 => ?_) (fun c11 => ?_)
              · have h := ite_t h c11
                refine qn_iconst hX (pc := 52) dX7_isForm_52 ?_
                exact qn_zret hX (pc := 53) dX7_isForm_53 hE hR_m4 (by decide) (Option.some.inj h)
              · have h := ite_f h c11
                refine qn_iload hX (pc := 42) dX7_isForm_42 4 rfl ?_
                refine qn_iconst hX (pc := 44) dX7_isForm_44 ?_
                refine qn_icmp_ge hX (pc := 45) r_x4 (by decide) 52 dX7_isForm_45 (by decide) (fun c12 => ?_) (fun c12 => ?_)
                · have h := ite_f h c12
                  refine qn_iconst hX (pc := 52) dX7_isForm_52 ?_
                  exact qn_zret hX (pc := 53) dX7_isForm_53 hE hR_m4 (by decide) (Option.some.inj h)
                · have h := ite_t h c12
                  refine qn_iconst hX (pc := 48) dX7_isForm_48 ?_
                  refine qn_goto hX (pc := 49) 53 dX7_isForm_49 (by decide) ?_
                  exact qn_zret hX (pc := 53) dX7_isForm_53 hE hR_m4 (by decide) (Option.some.inj h)
theorem k_X7_isForm (l : Launch) {G : qG} (hT : qT G) {N : Nat} {x0 : Int} {x1 : Int} {x2 : Int} {x3 : Int} {x4 : Int} (r_x0 : in32 x0) (r_x1 : in32 x1) (r_x2 : in32 x2) (r_x3 : in32 x3) (r_x4 : in32 x4) {m0 : qM} {r : Int} {nu : qM} (h : f_X7_isForm N G x0 x1 x2 x3 x4 m0 = some (r, nu)) : qC l yX7_isForm wsX7_isForm 1 20 G [.int (iZ x0), .int (iZ x1), .int (iZ x2), .int (iZ x3), .int (iZ x4)] m0 (some (.int (iZ r))) (in01 r) nu := by
  refine qn_start (hy := by decide) hT (hw := rfl) (hn := Nat.le_of_ble_eq_true rfl) ?_
  intro X h1 h2 h3 h4 hX hR
  subst h4
  exact w_X7_isForm hX ⟨h1, fun q => h2 ▸ q, h3⟩ r_x0 r_x1 r_x2 r_x3 r_x4 hR h
theorem dd_X7_isForm : yX7_isForm.cls ≠ "java/lang/invoke/MethodHandle" ∧ yX7_isForm.cls ≠ "java/lang/invoke/VarHandle" ∧ (parseMethodDescriptor yX7_isForm.desc).map (fun d => d.parameters.length) = some 5 := by decide +kernel
-- ProRataMarket.isWorthInt
set_option maxHeartbeats 4000000 in
set_option maxRecDepth 20000 in
theorem w_X7_isWorthInt {X : qB} {N : Nat} (hX : qOk X cX7_isWorthInt RX7 2 (some .boolean) wsX7_isWorthInt 0 0) {r : Int} {nu : qM} (hE : xr X = some (.int (iZ r)) ∧ (in01 r → xΦ X) ∧ xμ X = nu) 
    {x0 : Int} {x1 : Int} (r_x0 : in32 x0) (r_x1 : in32 x1) {m0 : qM} (hR_m0 : qR (xG X) m0)
    (h : f_X7_isWorthInt N (xG X)  x0 x1 m0 = some (r, nu)) : qN X 2 0 [(0, .int (iZ x0)), (1, .int (iZ x1))] [] m0 := by
  have hT := hX.T
  unfold f_X7_isWorthInt at h
  refine qn_iload_n hX (pc := 0) dX7_isWorthInt_0 0 rfl rfl ?_
  refine qn_i2l hX (pc := 1) r_x0 dX7_isWorthInt_1 ?_
  refine qn_iload_n hX (pc := 2) dX7_isWorthInt_2 1 rfl rfl ?_
  refine qn_i2l hX (pc := 3) r_x1 dX7_isWorthInt_3 ?_
  obtain ⟨v1, e_v1, r_v1, h⟩ := ckJ_e h
  refine qn_lmul hX (pc := 4) dX7_isWorthInt_4 e_v1 ?_
  refine qn_ldc2 hX (pc := 5) 2147483647 dX7_isWorthInt_5 (by decide +kernel : Cond.constantLong RX7 103 (2147483647) ∈ wsX7_isWorthInt) (by decide) ?_
  refine qn_lcmp hX (pc := 8) r_v1 (by decide) dX7_isWorthInt_8 ?_
  refine qn_if_gt hX (pc := 9) (sgn_in _ _) 16 dX7_isWorthInt_9 (by decide) (fun c2 => ?_) (fun c2 => ?_)
  · have h := ite_t h ((sgn_gt _ _).mp c2)
    refine qn_iconst hX (pc := 16) dX7_isWorthInt_16 ?_
    exact qn_zret hX (pc := 17) dX7_isWorthInt_17 hE hR_m0 (by decide) (Option.some.inj h)
  · have h := ite_f h (fun q => c2 ((sgn_gt _ _).mpr q))
    refine qn_iconst hX (pc := 12) dX7_isWorthInt_12 ?_
    refine qn_goto hX (pc := 13) 17 dX7_isWorthInt_13 (by decide) ?_
    exact qn_zret hX (pc := 17) dX7_isWorthInt_17 hE hR_m0 (by decide) (Option.some.inj h)
theorem k_X7_isWorthInt (l : Launch) {G : qG} (hT : qT G) {N : Nat} {x0 : Int} {x1 : Int} (r_x0 : in32 x0) (r_x1 : in32 x1) {m0 : qM} {r : Int} {nu : qM} (h : f_X7_isWorthInt N G x0 x1 m0 = some (r, nu)) : qC l yX7_isWorthInt wsX7_isWorthInt 0 0 G [.int (iZ x0), .int (iZ x1)] m0 (some (.int (iZ r))) (in01 r) nu := by
  refine qn_start (hy := by decide) hT (hw := rfl) (hn := Nat.le_of_ble_eq_true rfl) ?_
  intro X h1 h2 h3 h4 hX hR
  subst h4
  exact w_X7_isWorthInt hX ⟨h1, fun q => h2 ▸ q, h3⟩ r_x0 r_x1 hR h
theorem dd_X7_isWorthInt : yX7_isWorthInt.cls ≠ "java/lang/invoke/MethodHandle" ∧ yX7_isWorthInt.cls ≠ "java/lang/invoke/VarHandle" ∧ (parseMethodDescriptor yX7_isWorthInt.desc).map (fun d => d.parameters.length) = some 2 := by decide +kernel
-- ProRataMarket.level
theorem hi_X7_level_7 : ∀ w ∈ wsX70, w ∈ wsX7_level := fun w h => List.mem_cons_of_mem _ (List.mem_append_left _ (List.mem_append_left _ (List.mem_append_left _ (List.mem_append_right _ h))))
theorem fd_X7_level_10 : qFd RX7 wsX7_level 10 7 0 1 700 := ⟨RX7, TX7, 3, _, rfl, hi_X7_level_7, by decide, (by decide +kernel : Cond.fieldLink RX7 10 (TX7 0).1 (TX7 0).2.1 (TX7 0).2.2.1 ∈ wsX7_level), rfl, rfl, by decide⟩
theorem hi_X7_level_2 : ∀ w ∈ wsX20, w ∈ wsX7_level := fun w h => List.mem_cons_of_mem _ (List.mem_append_left _ (List.mem_append_left _ (List.mem_append_right _ h)))
theorem fd_X7_level_105 : qFd RX7 wsX7_level 105 2 0 1 200 := ⟨RX2, TX2, 12, _, rfl, hi_X7_level_2, by decide, (by decide +kernel : Cond.fieldLink RX7 105 (TX2 0).1 (TX2 0).2.1 (TX2 0).2.2.1 ∈ wsX7_level), rfl, rfl, by decide⟩
set_option maxHeartbeats 4000000 in
set_option maxRecDepth 20000 in
theorem w_X7_level {X : qB} {N : Nat} (hX : qOk X cX7_level RX7 5 (some .int) wsX7_level 4 92) {r : Int} {nu : qM} (hE : xr X = some (.int (iZ r)) ∧ (in32 r → xΦ X) ∧ xμ X = nu) 
    {x0 : Nat} {x1 : Int} {x2 : Int} {x3 : Int} (k_x0 : gK (xG X) x0 = 8) (r_x1 : in32 x1) (r_x2 : in32 x2) (r_x3 : in32 x3) {m0 : qM} (hR_m0 : qR (xG X) m0)
    (h : f_X7_level N (xG X)  x0 x1 x2 x3 m0 = some (r, nu)) : qN X 5 0 [(0, .ref x0), (1, .int (iZ x1)), (2, .int (iZ x2)), (3, .int (iZ x3))] [] m0 := by
  have hT := hX.T
  unfold f_X7_level at h
  refine qn_iload_n hX (pc := 0) dX7_level_0 1 rfl rfl ?_
  obtain ⟨v2, m1, e_m1, h⟩ := kb2_e h
  refine qn_callSi hX (pc := 1) [.int (iZ x1)] [.int (iZ x1)] 1 dX7_level_1 gX7_level_X7_isSide rfl dd_X7_isSide ⟨rfl, rfl⟩ rfl rfl rfl hR_m0 (k_X7_isSide (xl X) hT r_x1 e_m1) (fun r_v2 hR_m1 => ?_)
  refine qn_if_eq hX (pc := 4) r_v2.i 16 dX7_level_4 (by decide) (fun c3 => ?_) (fun c3 => ?_)
  · have h := ite_t h c3
    refine qn_iconst hX (pc := 16) dX7_level_16 ?_
    exact qn_iret hX (pc := 17) dX7_level_17 hE hR_m1 (by decide) (Option.some.inj h)
  · have h := ite_f h c3
    refine qn_iload_n hX (pc := 7) dX7_level_7 3 rfl rfl ?_
    refine qn_if_lt hX (pc := 8) r_x3 16 dX7_level_8 (by decide) (fun c4 => ?_) (fun c4 => ?_)
    · have h := ite_t h c4
      refine qn_iconst hX (pc := 16) dX7_level_16 ?_
      exact qn_iret hX (pc := 17) dX7_level_17 hE hR_m1 (by decide) (Option.some.inj h)
    · have h := ite_f h c4
      refine qn_iload_n hX (pc := 11) dX7_level_11 3 rfl rfl ?_
      refine qn_iconst hX (pc := 12) dX7_level_12 ?_
      refine qn_icmp_le hX (pc := 13) r_x3 (by decide) 18 dX7_level_13 (by decide) (fun c5 => ?_) (fun c5 => ?_)
      · have h := ite_f h c5
        refine qn_iload_n hX (pc := 18) dX7_level_18 2 rfl rfl ?_
        refine qn_iconst hX (pc := 19) dX7_level_19 ?_
        refine qn_icmp_ne hX (pc := 20) r_x2 (by decide) 35 dX7_level_20 (by decide) (fun c6 => ?_) (fun c6 => ?_)
        · have h := ite_f h c6
          refine qn_aload_n hX (pc := 35) dX7_level_35 0 rfl rfl ?_
          refine qn_getR hX (pc := 36) fd_X7_level_10 dX7_level_36 k_x0 ?_
          refine qn_getR hX (pc := 39) fd_X7_level_105 dX7_level_39 (qr_700 hT k_x0) ?_
          refine qn_iload_n hX (pc := 42) dX7_level_42 1 rfl rfl ?_
          refine qn_iload_n hX (pc := 43) dX7_level_43 2 rfl rfl ?_
          obtain ⟨v8, m7, e_m7, h⟩ := kb2_e h
          refine qn_callVi hX (pc := 44) [.int (iZ x1), .int (iZ x2)] [.int (iZ x2), .int (iZ x1)] 2 dX7_level_44 gX7_level_X0_priceAt rfl dd_X0_priceAt ⟨rfl, rfl⟩ rfl rfl (by decide) (qr_200 hT (qr_700 hT k_x0)) rfl rfl hR_m1 (k_X0_priceAt (xl X) hT (qr_200 hT (qr_700 hT k_x0)) r_x1 r_x2 e_m7) (fun r_v8 hR_m7 => ?_)
          refine qn_istore hX (pc := 47) (ls' := [(4, .int (iZ v8)), (0, .ref x0), (1, .int (iZ x1)), (2, .int (iZ x2)), (3, .int (iZ x3))]) dX7_level_47 rfl rfl ?_
          refine qn_iload hX (pc := 49) dX7_level_49 0 rfl ?_
          refine qn_if_ne hX (pc := 51) r_v8 56 dX7_level_51 (by decide) (fun c9 => ?_) (fun c9 => ?_)
          · have h := ite_f h c9
            refine qn_iload_n hX (pc := 56) dX7_level_56 4 rfl rfl ?_
            by_cases c10 : x3 = 0
            · have h := ite_t h c10
              refine qn_lsw hX (pc := 57) r_x3 84 dX7_level_57 rfl (by rw [c10] <;> rfl) (by decide) ?_
              refine qn_iload hX (pc := 84) dX7_level_84 0 rfl ?_
              exact qn_iret hX (pc := 86) dX7_level_86 hE hR_m7 r_v8 (Option.some.inj h)
            have h := ite_f h c10
            by_cases c11 : x3 = 1
            · have h := ite_t h c11
              refine qn_lsw hX (pc := 57) r_x3 87 dX7_level_57 rfl (by rw [c11] <;> rfl) (by decide) ?_
              refine qn_aload_n hX (pc := 87) dX7_level_87 1 rfl rfl ?_
              refine qn_getR hX (pc := 88) fd_X7_level_10 dX7_level_88 k_x0 ?_
              refine qn_getR hX (pc := 91) fd_X7_level_105 dX7_level_91 (qr_700 hT k_x0) ?_
              refine qn_iload_n hX (pc := 94) dX7_level_94 2 rfl rfl ?_
              refine qn_iload hX (pc := 95) dX7_level_95 0 rfl ?_
              obtain ⟨v13, m12, e_m12, h⟩ := kb2_e h
              refine qn_callVi hX (pc := 97) [.int (iZ x1), .int (iZ v8)] [.int (iZ v8), .int (iZ x1)] 2 dX7_level_97 gX7_level_X0_sizesAt rfl dd_X0_sizesAt ⟨rfl, rfl⟩ rfl rfl (by decide) (qr_200 hT (qr_700 hT k_x0)) rfl rfl hR_m7 (k_X0_sizesAt (xl X) hT (qr_200 hT (qr_700 hT k_x0)) r_x1 r_v8 e_m12) (fun r_v13 hR_m12 => ?_)
              exact qn_iret hX (pc := 100) dX7_level_100 hE hR_m12 r_v13 (Option.some.inj h)
            have h := ite_f h c11
            refine qn_lsw hX (pc := 57) r_x3 101 dX7_level_57 rfl (by simp [Op.lookupswitch.offset, Ne.symm (Ne.intro c10), Ne.symm (Ne.intro c11), c10, c11]; rfl) (by decide) ?_
            refine qn_aload_n hX (pc := 101) dX7_level_101 1 rfl rfl ?_
            refine qn_getR hX (pc := 102) fd_X7_level_10 dX7_level_102 k_x0 ?_
            refine qn_getR hX (pc := 105) fd_X7_level_105 dX7_level_105 (qr_700 hT k_x0) ?_
            refine qn_iload_n hX (pc := 108) dX7_level_108 2 rfl rfl ?_
            refine qn_iload hX (pc := 109) dX7_level_109 0 rfl ?_
            obtain ⟨v15, m14, e_m14, h⟩ := kb2_e h
            refine qn_callVi hX (pc := 111) [.int (iZ x1), .int (iZ v8)] [.int (iZ v8), .int (iZ x1)] 2 dX7_level_111 gX7_level_X0_ordersAt rfl dd_X0_ordersAt ⟨rfl, rfl⟩ rfl rfl (by decide) (qr_200 hT (qr_700 hT k_x0)) rfl rfl hR_m7 (k_X0_ordersAt (xl X) hT (qr_200 hT (qr_700 hT k_x0)) r_x1 r_v8 e_m14) (fun r_v15 hR_m14 => ?_)
            exact qn_iret hX (pc := 114) dX7_level_114 hE hR_m14 r_v15 (Option.some.inj h)
          · have h := ite_t h c9
            refine qn_iconst hX (pc := 54) dX7_level_54 ?_
            exact qn_iret hX (pc := 55) dX7_level_55 hE hR_m7 (by decide) (Option.some.inj h)
        · have h := ite_t h c6
          refine qn_aload_n hX (pc := 23) dX7_level_23 0 rfl rfl ?_
          refine qn_getR hX (pc := 24) fd_X7_level_10 dX7_level_24 k_x0 ?_
          refine qn_getR hX (pc := 27) fd_X7_level_105 dX7_level_27 (qr_700 hT k_x0) ?_
          refine qn_iload_n hX (pc := 30) dX7_level_30 1 rfl rfl ?_
          obtain ⟨v17, m16, e_m16, h⟩ := kb2_e h
          refine qn_callVi hX (pc := 31) [.int (iZ x1)] [.int (iZ x1)] 1 dX7_level_31 gX7_level_X0_prices rfl dd_X0_prices ⟨rfl, rfl⟩ rfl rfl (by decide) (qr_200 hT (qr_700 hT k_x0)) rfl rfl hR_m1 (k_X0_prices (xl X) hT (qr_200 hT (qr_700 hT k_x0)) r_x1 e_m16) (fun r_v17 hR_m16 => ?_)
          exact qn_iret hX (pc := 34) dX7_level_34 hE hR_m16 r_v17 (Option.some.inj h)
      · have h := ite_t h c5
        refine qn_iconst hX (pc := 16) dX7_level_16 ?_
        exact qn_iret hX (pc := 17) dX7_level_17 hE hR_m1 (by decide) (Option.some.inj h)
theorem k_X7_level (l : Launch) {G : qG} (hT : qT G) {N : Nat} {x0 : Nat} {x1 : Int} {x2 : Int} {x3 : Int} (k_x0 : gK G x0 = 8) (r_x1 : in32 x1) (r_x2 : in32 x2) (r_x3 : in32 x3) {m0 : qM} {r : Int} {nu : qM} (h : f_X7_level N G x0 x1 x2 x3 m0 = some (r, nu)) : qC l yX7_level wsX7_level 4 92 G [.ref x0, .int (iZ x1), .int (iZ x2), .int (iZ x3)] m0 (some (.int (iZ r))) (in32 r) nu := by
  refine qn_start (hy := by decide) hT (hw := rfl) (hn := Nat.le_of_ble_eq_true rfl) ?_
  intro X h1 h2 h3 h4 hX hR
  subst h4
  exact w_X7_level hX ⟨h1, fun q => h2 ▸ q, h3⟩ k_x0 r_x1 r_x2 r_x3 hR h
theorem dd_X7_level : yX7_level.cls = RX7 ∧ yX7_level.cls ≠ "java/lang/invoke/MethodHandle" ∧ yX7_level.cls ≠ "java/lang/invoke/VarHandle" ∧ (parseMethodDescriptor yX7_level.desc).map (fun d => d.parameters.length) = some 3 := by decide +kernel
-- ProRataMarket.message
theorem hi_X7_message_7 : ∀ w ∈ wsX70, w ∈ wsX7_message := fun w h => List.mem_cons_of_mem _ (List.mem_append_left _ (List.mem_append_left _ (List.mem_append_left _ (List.mem_append_left _ (List.mem_append_left _ (List.mem_append_left _ (List.mem_append_left _ (List.mem_append_right _ h))))))))
theorem fd_X7_message_22 : qFd RX7 wsX7_message 22 7 2 1 702 := ⟨RX7, TX7, 3, _, rfl, hi_X7_message_7, by decide, (by decide +kernel : Cond.fieldLink RX7 22 (TX7 2).1 (TX7 2).2.1 (TX7 2).2.2.1 ∈ wsX7_message), rfl, rfl, by decide⟩
theorem hi_X7_message_6 : ∀ w ∈ wsX60, w ∈ wsX7_message := fun w h => List.mem_cons_of_mem _ (List.mem_append_left _ (List.mem_append_left _ (List.mem_append_left _ (List.mem_append_left _ (List.mem_append_left _ (List.mem_append_left _ (List.mem_append_right _ h)))))))
theorem fd_X7_message_37 : qFd RX7 wsX7_message 37 6 7 0 607 := ⟨RX6, TX6, 12, _, rfl, hi_X7_message_6, by decide, (by decide +kernel : Cond.fieldLink RX7 37 (TX6 7).1 (TX6 7).2.1 (TX6 7).2.2.1 ∈ wsX7_message), rfl, rfl, by decide⟩
theorem fd_X7_message_48 : qFd RX7 wsX7_message 48 6 8 0 608 := ⟨RX6, TX6, 12, _, rfl, hi_X7_message_6, by decide, (by decide +kernel : Cond.fieldLink RX7 48 (TX6 8).1 (TX6 8).2.1 (TX6 8).2.2.1 ∈ wsX7_message), rfl, rfl, by decide⟩
theorem fd_X7_message_51 : qFd RX7 wsX7_message 51 6 9 1 609 := ⟨RX6, TX6, 12, _, rfl, hi_X7_message_6, by decide, (by decide +kernel : Cond.fieldLink RX7 51 (TX6 9).1 (TX6 9).2.1 (TX6 9).2.2.1 ∈ wsX7_message), rfl, rfl, by decide⟩
theorem fd_X7_message_45 : qFd RX7 wsX7_message 45 6 11 0 611 := ⟨RX6, TX6, 12, _, rfl, hi_X7_message_6, by decide, (by decide +kernel : Cond.fieldLink RX7 45 (TX6 11).1 (TX6 11).2.1 (TX6 11).2.2.1 ∈ wsX7_message), rfl, rfl, by decide⟩
theorem fd_X7_message_26 : qFd RX7 wsX7_message 26 6 1 0 601 := ⟨RX6, TX6, 12, _, rfl, hi_X7_message_6, by decide, (by decide +kernel : Cond.fieldLink RX7 26 (TX6 1).1 (TX6 1).2.1 (TX6 1).2.2.1 ∈ wsX7_message), rfl, rfl, by decide⟩
theorem fp_X7_message_26 : qFp RX7 wsX7_message 26 6 1 0 601 .int := ⟨RX6, TX6, 12, _, tyX6, rfl, hi_X7_message_6, by decide, (by decide +kernel : Cond.fieldLink RX7 26 (TX6 1).1 (TX6 1).2.1 (TX6 1).2.2.1 ∈ wsX7_message), rfl, rfl, by decide, tyX6_ok, nmX6, rfl, by decide +kernel⟩
set_option maxHeartbeats 4000000 in
set_option maxRecDepth 20000 in
theorem w_X7_message_142 {X : qB} {N : Nat} (hX : qOk X cX7_message RX7 4 (some .int) wsX7_message 7 176) {r : Int} {nu : qM} (hE : xr X = some (.int (iZ r)) ∧ (in32 r → xΦ X) ∧ xμ X = nu) {k91 : (Nat → Int → Int → qM → Option (Int × qM))} (hk91 : ∀ (x0 : Nat) (x2 : Int) (x3 : Int) (m0 : qM), gK (xG X) x0 = 8 → in32 x2 → in32 x3 → qR (xG X) m0 → k91 x0 x2 x3 m0 = some (r, nu) → qN X 4 91 [(0, .ref x0), (2, .int (iZ x2)), (3, .int (iZ x3))] [] m0)
    {x0 : Nat} {x2 : Int} {x3 : Int} (k_x0 : gK (xG X) x0 = 8) (r_x2 : in32 x2) (r_x3 : in32 x3) {m0 : qM} (hR_m0 : qR (xG X) m0)
    (h : f_X7_message_142 N (xG X) k91 x0 x2 x3 m0 = some (r, nu)) : qN X 4 142 [(0, .ref x0), (2, .int (iZ x2)), (3, .int (iZ x3))] [] m0 := by
  have hT := hX.T
  unfold f_X7_message_142 at h
  obtain ⟨v1, e_v1, r_v1, h⟩ := ckI_e h
  refine qn_iinc hX (pc := 142) (ls' := [(3, .int (iZ v1)), (0, .ref x0), (2, .int (iZ x2))]) dX7_message_142 2 rfl e_v1 rfl rfl ?_
  refine qn_goto hX (pc := 145) 91 dX7_message_145 (by decide) ?_
  refine qn_sub (ls' := [(0, .ref x0), (2, .int (iZ x2)), (3, .int (iZ v1))]) [1, 2, 0] rfl ?_
  exact hk91 x0 x2 v1 m0 k_x0 r_x2 r_v1 hR_m0 h
set_option maxHeartbeats 4000000 in
set_option maxRecDepth 20000 in
theorem w_X7_message_91 {X : qB} {N : Nat} (hX : qOk X cX7_message RX7 4 (some .int) wsX7_message 7 176) {r : Int} {nu : qM} (hE : xr X = some (.int (iZ r)) ∧ (in32 r → xΦ X) ∧ xμ X = nu) {k91 : (Nat → Int → Int → qM → Option (Int × qM))} (hk91 : ∀ (x0 : Nat) (x2 : Int) (x3 : Int) (m0 : qM), gK (xG X) x0 = 8 → in32 x2 → in32 x3 → qR (xG X) m0 → k91 x0 x2 x3 m0 = some (r, nu) → qN X 4 91 [(0, .ref x0), (2, .int (iZ x2)), (3, .int (iZ x3))] [] m0)
    {x0 : Nat} {x2 : Int} {x3 : Int} (k_x0 : gK (xG X) x0 = 8) (r_x2 : in32 x2) (r_x3 : in32 x3) {m0 : qM} (hR_m0 : qR (xG X) m0)
    (h : f_X7_message_91 N (xG X) k91 x0 x2 x3 m0 = some (r, nu)) : qN X 4 91 [(0, .ref x0), (2, .int (iZ x2)), (3, .int (iZ x3))] [] m0 := by
  have hT := hX.T
  unfold f_X7_message_91 at h
  refine qn_iload_n hX (pc := 91) dX7_message_91 2 rfl rfl ?_
  refine qn_sipush hX (pc := 92) dX7_message_92 (by decide) ?_
  refine qn_icmp_ge hX (pc := 95) r_x3 (by decide) 148 dX7_message_95 (by decide) (fun c1 => ?_) (fun c1 => ?_)
  · have h := ite_f h c1
    refine qn_iload_n hX (pc := 148) dX7_message_148 1 rfl rfl ?_
    exact qn_iret hX (pc := 149) dX7_message_149 hE hR_m0 r_x2 (Option.some.inj h)
  · have h := ite_t h c1
    refine qn_aload_n hX (pc := 98) dX7_message_98 0 rfl rfl ?_
    refine qn_getR hX (pc := 99) fd_X7_message_22 dX7_message_99 k_x0 ?_
    refine qn_getI hX (pc := 102) fd_X7_message_37 dX7_message_102 (qr_702 hT k_x0) ?_
    refine qn_if_eq hX (pc := 105) ((hR_m0.zz 607 _ rfl).i) 148 dX7_message_105 (by decide) (fun c2 => ?_) (fun c2 => ?_)
    · have h := ite_t h c2
      refine qn_iload_n hX (pc := 148) dX7_message_148 1 rfl rfl ?_
      exact qn_iret hX (pc := 149) dX7_message_149 hE hR_m0 r_x2 (Option.some.inj h)
    · have h := ite_f h c2
      refine qn_aload_n hX (pc := 108) dX7_message_108 0 rfl rfl ?_
      refine qn_getR hX (pc := 109) fd_X7_message_22 dX7_message_109 k_x0 ?_
      obtain ⟨v4, m3, e_m3, h⟩ := kb2_e h
      refine qn_callVi hX (pc := 112) [] [] 0 dX7_message_112 gX7_message_X6_readLine rfl dd_X6_readLine ⟨rfl, rfl⟩ rfl rfl (by decide) (qr_702 hT k_x0) rfl rfl hR_m0 (k_X6_readLine (xl X) hT (qr_702 hT k_x0) e_m3) (fun r_v4 hR_m3 => ?_)
      refine qn_if_eq hX (pc := 115) r_v4.i 142 dX7_message_115 (by decide) (fun c5 => ?_) (fun c5 => ?_)
      · have h := ite_t h c5
        refine qn_sub (ls' := [(0, .ref x0), (2, .int (iZ x2)), (3, .int (iZ x3))]) [0, 1, 2] rfl ?_
        exact w_X7_message_142 hX hE hk91 k_x0 r_x2 r_x3 hR_m3 h
      · have h := ite_f h c5
        refine qn_aload_n hX (pc := 118) dX7_message_118 0 rfl rfl ?_
        refine qn_aload_n hX (pc := 119) dX7_message_119 0 rfl rfl ?_
        refine qn_getR hX (pc := 120) fd_X7_message_22 dX7_message_120 k_x0 ?_
        refine qn_getI hX (pc := 123) fd_X7_message_48 dX7_message_123 (qr_702 hT k_x0) ?_
        refine qn_aload_n hX (pc := 126) dX7_message_126 0 rfl rfl ?_
        refine qn_getR hX (pc := 127) fd_X7_message_22 dX7_message_127 k_x0 ?_
        refine qn_getR hX (pc := 130) fd_X7_message_51 dX7_message_130 (qr_702 hT k_x0) ?_
        obtain ⟨v7, m6, e_m6, h⟩ := kb2_e h
        refine qn_callVi hX (pc := 133) [.int (iZ (gI m3 608 (gR (xG X) 702 x0))), .ref (gR (xG X) 609 (gR (xG X) 702 x0))] [.ref (gR (xG X) 609 (gR (xG X) 702 x0)), .int (iZ (gI m3 608 (gR (xG X) 702 x0)))] 2 dX7_message_133 gX7_message_X7_doLine rfl dd_X7_doLine ⟨rfl, rfl⟩ rfl rfl (by decide) k_x0 rfl rfl hR_m3 (k_X7_doLine (xl X) hT k_x0 (hR_m3.i 608 _ rfl) (qr_609 hT (qr_702 hT k_x0)) e_m6) (fun r_v7 hR_m6 => ?_)
        refine qn_if_eq hX (pc := 136) r_v7.i 142 dX7_message_136 (by decide) (fun c8 => ?_) (fun c8 => ?_)
        · have h := ite_t h c8
          refine qn_sub (ls' := [(0, .ref x0), (2, .int (iZ x2)), (3, .int (iZ x3))]) [0, 1, 2] rfl ?_
          exact w_X7_message_142 hX hE hk91 k_x0 r_x2 r_x3 hR_m6 h
        · have h := ite_f h c8
          obtain ⟨v9, e_v9, r_v9, h⟩ := ckI_e h
          refine qn_iinc hX (pc := 139) (ls' := [(2, .int (iZ v9)), (0, .ref x0), (3, .int (iZ x3))]) dX7_message_139 1 rfl e_v9 rfl rfl ?_
          refine qn_sub (ls' := [(0, .ref x0), (2, .int (iZ v9)), (3, .int (iZ x3))]) [1, 0, 2] rfl ?_
          exact w_X7_message_142 hX hE hk91 k_x0 r_v9 r_x3 hR_m6 h
set_option maxHeartbeats 4000000 in
set_option maxRecDepth 20000 in
theorem w_X7_message_L91 {X : qB} {N : Nat} (hX : qOk X cX7_message RX7 4 (some .int) wsX7_message 7 176) {r : Int} {nu : qM} (hE : xr X = some (.int (iZ r)) ∧ (in32 r → xΦ X) ∧ xμ X = nu) 
    {x0 : Nat} {x2 : Int} {x3 : Int} (k_x0 : gK (xG X) x0 = 8) (r_x2 : in32 x2) (r_x3 : in32 x3) {m0 : qM} (hR_m0 : qR (xG X) m0)
    (h : f_X7_message_L91 N (xG X)  x0 x2 x3 m0 = some (r, nu)) : qN X 4 91 [(0, .ref x0), (2, .int (iZ x2)), (3, .int (iZ x3))] [] m0 := by
  unfold f_X7_message_L91 at h
  exact qLoop_w (σ := Nat × Int × Int × qM) (P := fun p => gK (xG X) p.1 = 8 ∧ in32 p.2.1 ∧ in32 p.2.2.1 ∧ qR (xG X) p.2.2.2) (Q := fun p => qN X 4 91 [(0, .ref p.1), (2, .int (iZ p.2.1)), (3, .int (iZ p.2.2.1))] [] p.2.2.2) (fun k hrec p hp hh => w_X7_message_91 hX hE (fun x0 x2 x3 m0 q0 q1 q2 hRm hh => hrec (x0, x2, x3, m0) ⟨q0, q1, q2, hRm⟩ hh) hp.1 hp.2.1 hp.2.2.1 hp.2.2.2 hh) N (x0, x2, x3, m0) ⟨k_x0, r_x2, r_x3, hR_m0⟩ h
set_option maxHeartbeats 4000000 in
set_option maxRecDepth 20000 in
theorem w_X7_message_79 {X : qB} {N : Nat} (hX : qOk X cX7_message RX7 4 (some .int) wsX7_message 7 176) {r : Int} {nu : qM} (hE : xr X = some (.int (iZ r)) ∧ (in32 r → xΦ X) ∧ xμ X = nu) 
    {x0 : Nat} {x1 : Int} (k_x0 : gK (xG X) x0 = 8) (r_x1 : in32 x1) {m0 : qM} (hR_m0 : qR (xG X) m0)
    (h : f_X7_message_79 N (xG X)  x0 x1 m0 = some (r, nu)) : qN X 4 79 [(0, .ref x0), (1, .int (iZ x1))] [] m0 := by
  have hT := hX.T
  unfold f_X7_message_79 at h
  refine qn_aload_n hX (pc := 79) dX7_message_79 0 rfl rfl ?_
  refine qn_getR hX (pc := 80) fd_X7_message_22 dX7_message_80 k_x0 ?_
  refine qn_iload_n hX (pc := 83) dX7_message_83 1 rfl rfl ?_
  obtain ⟨m1, e_m1, h⟩ := kb_e h
  refine qn_callVv hX (pc := 84) [.int (iZ x1)] [.int (iZ x1)] 1 dX7_message_84 gX7_message_X6_rewind rfl dd_X6_rewind ⟨rfl, rfl⟩ rfl rfl (by decide) (qr_702 hT k_x0) rfl rfl hR_m0 (k_X6_rewind (xl X) hT (qr_702 hT k_x0) r_x1 e_m1) (fun r_v2 hR_m1 => ?_)
  refine qn_iconst hX (pc := 87) dX7_message_87 ?_
  refine qn_istore_n hX (pc := 88) (ls' := [(2, .int (iZ 0)), (0, .ref x0), (1, .int (iZ x1))]) dX7_message_88 rfl rfl rfl ?_
  refine qn_iconst hX (pc := 89) dX7_message_89 ?_
  refine qn_istore_n hX (pc := 90) (ls' := [(3, .int (iZ 0)), (2, .int (iZ 0)), (0, .ref x0), (1, .int (iZ x1))]) dX7_message_90 rfl rfl rfl ?_
  refine qn_sub (ls' := [(0, .ref x0), (2, .int (iZ 0)), (3, .int (iZ 0))]) [2, 1, 0] rfl ?_
  exact w_X7_message_L91 hX hE  k_x0 (by decide) (by decide) hR_m1 h
set_option maxHeartbeats 4000000 in
set_option maxRecDepth 20000 in
theorem w_X7_message_35 {X : qB} {N : Nat} (hX : qOk X cX7_message RX7 4 (some .int) wsX7_message 7 176) {r : Int} {nu : qM} (hE : xr X = some (.int (iZ r)) ∧ (in32 r → xΦ X) ∧ xμ X = nu) {k35 : (Nat → Int → Int → qM → Option (Int × qM))} (hk35 : ∀ (x0 : Nat) (x1 : Int) (x2 : Int) (m0 : qM), gK (xG X) x0 = 8 → in32 x1 → in32 x2 → qR (xG X) m0 → k35 x0 x1 x2 m0 = some (r, nu) → qN X 4 35 [(0, .ref x0), (1, .int (iZ x1)), (2, .int (iZ x2))] [] m0)
    {x0 : Nat} {x1 : Int} {x2 : Int} (k_x0 : gK (xG X) x0 = 8) (r_x1 : in32 x1) (r_x2 : in32 x2) {m0 : qM} (hR_m0 : qR (xG X) m0)
    (h : f_X7_message_35 N (xG X) k35 x0 x1 x2 m0 = some (r, nu)) : qN X 4 35 [(0, .ref x0), (1, .int (iZ x1)), (2, .int (iZ x2))] [] m0 := by
  have hT := hX.T
  unfold f_X7_message_35 at h
  refine qn_iload_n hX (pc := 35) dX7_message_35 2 rfl rfl ?_
  refine qn_sipush hX (pc := 36) dX7_message_36 (by decide) ?_
  refine qn_icmp_ge hX (pc := 39) r_x2 (by decide) 79 dX7_message_39 (by decide) (fun c1 => ?_) (fun c1 => ?_)
  · have h := ite_f h c1
    refine qn_sub (ls' := [(0, .ref x0), (1, .int (iZ x1))]) [0, 1] rfl ?_
    exact w_X7_message_79 hX hE  k_x0 r_x1 hR_m0 h
  · have h := ite_t h c1
    refine qn_aload_n hX (pc := 42) dX7_message_42 0 rfl rfl ?_
    refine qn_getR hX (pc := 43) fd_X7_message_22 dX7_message_43 k_x0 ?_
    refine qn_getI hX (pc := 46) fd_X7_message_37 dX7_message_46 (qr_702 hT k_x0) ?_
    refine qn_if_eq hX (pc := 49) ((hR_m0.zz 607 _ rfl).i) 79 dX7_message_49 (by decide) (fun c2 => ?_) (fun c2 => ?_)
    · have h := ite_t h c2
      refine qn_sub (ls' := [(0, .ref x0), (1, .int (iZ x1))]) [0, 1] rfl ?_
      exact w_X7_message_79 hX hE  k_x0 r_x1 hR_m0 h
    · have h := ite_f h c2
      refine qn_aload_n hX (pc := 52) dX7_message_52 0 rfl rfl ?_
      refine qn_getR hX (pc := 53) fd_X7_message_22 dX7_message_53 k_x0 ?_
      obtain ⟨v4, m3, e_m3, h⟩ := kb2_e h
      refine qn_callVi hX (pc := 56) [] [] 0 dX7_message_56 gX7_message_X6_readLine rfl dd_X6_readLine ⟨rfl, rfl⟩ rfl rfl (by decide) (qr_702 hT k_x0) rfl rfl hR_m0 (k_X6_readLine (xl X) hT (qr_702 hT k_x0) e_m3) (fun r_v4 hR_m3 => ?_)
      refine qn_if_ne hX (pc := 59) r_v4.i 73 dX7_message_59 (by decide) (fun c5 => ?_) (fun c5 => ?_)
      · have h := ite_f h c5
        obtain ⟨v6, e_v6, r_v6, h⟩ := ckI_e h
        refine qn_iinc hX (pc := 73) (ls' := [(2, .int (iZ v6)), (0, .ref x0), (1, .int (iZ x1))]) dX7_message_73 2 rfl e_v6 rfl rfl ?_
        refine qn_goto hX (pc := 76) 35 dX7_message_76 (by decide) ?_
        refine qn_sub (ls' := [(0, .ref x0), (1, .int (iZ x1)), (2, .int (iZ v6))]) [1, 2, 0] rfl ?_
        exact hk35 x0 x1 v6 m3 k_x0 r_x1 r_v6 hR_m3 h
      · have h := ite_t h c5
        refine qn_bipush hX (pc := 62) dX7_message_62 (by decide) ?_
        refine qn_aload_n hX (pc := 64) dX7_message_64 0 rfl rfl ?_
        refine qn_getR hX (pc := 65) fd_X7_message_22 dX7_message_65 k_x0 ?_
        refine qn_getI hX (pc := 68) fd_X7_message_45 dX7_message_68 (qr_702 hT k_x0) ?_
        obtain ⟨v7, e_v7, r_v7, h⟩ := ckI_e h
        refine qn_isub hX (pc := 71) dX7_message_71 e_v7 ?_
        exact qn_iret hX (pc := 72) dX7_message_72 hE hR_m3 r_v7 (Option.some.inj h)
set_option maxHeartbeats 4000000 in
set_option maxRecDepth 20000 in
theorem w_X7_message_L35 {X : qB} {N : Nat} (hX : qOk X cX7_message RX7 4 (some .int) wsX7_message 7 176) {r : Int} {nu : qM} (hE : xr X = some (.int (iZ r)) ∧ (in32 r → xΦ X) ∧ xμ X = nu) 
    {x0 : Nat} {x1 : Int} {x2 : Int} (k_x0 : gK (xG X) x0 = 8) (r_x1 : in32 x1) (r_x2 : in32 x2) {m0 : qM} (hR_m0 : qR (xG X) m0)
    (h : f_X7_message_L35 N (xG X)  x0 x1 x2 m0 = some (r, nu)) : qN X 4 35 [(0, .ref x0), (1, .int (iZ x1)), (2, .int (iZ x2))] [] m0 := by
  unfold f_X7_message_L35 at h
  exact qLoop_w (σ := Nat × Int × Int × qM) (P := fun p => gK (xG X) p.1 = 8 ∧ in32 p.2.1 ∧ in32 p.2.2.1 ∧ qR (xG X) p.2.2.2) (Q := fun p => qN X 4 35 [(0, .ref p.1), (1, .int (iZ p.2.1)), (2, .int (iZ p.2.2.1))] [] p.2.2.2) (fun k hrec p hp hh => w_X7_message_35 hX hE (fun x0 x1 x2 m0 q0 q1 q2 hRm hh => hrec (x0, x1, x2, m0) ⟨q0, q1, q2, hRm⟩ hh) hp.1 hp.2.1 hp.2.2.1 hp.2.2.2 hh) N (x0, x1, x2, m0) ⟨k_x0, r_x1, r_x2, hR_m0⟩ h
set_option maxHeartbeats 4000000 in
set_option maxRecDepth 20000 in
theorem w_X7_message {X : qB} {N : Nat} (hX : qOk X cX7_message RX7 4 (some .int) wsX7_message 7 176) {r : Int} {nu : qM} (hE : xr X = some (.int (iZ r)) ∧ (in32 r → xΦ X) ∧ xμ X = nu) 
    {x0 : Nat} {x1 : Int} (k_x0 : gK (xG X) x0 = 8) (r_x1 : in32 x1) {m0 : qM} (hR_m0 : qR (xG X) m0)
    (h : f_X7_message N (xG X)  x0 x1 m0 = some (r, nu)) : qN X 4 0 [(0, .ref x0), (1, .int (iZ x1))] [] m0 := by
  have hT := hX.T
  unfold f_X7_message at h
  refine qn_iload_n hX (pc := 0) dX7_message_0 1 rfl rfl ?_
  refine qn_if_lt hX (pc := 1) r_x1 15 dX7_message_1 (by decide) (fun c1 => ?_) (fun c1 => ?_)
  · have h := ite_t h c1
    refine qn_iconst hX (pc := 15) dX7_message_15 ?_
    exact qn_iret hX (pc := 16) dX7_message_16 hE hR_m0 (by decide) (Option.some.inj h)
  · have h := ite_f h c1
    refine qn_iload_n hX (pc := 4) dX7_message_4 1 rfl rfl ?_
    refine qn_aload_n hX (pc := 5) dX7_message_5 0 rfl rfl ?_
    refine qn_getR hX (pc := 6) fd_X7_message_22 dX7_message_6 k_x0 ?_
    refine qn_getI hX (pc := 9) fd_X7_message_26 dX7_message_9 (qr_702 hT k_x0) ?_
    refine qn_icmp_le hX (pc := 12) r_x1 (hR_m0.i 601 _ rfl) 17 dX7_message_12 (by decide) (fun c2 => ?_) (fun c2 => ?_)
    · have h := ite_f h c2
      refine qn_aload_n hX (pc := 17) dX7_message_17 0 rfl rfl ?_
      refine qn_getR hX (pc := 18) fd_X7_message_22 dX7_message_18 k_x0 ?_
      refine qn_iconst hX (pc := 21) dX7_message_21 ?_
      obtain ⟨m3, e_m3, h⟩ := kp_e h
      refine qn_putI hX (pc := 22) fp_X7_message_26 dX7_message_22 (qr_702 hT k_x0) hR_m0 (show in32 0 by decide) e_m3 (fun hR_m3 => ?_) 
      refine qn_aload_n hX (pc := 25) dX7_message_25 0 rfl rfl ?_
      refine qn_getR hX (pc := 26) fd_X7_message_22 dX7_message_26 k_x0 ?_
      refine qn_iload_n hX (pc := 29) dX7_message_29 1 rfl rfl ?_
      obtain ⟨m4, e_m4, h⟩ := kb_e h
      refine qn_callVv hX (pc := 30) [.int (iZ x1)] [.int (iZ x1)] 1 dX7_message_30 gX7_message_X6_rewind rfl dd_X6_rewind ⟨rfl, rfl⟩ rfl rfl (by decide) (qr_702 hT k_x0) rfl rfl hR_m3 (k_X6_rewind (xl X) hT (qr_702 hT k_x0) r_x1 e_m4) (fun r_v5 hR_m4 => ?_)
      refine qn_iconst hX (pc := 33) dX7_message_33 ?_
      refine qn_istore_n hX (pc := 34) (ls' := [(2, .int (iZ 0)), (0, .ref x0), (1, .int (iZ x1))]) dX7_message_34 rfl rfl rfl ?_
      refine qn_sub (ls' := [(0, .ref x0), (1, .int (iZ x1)), (2, .int (iZ 0))]) [1, 2, 0] rfl ?_
      exact w_X7_message_L35 hX hE  k_x0 r_x1 (by decide) hR_m4 h
    · have h := ite_t h c2
      refine qn_iconst hX (pc := 15) dX7_message_15 ?_
      exact qn_iret hX (pc := 16) dX7_message_16 hE hR_m0 (by decide) (Option.some.inj h)
theorem k_X7_message (l : Launch) {G : qG} (hT : qT G) {N : Nat} {x0 : Nat} {x1 : Int} (k_x0 : gK G x0 = 8) (r_x1 : in32 x1) {m0 : qM} {r : Int} {nu : qM} (h : f_X7_message N G x0 x1 m0 = some (r, nu)) : qC l yX7_message wsX7_message 7 176 G [.ref x0, .int (iZ x1)] m0 (some (.int (iZ r))) (in32 r) nu := by
  refine qn_start (hy := by decide) hT (hw := rfl) (hn := Nat.le_of_ble_eq_true rfl) ?_
  intro X h1 h2 h3 h4 hX hR
  subst h4
  exact w_X7_message hX ⟨h1, fun q => h2 ▸ q, h3⟩ k_x0 r_x1 hR h
theorem dd_X7_message : yX7_message.cls = RX7 ∧ yX7_message.cls ≠ "java/lang/invoke/MethodHandle" ∧ yX7_message.cls ≠ "java/lang/invoke/VarHandle" ∧ (parseMethodDescriptor yX7_message.desc).map (fun d => d.parameters.length) = some 1 := by decide +kernel
-- ProRataMarket.order
theorem hi_X7_order_7 : ∀ w ∈ wsX70, w ∈ wsX7_order := fun w h => List.mem_cons_of_mem _ (List.mem_append_left _ (List.mem_append_left _ (List.mem_append_left _ (List.mem_append_left _ (List.mem_append_left _ (List.mem_append_right _ h))))))
theorem fd_X7_order_10 : qFd RX7 wsX7_order 10 7 0 1 700 := ⟨RX7, TX7, 3, _, rfl, hi_X7_order_7, by decide, (by decide +kernel : Cond.fieldLink RX7 10 (TX7 0).1 (TX7 0).2.1 (TX7 0).2.2.1 ∈ wsX7_order), rfl, rfl, by decide⟩
set_option maxHeartbeats 4000000 in
set_option maxRecDepth 20000 in
theorem w_X7_order {X : qB} {N : Nat} (hX : qOk X cX7_order RX7 6 (some .int) wsX7_order 6 148) {r : Int} {nu : qM} (hE : xr X = some (.int (iZ r)) ∧ (in32 r → xΦ X) ∧ xμ X = nu) 
    {x0 : Nat} {x1 : Int} {x2 : Int} {x3 : Int} {x4 : Int} {x5 : Int} (k_x0 : gK (xG X) x0 = 8) (r_x1 : in32 x1) (r_x2 : in32 x2) (r_x3 : in32 x3) (r_x4 : in32 x4) (r_x5 : in32 x5) {m0 : qM} (hR_m0 : qR (xG X) m0)
    (h : f_X7_order N (xG X)  x0 x1 x2 x3 x4 x5 m0 = some (r, nu)) : qN X 6 0 [(0, .ref x0), (1, .int (iZ x1)), (2, .int (iZ x2)), (3, .int (iZ x3)), (4, .int (iZ x4)), (5, .int (iZ x5))] [] m0 := by
  have hT := hX.T
  unfold f_X7_order at h
  refine qn_iload_n hX (pc := 0) dX7_order_0 1 rfl rfl ?_
  refine qn_iload_n hX (pc := 1) dX7_order_1 2 rfl rfl ?_
  refine qn_iload_n hX (pc := 2) dX7_order_2 3 rfl rfl ?_
  refine qn_iload hX (pc := 3) dX7_order_3 4 rfl ?_
  refine qn_iload hX (pc := 5) dX7_order_5 5 rfl ?_
  obtain ⟨v2, m1, e_m1, h⟩ := kb2_e h
  refine qn_callSi hX (pc := 7) [.int (iZ x1), .int (iZ x2), .int (iZ x3), .int (iZ x4), .int (iZ x5)] [.int (iZ x5), .int (iZ x4), .int (iZ x3), .int (iZ x2), .int (iZ x1)] 5 dX7_order_7 gX7_order_X7_isForm rfl dd_X7_isForm ⟨rfl, rfl⟩ rfl rfl rfl hR_m0 (k_X7_isForm (xl X) hT r_x1 r_x2 r_x3 r_x4 r_x5 e_m1) (fun r_v2 hR_m1 => ?_)
  refine qn_if_ne hX (pc := 10) r_v2.i 15 dX7_order_10 (by decide) (fun c3 => ?_) (fun c3 => ?_)
  · have h := ite_f h c3
    refine qn_iload_n hX (pc := 15) dX7_order_15 3 rfl rfl ?_
    refine qn_iload hX (pc := 16) dX7_order_16 4 rfl ?_
    obtain ⟨v5, m4, e_m4, h⟩ := kb2_e h
    refine qn_callSi hX (pc := 18) [.int (iZ x3), .int (iZ x4)] [.int (iZ x4), .int (iZ x3)] 2 dX7_order_18 gX7_order_X7_isWorthInt rfl dd_X7_isWorthInt ⟨rfl, rfl⟩ rfl rfl rfl hR_m1 (k_X7_isWorthInt (xl X) hT r_x3 r_x4 e_m4) (fun r_v5 hR_m4 => ?_)
    refine qn_if_ne hX (pc := 21) r_v5.i 27 dX7_order_21 (by decide) (fun c6 => ?_) (fun c6 => ?_)
    · have h := ite_f h c6
      refine qn_aload_n hX (pc := 27) dX7_order_27 0 rfl rfl ?_
      refine qn_getR hX (pc := 28) fd_X7_order_10 dX7_order_28 k_x0 ?_
      refine qn_iload_n hX (pc := 31) dX7_order_31 1 rfl rfl ?_
      refine qn_iload_n hX (pc := 32) dX7_order_32 2 rfl rfl ?_
      refine qn_iload_n hX (pc := 33) dX7_order_33 3 rfl rfl ?_
      refine qn_iload hX (pc := 34) dX7_order_34 4 rfl ?_
      refine qn_iload hX (pc := 36) dX7_order_36 5 rfl ?_
      obtain ⟨v8, m7, e_m7, h⟩ := kb2_e h
      refine qn_callVi hX (pc := 38) [.int (iZ x1), .int (iZ x2), .int (iZ x3), .int (iZ x4), .int (iZ x5)] [.int (iZ x5), .int (iZ x4), .int (iZ x3), .int (iZ x2), .int (iZ x1)] 5 dX7_order_38 gX7_order_X2_comeIn rfl dd_X2_comeIn ⟨rfl, rfl⟩ rfl rfl (by decide) (qr_700 hT k_x0) rfl rfl hR_m4 (k_X2_comeIn (xl X) hT (qr_700 hT k_x0) r_x1 r_x2 r_x3 r_x4 r_x5 e_m7) (fun r_v8 hR_m7 => ?_)
      exact qn_iret hX (pc := 41) dX7_order_41 hE hR_m7 r_v8 (Option.some.inj h)
    · have h := ite_t h c6
      refine qn_bipush hX (pc := 24) dX7_order_24 (by decide) ?_
      exact qn_iret hX (pc := 26) dX7_order_26 hE hR_m4 (by decide) (Option.some.inj h)
  · have h := ite_t h c3
    refine qn_iconst hX (pc := 13) dX7_order_13 ?_
    exact qn_iret hX (pc := 14) dX7_order_14 hE hR_m1 (by decide) (Option.some.inj h)
theorem k_X7_order (l : Launch) {G : qG} (hT : qT G) {N : Nat} {x0 : Nat} {x1 : Int} {x2 : Int} {x3 : Int} {x4 : Int} {x5 : Int} (k_x0 : gK G x0 = 8) (r_x1 : in32 x1) (r_x2 : in32 x2) (r_x3 : in32 x3) (r_x4 : in32 x4) (r_x5 : in32 x5) {m0 : qM} {r : Int} {nu : qM} (h : f_X7_order N G x0 x1 x2 x3 x4 x5 m0 = some (r, nu)) : qC l yX7_order wsX7_order 6 148 G [.ref x0, .int (iZ x1), .int (iZ x2), .int (iZ x3), .int (iZ x4), .int (iZ x5)] m0 (some (.int (iZ r))) (in32 r) nu := by
  refine qn_start (hy := by decide) hT (hw := rfl) (hn := Nat.le_of_ble_eq_true rfl) ?_
  intro X h1 h2 h3 h4 hX hR
  subst h4
  exact w_X7_order hX ⟨h1, fun q => h2 ▸ q, h3⟩ k_x0 r_x1 r_x2 r_x3 r_x4 r_x5 hR h
theorem dd_X7_order : yX7_order.cls = RX7 ∧ yX7_order.cls ≠ "java/lang/invoke/MethodHandle" ∧ yX7_order.cls ≠ "java/lang/invoke/VarHandle" ∧ (parseMethodDescriptor yX7_order.desc).map (fun d => d.parameters.length) = some 5 := by decide +kernel
-- ProRataMarket.queue
theorem hi_X7_queue_7 : ∀ w ∈ wsX70, w ∈ wsX7_queue := fun w h => List.mem_cons_of_mem _ (List.mem_append_left _ (List.mem_append_left _ (List.mem_append_left _ (List.mem_append_right _ h))))
theorem fd_X7_queue_10 : qFd RX7 wsX7_queue 10 7 0 1 700 := ⟨RX7, TX7, 3, _, rfl, hi_X7_queue_7, by decide, (by decide +kernel : Cond.fieldLink RX7 10 (TX7 0).1 (TX7 0).2.1 (TX7 0).2.2.1 ∈ wsX7_queue), rfl, rfl, by decide⟩
theorem hi_X7_queue_2 : ∀ w ∈ wsX20, w ∈ wsX7_queue := fun w h => List.mem_cons_of_mem _ (List.mem_append_left _ (List.mem_append_left _ (List.mem_append_right _ h)))
theorem fd_X7_queue_105 : qFd RX7 wsX7_queue 105 2 0 1 200 := ⟨RX2, TX2, 12, _, rfl, hi_X7_queue_2, by decide, (by decide +kernel : Cond.fieldLink RX7 105 (TX2 0).1 (TX2 0).2.1 (TX2 0).2.2.1 ∈ wsX7_queue), rfl, rfl, by decide⟩
set_option maxHeartbeats 4000000 in
set_option maxRecDepth 20000 in
theorem w_X7_queue {X : qB} {N : Nat} (hX : qOk X cX7_queue RX7 4 (some .int) wsX7_queue 2 48) {r : Int} {nu : qM} (hE : xr X = some (.int (iZ r)) ∧ (in32 r → xΦ X) ∧ xμ X = nu) 
    {x0 : Nat} {x1 : Int} {x2 : Int} {x3 : Int} (k_x0 : gK (xG X) x0 = 8) (r_x1 : in32 x1) (r_x2 : in32 x2) (r_x3 : in32 x3) {m0 : qM} (hR_m0 : qR (xG X) m0)
    (h : f_X7_queue N (xG X)  x0 x1 x2 x3 m0 = some (r, nu)) : qN X 4 0 [(0, .ref x0), (1, .int (iZ x1)), (2, .int (iZ x2)), (3, .int (iZ x3))] [] m0 := by
  have hT := hX.T
  unfold f_X7_queue at h
  refine qn_iload_n hX (pc := 0) dX7_queue_0 1 rfl rfl ?_
  obtain ⟨v2, m1, e_m1, h⟩ := kb2_e h
  refine qn_callSi hX (pc := 1) [.int (iZ x1)] [.int (iZ x1)] 1 dX7_queue_1 gX7_queue_X7_isSide rfl dd_X7_isSide ⟨rfl, rfl⟩ rfl rfl rfl hR_m0 (k_X7_isSide (xl X) hT r_x1 e_m1) (fun r_v2 hR_m1 => ?_)
  refine qn_if_eq hX (pc := 4) r_v2.i 11 dX7_queue_4 (by decide) (fun c3 => ?_) (fun c3 => ?_)
  · have h := ite_t h c3
    refine qn_iconst hX (pc := 11) dX7_queue_11 ?_
    exact qn_iret hX (pc := 12) dX7_queue_12 hE hR_m1 (by decide) (Option.some.inj h)
  · have h := ite_f h c3
    refine qn_iload_n hX (pc := 7) dX7_queue_7 3 rfl rfl ?_
    refine qn_if_ge hX (pc := 8) r_x3 13 dX7_queue_8 (by decide) (fun c4 => ?_) (fun c4 => ?_)
    · have h := ite_f h c4
      refine qn_aload_n hX (pc := 13) dX7_queue_13 0 rfl rfl ?_
      refine qn_getR hX (pc := 14) fd_X7_queue_10 dX7_queue_14 k_x0 ?_
      refine qn_getR hX (pc := 17) fd_X7_queue_105 dX7_queue_17 (qr_700 hT k_x0) ?_
      refine qn_iload_n hX (pc := 20) dX7_queue_20 1 rfl rfl ?_
      refine qn_iload_n hX (pc := 21) dX7_queue_21 2 rfl rfl ?_
      refine qn_iload_n hX (pc := 22) dX7_queue_22 3 rfl rfl ?_
      obtain ⟨v6, m5, e_m5, h⟩ := kb2_e h
      refine qn_callVi hX (pc := 23) [.int (iZ x1), .int (iZ x2), .int (iZ x3)] [.int (iZ x3), .int (iZ x2), .int (iZ x1)] 3 dX7_queue_23 gX7_queue_X0_numberAt rfl dd_X0_numberAt ⟨rfl, rfl⟩ rfl rfl (by decide) (qr_200 hT (qr_700 hT k_x0)) rfl rfl hR_m1 (k_X0_numberAt (xl X) hT (qr_200 hT (qr_700 hT k_x0)) r_x1 r_x2 r_x3 e_m5) (fun r_v6 hR_m5 => ?_)
      exact qn_iret hX (pc := 26) dX7_queue_26 hE hR_m5 r_v6 (Option.some.inj h)
    · have h := ite_t h c4
      refine qn_iconst hX (pc := 11) dX7_queue_11 ?_
      exact qn_iret hX (pc := 12) dX7_queue_12 hE hR_m1 (by decide) (Option.some.inj h)
theorem k_X7_queue (l : Launch) {G : qG} (hT : qT G) {N : Nat} {x0 : Nat} {x1 : Int} {x2 : Int} {x3 : Int} (k_x0 : gK G x0 = 8) (r_x1 : in32 x1) (r_x2 : in32 x2) (r_x3 : in32 x3) {m0 : qM} {r : Int} {nu : qM} (h : f_X7_queue N G x0 x1 x2 x3 m0 = some (r, nu)) : qC l yX7_queue wsX7_queue 2 48 G [.ref x0, .int (iZ x1), .int (iZ x2), .int (iZ x3)] m0 (some (.int (iZ r))) (in32 r) nu := by
  refine qn_start (hy := by decide) hT (hw := rfl) (hn := Nat.le_of_ble_eq_true rfl) ?_
  intro X h1 h2 h3 h4 hX hR
  subst h4
  exact w_X7_queue hX ⟨h1, fun q => h2 ▸ q, h3⟩ k_x0 r_x1 r_x2 r_x3 hR h
theorem dd_X7_queue : yX7_queue.cls = RX7 ∧ yX7_queue.cls ≠ "java/lang/invoke/MethodHandle" ∧ yX7_queue.cls ≠ "java/lang/invoke/VarHandle" ∧ (parseMethodDescriptor yX7_queue.desc).map (fun d => d.parameters.length) = some 3 := by decide +kernel
-- ProRataMarket.share
theorem hi_X7_share_7 : ∀ w ∈ wsX70, w ∈ wsX7_share := fun w h => List.mem_cons_of_mem _ (List.mem_append_left _ (List.mem_append_left _ (List.mem_append_left _ (List.mem_append_left _ (List.mem_append_right _ h)))))
theorem fd_X7_share_10 : qFd RX7 wsX7_share 10 7 0 1 700 := ⟨RX7, TX7, 3, _, rfl, hi_X7_share_7, by decide, (by decide +kernel : Cond.fieldLink RX7 10 (TX7 0).1 (TX7 0).2.1 (TX7 0).2.2.1 ∈ wsX7_share), rfl, rfl, by decide⟩
theorem hi_X7_share_2 : ∀ w ∈ wsX20, w ∈ wsX7_share := fun w h => List.mem_cons_of_mem _ (List.mem_append_left _ (List.mem_append_left _ (List.mem_append_left _ (List.mem_append_right _ h))))
theorem fd_X7_share_105 : qFd RX7 wsX7_share 105 2 0 1 200 := ⟨RX2, TX2, 12, _, rfl, hi_X7_share_2, by decide, (by decide +kernel : Cond.fieldLink RX7 105 (TX2 0).1 (TX2 0).2.1 (TX2 0).2.2.1 ∈ wsX7_share), rfl, rfl, by decide⟩
theorem fd_X7_share_190 : qFd RX7 wsX7_share 190 2 2 1 202 := ⟨RX2, TX2, 12, _, rfl, hi_X7_share_2, by decide, (by decide +kernel : Cond.fieldLink RX7 190 (TX2 2).1 (TX2 2).2.1 (TX2 2).2.2.1 ∈ wsX7_share), rfl, rfl, by decide⟩
theorem hi_X7_share_4 : ∀ w ∈ wsX40, w ∈ wsX7_share := fun w h => List.mem_cons_of_mem _ (List.mem_append_left _ (List.mem_append_left _ (List.mem_append_right _ h)))
theorem fd_X7_share_150 : qFd RX7 wsX7_share 150 4 2 0 402 := ⟨RX4, TX4, 6, _, rfl, hi_X7_share_4, by decide, (by decide +kernel : Cond.fieldLink RX7 150 (TX4 2).1 (TX4 2).2.1 (TX4 2).2.2.1 ∈ wsX7_share), rfl, rfl, by decide⟩
theorem fd_X7_share_153 : qFd RX7 wsX7_share 153 4 3 0 403 := ⟨RX4, TX4, 6, _, rfl, hi_X7_share_4, by decide, (by decide +kernel : Cond.fieldLink RX7 153 (TX4 3).1 (TX4 3).2.1 (TX4 3).2.2.1 ∈ wsX7_share), rfl, rfl, by decide⟩
theorem hi_X7_share_5 : ∀ w ∈ wsX50, w ∈ wsX7_share := fun w h => List.mem_cons_of_mem _ (List.mem_append_left _ (List.mem_append_right _ h))
theorem fd_X7_share_200 : qFd RX7 wsX7_share 200 5 7 0 507 := ⟨RX5, TX5, 8, _, rfl, hi_X7_share_5, by decide, (by decide +kernel : Cond.fieldLink RX7 200 (TX5 7).1 (TX5 7).2.1 (TX5 7).2.2.1 ∈ wsX7_share), rfl, rfl, by decide⟩
theorem fd_X7_share_129 : qFd RX7 wsX7_share 129 2 6 0 206 := ⟨RX2, TX2, 12, _, rfl, hi_X7_share_2, by decide, (by decide +kernel : Cond.fieldLink RX7 129 (TX2 6).1 (TX2 6).2.1 (TX2 6).2.2.1 ∈ wsX7_share), rfl, rfl, by decide⟩
set_option maxHeartbeats 4000000 in
set_option maxRecDepth 20000 in
theorem w_X7_share {X : qB} {N : Nat} (hX : qOk X cX7_share RX7 6 (some .int) wsX7_share 2 50) {r : Int} {nu : qM} (hE : xr X = some (.int (iZ r)) ∧ (in32 r → xΦ X) ∧ xμ X = nu) 
    {x0 : Nat} {x1 : Int} {x2 : Int} {x3 : Int} (k_x0 : gK (xG X) x0 = 8) (r_x1 : in32 x1) (r_x2 : in32 x2) (r_x3 : in32 x3) {m0 : qM} (hR_m0 : qR (xG X) m0)
    (h : f_X7_share N (xG X)  x0 x1 x2 x3 m0 = some (r, nu)) : qN X 6 0 [(0, .ref x0), (1, .int (iZ x1)), (2, .int (iZ x2)), (3, .int (iZ x3))] [] m0 := by
  have hT := hX.T
  unfold f_X7_share at h
  refine qn_aload_n hX (pc := 0) dX7_share_0 0 rfl rfl ?_
  refine qn_getR hX (pc := 1) fd_X7_share_10 dX7_share_1 k_x0 ?_
  refine qn_getR hX (pc := 4) fd_X7_share_105 dX7_share_4 (qr_700 hT k_x0) ?_
  refine qn_iload_n hX (pc := 7) dX7_share_7 1 rfl rfl ?_
  obtain ⟨v2, m1, e_m1, h⟩ := kb2_e h
  refine qn_callVq hX (pc := 8) [.int (iZ x1)] [.int (iZ x1)] 1 dX7_share_8 gX7_share_X0_find rfl dd_X0_find ⟨rfl, rfl⟩ rfl rfl (by decide) (qr_200 hT (qr_700 hT k_x0)) rfl rfl hR_m0 (k_X0_find (xl X) hT (qr_200 hT (qr_700 hT k_x0)) r_x1 e_m1) (fun r_v2 hR_m1 => ?_)
  rcases v2 with _ | o3
  · try dsimp only at h
    refine qn_astoreN hX (pc := 11) (ls' := [(4, .null), (0, .ref x0), (1, .int (iZ x1)), (2, .int (iZ x2)), (3, .int (iZ x3))]) dX7_share_11 rfl rfl ?_
    refine qn_aloadN hX (pc := 13) dX7_share_13 0 rfl ?_
    refine qn_ifnullN hX (pc := 15) 27 dX7_share_15 (by decide) ?_
    refine qn_iconst hX (pc := 27) dX7_share_27 ?_
    exact qn_iret hX (pc := 28) dX7_share_28 hE hR_m1 (by decide) (Option.some.inj h)
  · try dsimp only at h
    have k_o3 := r_v2 o3 rfl
    refine qn_astore hX (pc := 11) (ls' := [(4, .ref o3), (0, .ref x0), (1, .int (iZ x1)), (2, .int (iZ x2)), (3, .int (iZ x3))]) dX7_share_11 rfl rfl ?_
    refine qn_aload hX (pc := 13) dX7_share_13 0 rfl ?_
    refine qn_ifnull hX (pc := 15) dX7_share_15 ?_
    refine qn_iload_n hX (pc := 18) dX7_share_18 4 rfl rfl ?_
    refine qn_if_lt hX (pc := 19) r_x3 27 dX7_share_19 (by decide) (fun c4 => ?_) (fun c4 => ?_)
    · have h := ite_t h c4
      refine qn_iconst hX (pc := 27) dX7_share_27 ?_
      exact qn_iret hX (pc := 28) dX7_share_28 hE hR_m1 (by decide) (Option.some.inj h)
    · have h := ite_f h c4
      refine qn_iload_n hX (pc := 22) dX7_share_22 4 rfl rfl ?_
      refine qn_iconst hX (pc := 23) dX7_share_23 ?_
      refine qn_icmp_le hX (pc := 24) r_x3 (by decide) 29 dX7_share_24 (by decide) (fun c5 => ?_) (fun c5 => ?_)
      · have h := ite_f h c5
        refine qn_aload_n hX (pc := 29) dX7_share_29 1 rfl rfl ?_
        refine qn_getR hX (pc := 30) fd_X7_share_10 dX7_share_30 k_x0 ?_
        refine qn_getR hX (pc := 33) fd_X7_share_190 dX7_share_33 (qr_700 hT k_x0) ?_
        refine qn_astore hX (pc := 36) (ls' := [(5, .ref (gR (xG X) 202 (gR (xG X) 700 x0))), (4, .ref o3), (0, .ref x0), (1, .int (iZ x1)), (2, .int (iZ x2)), (3, .int (iZ x3))]) dX7_share_36 rfl rfl ?_
        refine qn_aload hX (pc := 38) dX7_share_38 0 rfl ?_
        refine qn_aload_n hX (pc := 40) dX7_share_40 2 rfl rfl ?_
        refine qn_getR hX (pc := 41) fd_X7_share_10 dX7_share_41 k_x0 ?_
        refine qn_getR hX (pc := 44) fd_X7_share_105 dX7_share_44 (qr_700 hT k_x0) ?_
        refine qn_aload hX (pc := 47) dX7_share_47 1 rfl ?_
        refine qn_getI hX (pc := 49) fd_X7_share_150 dX7_share_49 k_o3 ?_
        refine qn_aload hX (pc := 52) dX7_share_52 1 rfl ?_
        refine qn_getI hX (pc := 54) fd_X7_share_153 dX7_share_54 k_o3 ?_
        obtain ⟨m6, e_m6, h⟩ := kb_e h
        refine qn_callVv hX (pc := 57) [.ref (gR (xG X) 200 (gR (xG X) 700 x0)), .int (iZ (gI m1 402 o3)), .int (iZ (gI m1 403 o3))] [.int (iZ (gI m1 403 o3)), .int (iZ (gI m1 402 o3)), .ref (gR (xG X) 200 (gR (xG X) 700 x0))] 3 dX7_share_57 gX7_share_X5_load rfl dd_X5_load ⟨rfl, rfl⟩ rfl rfl (by decide) (qr_202 hT (qr_700 hT k_x0)) rfl rfl hR_m1 (k_X5_load (xl X) hT (qr_202 hT (qr_700 hT k_x0)) (qr_200 hT (qr_700 hT k_x0)) (hR_m1.i 402 _ rfl) (hR_m1.i 403 _ rfl) e_m6) (fun r_v7 hR_m6 => ?_)
        refine qn_iload_n hX (pc := 60) dX7_share_60 4 rfl rfl ?_
        refine qn_iconst hX (pc := 61) dX7_share_61 ?_
        refine qn_icmp_lt hX (pc := 62) r_x2 (by decide) 74 dX7_share_62 (by decide) (fun c8 => ?_) (fun c8 => ?_)
        · have h := ite_t h c8
          refine qn_iconst hX (pc := 74) dX7_share_74 ?_
          exact qn_iret hX (pc := 75) dX7_share_75 hE hR_m6 (by decide) (Option.some.inj h)
        · have h := ite_f h c8
          refine qn_iload_n hX (pc := 65) dX7_share_65 4 rfl rfl ?_
          refine qn_aload hX (pc := 66) dX7_share_66 0 rfl ?_
          refine qn_getI hX (pc := 68) fd_X7_share_200 dX7_share_68 (qr_202 hT (qr_700 hT k_x0)) ?_
          refine qn_icmp_le hX (pc := 71) r_x2 (hR_m6.i 507 _ rfl) 76 dX7_share_71 (by decide) (fun c9 => ?_) (fun c9 => ?_)
          · have h := ite_f h c9
            refine qn_aload hX (pc := 76) dX7_share_76 0 rfl ?_
            refine qn_iload_n hX (pc := 78) dX7_share_78 4 rfl rfl ?_
            refine qn_aload_n hX (pc := 79) dX7_share_79 2 rfl rfl ?_
            refine qn_getR hX (pc := 80) fd_X7_share_10 dX7_share_80 k_x0 ?_
            refine qn_getI hX (pc := 83) fd_X7_share_129 dX7_share_83 (qr_700 hT k_x0) ?_
            obtain ⟨m10, e_m10, h⟩ := kb_e h
            refine qn_callVv hX (pc := 86) [.int (iZ x2), .int (iZ (gI m6 206 (gR (xG X) 700 x0)))] [.int (iZ (gI m6 206 (gR (xG X) 700 x0))), .int (iZ x2)] 2 dX7_share_86 gX7_share_X5_deal rfl dd_X5_deal ⟨rfl, rfl⟩ rfl rfl (by decide) (qr_202 hT (qr_700 hT k_x0)) rfl rfl hR_m6 (k_X5_deal (xl X) hT (qr_202 hT (qr_700 hT k_x0)) r_x2 (hR_m6.i 206 _ rfl) e_m10) (fun r_v11 hR_m10 => ?_)
            refine qn_aload hX (pc := 89) dX7_share_89 0 rfl ?_
            refine qn_aload hX (pc := 91) dX7_share_91 1 rfl ?_
            refine qn_iload_n hX (pc := 93) dX7_share_93 5 rfl rfl ?_
            obtain ⟨v13, m12, e_m12, h⟩ := kb2_e h
            refine qn_callVi hX (pc := 94) [.ref o3, .int (iZ x3)] [.int (iZ x3), .ref o3] 2 dX7_share_94 gX7_share_X5_partOf rfl dd_X5_partOf ⟨rfl, rfl⟩ rfl rfl (by decide) (qr_202 hT (qr_700 hT k_x0)) rfl rfl hR_m10 (k_X5_partOf (xl X) hT (qr_202 hT (qr_700 hT k_x0)) k_o3 r_x3 e_m12) (fun r_v13 hR_m12 => ?_)
            exact qn_iret hX (pc := 97) dX7_share_97 hE hR_m12 r_v13 (Option.some.inj h)
          · have h := ite_t h c9
            refine qn_iconst hX (pc := 74) dX7_share_74 ?_
            exact qn_iret hX (pc := 75) dX7_share_75 hE hR_m6 (by decide) (Option.some.inj h)
      · have h := ite_t h c5
        refine qn_iconst hX (pc := 27) dX7_share_27 ?_
        exact qn_iret hX (pc := 28) dX7_share_28 hE hR_m1 (by decide) (Option.some.inj h)
theorem k_X7_share (l : Launch) {G : qG} (hT : qT G) {N : Nat} {x0 : Nat} {x1 : Int} {x2 : Int} {x3 : Int} (k_x0 : gK G x0 = 8) (r_x1 : in32 x1) (r_x2 : in32 x2) (r_x3 : in32 x3) {m0 : qM} {r : Int} {nu : qM} (h : f_X7_share N G x0 x1 x2 x3 m0 = some (r, nu)) : qC l yX7_share wsX7_share 2 50 G [.ref x0, .int (iZ x1), .int (iZ x2), .int (iZ x3)] m0 (some (.int (iZ r))) (in32 r) nu := by
  refine qn_start (hy := by decide) hT (hw := rfl) (hn := Nat.le_of_ble_eq_true rfl) ?_
  intro X h1 h2 h3 h4 hX hR
  subst h4
  exact w_X7_share hX ⟨h1, fun q => h2 ▸ q, h3⟩ k_x0 r_x1 r_x2 r_x3 hR h
theorem dd_X7_share : yX7_share.cls = RX7 ∧ yX7_share.cls ≠ "java/lang/invoke/MethodHandle" ∧ yX7_share.cls ≠ "java/lang/invoke/VarHandle" ∧ (parseMethodDescriptor yX7_share.desc).map (fun d => d.parameters.length) = some 3 := by decide +kernel
-- ProRataMarket.splits
theorem hi_X7_splits_7 : ∀ w ∈ wsX70, w ∈ wsX7_splits := fun w h => List.mem_cons_of_mem _ (List.mem_append_left _ (List.mem_append_left _ (List.mem_append_left _ (List.mem_append_left _ (List.mem_append_right _ h)))))
theorem fd_X7_splits_10 : qFd RX7 wsX7_splits 10 7 0 1 700 := ⟨RX7, TX7, 3, _, rfl, hi_X7_splits_7, by decide, (by decide +kernel : Cond.fieldLink RX7 10 (TX7 0).1 (TX7 0).2.1 (TX7 0).2.2.1 ∈ wsX7_splits), rfl, rfl, by decide⟩
theorem hi_X7_splits_2 : ∀ w ∈ wsX20, w ∈ wsX7_splits := fun w h => List.mem_cons_of_mem _ (List.mem_append_left _ (List.mem_append_left _ (List.mem_append_left _ (List.mem_append_right _ h))))
theorem fd_X7_splits_105 : qFd RX7 wsX7_splits 105 2 0 1 200 := ⟨RX2, TX2, 12, _, rfl, hi_X7_splits_2, by decide, (by decide +kernel : Cond.fieldLink RX7 105 (TX2 0).1 (TX2 0).2.1 (TX2 0).2.2.1 ∈ wsX7_splits), rfl, rfl, by decide⟩
theorem hi_X7_splits_4 : ∀ w ∈ wsX40, w ∈ wsX7_splits := fun w h => List.mem_cons_of_mem _ (List.mem_append_left _ (List.mem_append_left _ (List.mem_append_right _ h)))
theorem fd_X7_splits_115 : qFd RX7 wsX7_splits 115 4 4 0 404 := ⟨RX4, TX4, 6, _, rfl, hi_X7_splits_4, by decide, (by decide +kernel : Cond.fieldLink RX7 115 (TX4 4).1 (TX4 4).2.1 (TX4 4).2.2.1 ∈ wsX7_splits), rfl, rfl, by decide⟩
theorem fd_X7_splits_190 : qFd RX7 wsX7_splits 190 2 2 1 202 := ⟨RX2, TX2, 12, _, rfl, hi_X7_splits_2, by decide, (by decide +kernel : Cond.fieldLink RX7 190 (TX2 2).1 (TX2 2).2.1 (TX2 2).2.2.1 ∈ wsX7_splits), rfl, rfl, by decide⟩
theorem hi_X7_splits_5 : ∀ w ∈ wsX50, w ∈ wsX7_splits := fun w h => List.mem_cons_of_mem _ (List.mem_append_left _ (List.mem_append_right _ h))
theorem fd_X7_splits_200 : qFd RX7 wsX7_splits 200 5 7 0 507 := ⟨RX5, TX5, 8, _, rfl, hi_X7_splits_5, by decide, (by decide +kernel : Cond.fieldLink RX7 200 (TX5 7).1 (TX5 7).2.1 (TX5 7).2.2.1 ∈ wsX7_splits), rfl, rfl, by decide⟩
theorem fd_X7_splits_129 : qFd RX7 wsX7_splits 129 2 6 0 206 := ⟨RX2, TX2, 12, _, rfl, hi_X7_splits_2, by decide, (by decide +kernel : Cond.fieldLink RX7 129 (TX2 6).1 (TX2 6).2.1 (TX2 6).2.2.1 ∈ wsX7_splits), rfl, rfl, by decide⟩
set_option maxHeartbeats 4000000 in
set_option maxRecDepth 20000 in
theorem w_X7_splits {X : qB} {N : Nat} (hX : qOk X cX7_splits RX7 7 (some .int) wsX7_splits 3 73) {r : Int} {nu : qM} (hE : xr X = some (.int (iZ r)) ∧ (in32 r → xΦ X) ∧ xμ X = nu) 
    {x0 : Nat} {x1 : Int} {x2 : Int} {x3 : Int} (k_x0 : gK (xG X) x0 = 8) (r_x1 : in32 x1) (r_x2 : in32 x2) (r_x3 : in32 x3) {m0 : qM} (hR_m0 : qR (xG X) m0)
    (h : f_X7_splits N (xG X)  x0 x1 x2 x3 m0 = some (r, nu)) : qN X 7 0 [(0, .ref x0), (1, .int (iZ x1)), (2, .int (iZ x2)), (3, .int (iZ x3))] [] m0 := by
  have hT := hX.T
  unfold f_X7_splits at h
  refine qn_aload_n hX (pc := 0) dX7_splits_0 0 rfl rfl ?_
  refine qn_getR hX (pc := 1) fd_X7_splits_10 dX7_splits_1 k_x0 ?_
  refine qn_getR hX (pc := 4) fd_X7_splits_105 dX7_splits_4 (qr_700 hT k_x0) ?_
  refine qn_iload_n hX (pc := 7) dX7_splits_7 1 rfl rfl ?_
  obtain ⟨v2, m1, e_m1, h⟩ := kb2_e h
  refine qn_callVq hX (pc := 8) [.int (iZ x1)] [.int (iZ x1)] 1 dX7_splits_8 gX7_splits_X0_find rfl dd_X0_find ⟨rfl, rfl⟩ rfl rfl (by decide) (qr_200 hT (qr_700 hT k_x0)) rfl rfl hR_m0 (k_X0_find (xl X) hT (qr_200 hT (qr_700 hT k_x0)) r_x1 e_m1) (fun r_v2 hR_m1 => ?_)
  rcases v2 with _ | o3
  · try dsimp only at h
    refine qn_astoreN hX (pc := 11) (ls' := [(4, .null), (0, .ref x0), (1, .int (iZ x1)), (2, .int (iZ x2)), (3, .int (iZ x3))]) dX7_splits_11 rfl rfl ?_
    refine qn_aloadN hX (pc := 13) dX7_splits_13 0 rfl ?_
    refine qn_ifnullN hX (pc := 15) 38 dX7_splits_15 (by decide) ?_
    refine qn_ldc hX (pc := 38) (-2000000) dX7_splits_38 (by decide +kernel : Cond.constant RX7 215 (-2000000) ∈ wsX7_splits) (by decide) ?_
    exact qn_iret hX (pc := 40) dX7_splits_40 hE hR_m1 (by decide) (Option.some.inj h)
  · try dsimp only at h
    have k_o3 := r_v2 o3 rfl
    refine qn_astore hX (pc := 11) (ls' := [(4, .ref o3), (0, .ref x0), (1, .int (iZ x1)), (2, .int (iZ x2)), (3, .int (iZ x3))]) dX7_splits_11 rfl rfl ?_
    refine qn_aload hX (pc := 13) dX7_splits_13 0 rfl ?_
    refine qn_ifnull hX (pc := 15) dX7_splits_15 ?_
    refine qn_iload_n hX (pc := 18) dX7_splits_18 3 rfl rfl ?_
    refine qn_iconst hX (pc := 19) dX7_splits_19 ?_
    refine qn_icmp_lt hX (pc := 20) r_x2 (by decide) 38 dX7_splits_20 (by decide) (fun c4 => ?_) (fun c4 => ?_)
    · have h := ite_t h c4
      refine qn_ldc hX (pc := 38) (-2000000) dX7_splits_38 (by decide +kernel : Cond.constant RX7 215 (-2000000) ∈ wsX7_splits) (by decide) ?_
      exact qn_iret hX (pc := 40) dX7_splits_40 hE hR_m1 (by decide) (Option.some.inj h)
    · have h := ite_f h c4
      refine qn_iload_n hX (pc := 23) dX7_splits_23 3 rfl rfl ?_
      refine qn_bipush hX (pc := 24) dX7_splits_24 (by decide) ?_
      refine qn_icmp_gt hX (pc := 26) r_x2 (by decide) 38 dX7_splits_26 (by decide) (fun c5 => ?_) (fun c5 => ?_)
      · have h := ite_t h c5
        refine qn_ldc hX (pc := 38) (-2000000) dX7_splits_38 (by decide +kernel : Cond.constant RX7 215 (-2000000) ∈ wsX7_splits) (by decide) ?_
        exact qn_iret hX (pc := 40) dX7_splits_40 hE hR_m1 (by decide) (Option.some.inj h)
      · have h := ite_f h c5
        refine qn_aload hX (pc := 29) dX7_splits_29 0 rfl ?_
        refine qn_getI hX (pc := 31) fd_X7_splits_115 dX7_splits_31 k_o3 ?_
        refine qn_iload_n hX (pc := 34) dX7_splits_34 3 rfl rfl ?_
        refine qn_icmp_ge hX (pc := 35) (hR_m1.i 404 _ rfl) r_x2 41 dX7_splits_35 (by decide) (fun c6 => ?_) (fun c6 => ?_)
        · have h := ite_f h c6
          refine qn_aload_n hX (pc := 41) dX7_splits_41 1 rfl rfl ?_
          refine qn_getR hX (pc := 42) fd_X7_splits_10 dX7_splits_42 k_x0 ?_
          refine qn_getR hX (pc := 45) fd_X7_splits_190 dX7_splits_45 (qr_700 hT k_x0) ?_
          refine qn_astore hX (pc := 48) (ls' := [(5, .ref (gR (xG X) 202 (gR (xG X) 700 x0))), (4, .ref o3), (0, .ref x0), (1, .int (iZ x1)), (2, .int (iZ x2)), (3, .int (iZ x3))]) dX7_splits_48 rfl rfl ?_
          refine qn_aload hX (pc := 50) dX7_splits_50 0 rfl ?_
          refine qn_aload_n hX (pc := 52) dX7_splits_52 2 rfl rfl ?_
          refine qn_getR hX (pc := 53) fd_X7_splits_10 dX7_splits_53 k_x0 ?_
          refine qn_getR hX (pc := 56) fd_X7_splits_105 dX7_splits_56 (qr_700 hT k_x0) ?_
          refine qn_aload hX (pc := 59) dX7_splits_59 1 rfl ?_
          refine qn_iconst hX (pc := 61) dX7_splits_61 ?_
          obtain ⟨m7, e_m7, h⟩ := kb_e h
          refine qn_callVv hX (pc := 62) [.ref (gR (xG X) 200 (gR (xG X) 700 x0)), .ref o3, .int (iZ 1)] [.int (iZ 1), .ref o3, .ref (gR (xG X) 200 (gR (xG X) 700 x0))] 3 dX7_splits_62 gX7_splits_X5_loadInParts rfl dd_X5_loadInParts ⟨rfl, rfl⟩ rfl rfl (by decide) (qr_202 hT (qr_700 hT k_x0)) rfl rfl hR_m1 (k_X5_loadInParts (xl X) hT (qr_202 hT (qr_700 hT k_x0)) (qr_200 hT (qr_700 hT k_x0)) k_o3 (by decide) e_m7) (fun r_v8 hR_m7 => ?_)
          refine qn_iload_n hX (pc := 65) dX7_splits_65 5 rfl rfl ?_
          refine qn_iconst hX (pc := 66) dX7_splits_66 ?_
          refine qn_icmp_lt hX (pc := 67) r_x3 (by decide) 79 dX7_splits_67 (by decide) (fun c9 => ?_) (fun c9 => ?_)
          · have h := ite_t h c9
            refine qn_ldc hX (pc := 79) (-2000000) dX7_splits_79 (by decide +kernel : Cond.constant RX7 215 (-2000000) ∈ wsX7_splits) (by decide) ?_
            exact qn_iret hX (pc := 81) dX7_splits_81 hE hR_m7 (by decide) (Option.some.inj h)
          · have h := ite_f h c9
            refine qn_iload_n hX (pc := 70) dX7_splits_70 5 rfl rfl ?_
            refine qn_aload hX (pc := 71) dX7_splits_71 0 rfl ?_
            refine qn_getI hX (pc := 73) fd_X7_splits_200 dX7_splits_73 (qr_202 hT (qr_700 hT k_x0)) ?_
            refine qn_icmp_le hX (pc := 76) r_x3 (hR_m7.i 507 _ rfl) 82 dX7_splits_76 (by decide) (fun c10 => ?_) (fun c10 => ?_)
            · have h := ite_f h c10
              refine qn_aload hX (pc := 82) dX7_splits_82 0 rfl ?_
              refine qn_iload_n hX (pc := 84) dX7_splits_84 5 rfl rfl ?_
              refine qn_aload_n hX (pc := 85) dX7_splits_85 2 rfl rfl ?_
              refine qn_getR hX (pc := 86) fd_X7_splits_10 dX7_splits_86 k_x0 ?_
              refine qn_getI hX (pc := 89) fd_X7_splits_129 dX7_splits_89 (qr_700 hT k_x0) ?_
              obtain ⟨m11, e_m11, h⟩ := kb_e h
              refine qn_callVv hX (pc := 92) [.int (iZ x3), .int (iZ (gI m7 206 (gR (xG X) 700 x0)))] [.int (iZ (gI m7 206 (gR (xG X) 700 x0))), .int (iZ x3)] 2 dX7_splits_92 gX7_splits_X5_deal rfl dd_X5_deal ⟨rfl, rfl⟩ rfl rfl (by decide) (qr_202 hT (qr_700 hT k_x0)) rfl rfl hR_m7 (k_X5_deal (xl X) hT (qr_202 hT (qr_700 hT k_x0)) r_x3 (hR_m7.i 206 _ rfl) e_m11) (fun r_v12 hR_m11 => ?_)
              refine qn_aload hX (pc := 95) dX7_splits_95 0 rfl ?_
              refine qn_aload hX (pc := 97) dX7_splits_97 1 rfl ?_
              refine qn_iconst hX (pc := 99) dX7_splits_99 ?_
              obtain ⟨v14, m13, e_m13, h⟩ := kb2_e h
              refine qn_callVi hX (pc := 100) [.ref o3, .int (iZ 0)] [.int (iZ 0), .ref o3] 2 dX7_splits_100 gX7_splits_X5_partOf rfl dd_X5_partOf ⟨rfl, rfl⟩ rfl rfl (by decide) (qr_202 hT (qr_700 hT k_x0)) rfl rfl hR_m11 (k_X5_partOf (xl X) hT (qr_202 hT (qr_700 hT k_x0)) k_o3 (by decide) e_m13) (fun r_v14 hR_m13 => ?_)
              refine qn_istore hX (pc := 103) (ls' := [(6, .int (iZ v14)), (5, .ref (gR (xG X) 202 (gR (xG X) 700 x0))), (4, .ref o3), (0, .ref x0), (1, .int (iZ x1)), (2, .int (iZ x2)), (3, .int (iZ x3))]) dX7_splits_103 rfl rfl ?_
              refine qn_aload hX (pc := 105) dX7_splits_105 1 rfl ?_
              refine qn_aload_n hX (pc := 107) dX7_splits_107 3 rfl rfl ?_
              refine qn_getR hX (pc := 108) fd_X7_splits_10 dX7_splits_108 k_x0 ?_
              refine qn_getR hX (pc := 111) fd_X7_splits_105 dX7_splits_111 (qr_700 hT k_x0) ?_
              refine qn_aload hX (pc := 114) dX7_splits_114 2 rfl ?_
              refine qn_iload_n hX (pc := 116) dX7_splits_116 5 rfl rfl ?_
              obtain ⟨m15, e_m15, h⟩ := kb_e h
              refine qn_callVv hX (pc := 117) [.ref (gR (xG X) 200 (gR (xG X) 700 x0)), .ref o3, .int (iZ x2)] [.int (iZ x2), .ref o3, .ref (gR (xG X) 200 (gR (xG X) 700 x0))] 3 dX7_splits_117 gX7_splits_X5_loadInParts rfl dd_X5_loadInParts ⟨rfl, rfl⟩ rfl rfl (by decide) (qr_202 hT (qr_700 hT k_x0)) rfl rfl hR_m13 (k_X5_loadInParts (xl X) hT (qr_202 hT (qr_700 hT k_x0)) (qr_200 hT (qr_700 hT k_x0)) k_o3 r_x2 e_m15) (fun r_v16 hR_m15 => ?_)
              refine qn_aload hX (pc := 120) dX7_splits_120 1 rfl ?_
              refine qn_iload_n hX (pc := 122) dX7_splits_122 6 rfl rfl ?_
              refine qn_aload_n hX (pc := 123) dX7_splits_123 3 rfl rfl ?_
              refine qn_getR hX (pc := 124) fd_X7_splits_10 dX7_splits_124 k_x0 ?_
              refine qn_getI hX (pc := 127) fd_X7_splits_129 dX7_splits_127 (qr_700 hT k_x0) ?_
              obtain ⟨m17, e_m17, h⟩ := kb_e h
              refine qn_callVv hX (pc := 130) [.int (iZ x3), .int (iZ (gI m15 206 (gR (xG X) 700 x0)))] [.int (iZ (gI m15 206 (gR (xG X) 700 x0))), .int (iZ x3)] 2 dX7_splits_130 gX7_splits_X5_deal rfl dd_X5_deal ⟨rfl, rfl⟩ rfl rfl (by decide) (qr_202 hT (qr_700 hT k_x0)) rfl rfl hR_m15 (k_X5_deal (xl X) hT (qr_202 hT (qr_700 hT k_x0)) r_x3 (hR_m15.i 206 _ rfl) e_m17) (fun r_v18 hR_m17 => ?_)
              refine qn_aload hX (pc := 133) dX7_splits_133 1 rfl ?_
              refine qn_aload hX (pc := 135) dX7_splits_135 2 rfl ?_
              refine qn_iconst hX (pc := 137) dX7_splits_137 ?_
              obtain ⟨v20, m19, e_m19, h⟩ := kb2_e h
              refine qn_callVi hX (pc := 138) [.ref o3, .int (iZ 0)] [.int (iZ 0), .ref o3] 2 dX7_splits_138 gX7_splits_X5_partOf rfl dd_X5_partOf ⟨rfl, rfl⟩ rfl rfl (by decide) (qr_202 hT (qr_700 hT k_x0)) rfl rfl hR_m17 (k_X5_partOf (xl X) hT (qr_202 hT (qr_700 hT k_x0)) k_o3 (by decide) e_m19) (fun r_v20 hR_m19 => ?_)
              refine qn_iload hX (pc := 141) dX7_splits_141 0 rfl ?_
              obtain ⟨v21, e_v21, r_v21, h⟩ := ckI_e h
              refine qn_isub hX (pc := 143) dX7_splits_143 e_v21 ?_
              exact qn_iret hX (pc := 144) dX7_splits_144 hE hR_m19 r_v21 (Option.some.inj h)
            · have h := ite_t h c10
              refine qn_ldc hX (pc := 79) (-2000000) dX7_splits_79 (by decide +kernel : Cond.constant RX7 215 (-2000000) ∈ wsX7_splits) (by decide) ?_
              exact qn_iret hX (pc := 81) dX7_splits_81 hE hR_m7 (by decide) (Option.some.inj h)
        · have h := ite_t h c6
          refine qn_ldc hX (pc := 38) (-2000000) dX7_splits_38 (by decide +kernel : Cond.constant RX7 215 (-2000000) ∈ wsX7_splits) (by decide) ?_
          exact qn_iret hX (pc := 40) dX7_splits_40 hE hR_m1 (by decide) (Option.some.inj h)
theorem k_X7_splits (l : Launch) {G : qG} (hT : qT G) {N : Nat} {x0 : Nat} {x1 : Int} {x2 : Int} {x3 : Int} (k_x0 : gK G x0 = 8) (r_x1 : in32 x1) (r_x2 : in32 x2) (r_x3 : in32 x3) {m0 : qM} {r : Int} {nu : qM} (h : f_X7_splits N G x0 x1 x2 x3 m0 = some (r, nu)) : qC l yX7_splits wsX7_splits 3 73 G [.ref x0, .int (iZ x1), .int (iZ x2), .int (iZ x3)] m0 (some (.int (iZ r))) (in32 r) nu := by
  refine qn_start (hy := by decide) hT (hw := rfl) (hn := Nat.le_of_ble_eq_true rfl) ?_
  intro X h1 h2 h3 h4 hX hR
  subst h4
  exact w_X7_splits hX ⟨h1, fun q => h2 ▸ q, h3⟩ k_x0 r_x1 r_x2 r_x3 hR h
theorem dd_X7_splits : yX7_splits.cls = RX7 ∧ yX7_splits.cls ≠ "java/lang/invoke/MethodHandle" ∧ yX7_splits.cls ≠ "java/lang/invoke/VarHandle" ∧ (parseMethodDescriptor yX7_splits.desc).map (fun d => d.parameters.length) = some 3 := by decide +kernel
-- ProRataMarket.takeFor
theorem hi_X7_takeFor_7 : ∀ w ∈ wsX70, w ∈ wsX7_takeFor := fun w h => List.mem_cons_of_mem _ (List.mem_append_left _ (List.mem_append_left _ (List.mem_append_left _ (List.mem_append_left _ (List.mem_append_right _ h)))))
theorem fd_X7_takeFor_10 : qFd RX7 wsX7_takeFor 10 7 0 1 700 := ⟨RX7, TX7, 3, _, rfl, hi_X7_takeFor_7, by decide, (by decide +kernel : Cond.fieldLink RX7 10 (TX7 0).1 (TX7 0).2.1 (TX7 0).2.2.1 ∈ wsX7_takeFor), rfl, rfl, by decide⟩
theorem hi_X7_takeFor_2 : ∀ w ∈ wsX20, w ∈ wsX7_takeFor := fun w h => List.mem_cons_of_mem _ (List.mem_append_left _ (List.mem_append_left _ (List.mem_append_left _ (List.mem_append_right _ h))))
theorem fd_X7_takeFor_129 : qFd RX7 wsX7_takeFor 129 2 6 0 206 := ⟨RX2, TX2, 12, _, rfl, hi_X7_takeFor_2, by decide, (by decide +kernel : Cond.fieldLink RX7 129 (TX2 6).1 (TX2 6).2.1 (TX2 6).2.2.1 ∈ wsX7_takeFor), rfl, rfl, by decide⟩
theorem fd_X7_takeFor_105 : qFd RX7 wsX7_takeFor 105 2 0 1 200 := ⟨RX2, TX2, 12, _, rfl, hi_X7_takeFor_2, by decide, (by decide +kernel : Cond.fieldLink RX7 105 (TX2 0).1 (TX2 0).2.1 (TX2 0).2.2.1 ∈ wsX7_takeFor), rfl, rfl, by decide⟩
theorem fd_X7_takeFor_190 : qFd RX7 wsX7_takeFor 190 2 2 1 202 := ⟨RX2, TX2, 12, _, rfl, hi_X7_takeFor_2, by decide, (by decide +kernel : Cond.fieldLink RX7 190 (TX2 2).1 (TX2 2).2.1 (TX2 2).2.2.1 ∈ wsX7_takeFor), rfl, rfl, by decide⟩
theorem hi_X7_takeFor_4 : ∀ w ∈ wsX40, w ∈ wsX7_takeFor := fun w h => List.mem_cons_of_mem _ (List.mem_append_left _ (List.mem_append_left _ (List.mem_append_right _ h)))
theorem fd_X7_takeFor_150 : qFd RX7 wsX7_takeFor 150 4 2 0 402 := ⟨RX4, TX4, 6, _, rfl, hi_X7_takeFor_4, by decide, (by decide +kernel : Cond.fieldLink RX7 150 (TX4 2).1 (TX4 2).2.1 (TX4 2).2.2.1 ∈ wsX7_takeFor), rfl, rfl, by decide⟩
theorem fd_X7_takeFor_153 : qFd RX7 wsX7_takeFor 153 4 3 0 403 := ⟨RX4, TX4, 6, _, rfl, hi_X7_takeFor_4, by decide, (by decide +kernel : Cond.fieldLink RX7 153 (TX4 3).1 (TX4 3).2.1 (TX4 3).2.2.1 ∈ wsX7_takeFor), rfl, rfl, by decide⟩
theorem fd_X7_takeFor_115 : qFd RX7 wsX7_takeFor 115 4 4 0 404 := ⟨RX4, TX4, 6, _, rfl, hi_X7_takeFor_4, by decide, (by decide +kernel : Cond.fieldLink RX7 115 (TX4 4).1 (TX4 4).2.1 (TX4 4).2.2.1 ∈ wsX7_takeFor), rfl, rfl, by decide⟩
set_option maxHeartbeats 4000000 in
set_option maxRecDepth 20000 in
theorem w_X7_takeFor_72 {X : qB} {N : Nat} (hX : qOk X cX7_takeFor RX7 4 (some .int) wsX7_takeFor 3 80) {r : Int} {nu : qM} (hE : xr X = some (.int (iZ r)) ∧ (in32 r → xΦ X) ∧ xμ X = nu) 
    {x0 : Nat} {s0 : Nat} {s1 : Nat} {s2 : Int} (k_x0 : gK (xG X) x0 = 8) (k_s0 : gK (xG X) s0 = 6) (k_s1 : gK (xG X) s1 = 5) (r_s2 : in32 s2) {m0 : qM} (hR_m0 : qR (xG X) m0)
    (h : f_X7_takeFor_72 N (xG X)  x0 s0 s1 s2 m0 = some (r, nu)) : qN X 4 72 [(0, .ref x0)] [.int (iZ s2), .ref s1, .ref s0] m0 := by
  have hT := hX.T
  unfold f_X7_takeFor_72 at h
  refine qn_aload_n hX (pc := 72) dX7_takeFor_72 0 rfl rfl ?_
  refine qn_getR hX (pc := 73) fd_X7_takeFor_10 dX7_takeFor_73 k_x0 ?_
  refine qn_getI hX (pc := 76) fd_X7_takeFor_129 dX7_takeFor_76 (qr_700 hT k_x0) ?_
  obtain ⟨v2, m1, e_m1, h⟩ := kb2_e h
  refine qn_callVi hX (pc := 79) [.ref s1, .int (iZ s2), .int (iZ (gI m0 206 (gR (xG X) 700 x0)))] [.int (iZ (gI m0 206 (gR (xG X) 700 x0))), .int (iZ s2), .ref s1] 3 dX7_takeFor_79 gX7_takeFor_X5_leastTake rfl dd_X5_leastTake ⟨rfl, rfl⟩ rfl rfl (by decide) k_s0 rfl rfl hR_m0 (k_X5_leastTake (xl X) hT k_s0 k_s1 r_s2 (hR_m0.i 206 _ rfl) e_m1) (fun r_v2 hR_m1 => ?_)
  exact qn_iret hX (pc := 82) dX7_takeFor_82 hE hR_m1 r_v2 (Option.some.inj h)
set_option maxHeartbeats 4000000 in
set_option maxRecDepth 20000 in
theorem w_X7_takeFor {X : qB} {N : Nat} (hX : qOk X cX7_takeFor RX7 4 (some .int) wsX7_takeFor 3 80) {r : Int} {nu : qM} (hE : xr X = some (.int (iZ r)) ∧ (in32 r → xΦ X) ∧ xμ X = nu) 
    {x0 : Nat} {x1 : Int} {x2 : Int} (k_x0 : gK (xG X) x0 = 8) (r_x1 : in32 x1) (r_x2 : in32 x2) {m0 : qM} (hR_m0 : qR (xG X) m0)
    (h : f_X7_takeFor N (xG X)  x0 x1 x2 m0 = some (r, nu)) : qN X 4 0 [(0, .ref x0), (1, .int (iZ x1)), (2, .int (iZ x2))] [] m0 := by
  have hT := hX.T
  unfold f_X7_takeFor at h
  refine qn_aload_n hX (pc := 0) dX7_takeFor_0 0 rfl rfl ?_
  refine qn_getR hX (pc := 1) fd_X7_takeFor_10 dX7_takeFor_1 k_x0 ?_
  refine qn_getR hX (pc := 4) fd_X7_takeFor_105 dX7_takeFor_4 (qr_700 hT k_x0) ?_
  refine qn_iload_n hX (pc := 7) dX7_takeFor_7 1 rfl rfl ?_
  obtain ⟨v2, m1, e_m1, h⟩ := kb2_e h
  refine qn_callVq hX (pc := 8) [.int (iZ x1)] [.int (iZ x1)] 1 dX7_takeFor_8 gX7_takeFor_X0_find rfl dd_X0_find ⟨rfl, rfl⟩ rfl rfl (by decide) (qr_200 hT (qr_700 hT k_x0)) rfl rfl hR_m0 (k_X0_find (xl X) hT (qr_200 hT (qr_700 hT k_x0)) r_x1 e_m1) (fun r_v2 hR_m1 => ?_)
  rcases v2 with _ | o3
  · try dsimp only at h
    refine qn_astore_nN hX (pc := 11) (ls' := [(3, .null), (0, .ref x0), (1, .int (iZ x1)), (2, .int (iZ x2))]) dX7_takeFor_11 rfl rfl rfl ?_
    refine qn_aload_nN hX (pc := 12) dX7_takeFor_12 0 rfl rfl ?_
    refine qn_ifnullN hX (pc := 13) 25 dX7_takeFor_13 (by decide) ?_
    refine qn_iconst hX (pc := 25) dX7_takeFor_25 ?_
    exact qn_iret hX (pc := 26) dX7_takeFor_26 hE hR_m1 (by decide) (Option.some.inj h)
  · try dsimp only at h
    have k_o3 := r_v2 o3 rfl
    refine qn_astore_n hX (pc := 11) (ls' := [(3, .ref o3), (0, .ref x0), (1, .int (iZ x1)), (2, .int (iZ x2))]) dX7_takeFor_11 rfl rfl rfl ?_
    refine qn_aload_n hX (pc := 12) dX7_takeFor_12 0 rfl rfl ?_
    refine qn_ifnull hX (pc := 13) dX7_takeFor_13 ?_
    refine qn_iload_n hX (pc := 16) dX7_takeFor_16 3 rfl rfl ?_
    refine qn_if_lt hX (pc := 17) r_x2 25 dX7_takeFor_17 (by decide) (fun c4 => ?_) (fun c4 => ?_)
    · have h := ite_t h c4
      refine qn_iconst hX (pc := 25) dX7_takeFor_25 ?_
      exact qn_iret hX (pc := 26) dX7_takeFor_26 hE hR_m1 (by decide) (Option.some.inj h)
    · have h := ite_f h c4
      refine qn_iload_n hX (pc := 20) dX7_takeFor_20 3 rfl rfl ?_
      refine qn_iconst hX (pc := 21) dX7_takeFor_21 ?_
      refine qn_icmp_le hX (pc := 22) r_x2 (by decide) 27 dX7_takeFor_22 (by decide) (fun c5 => ?_) (fun c5 => ?_)
      · have h := ite_f h c5
        refine qn_aload_n hX (pc := 27) dX7_takeFor_27 1 rfl rfl ?_
        refine qn_getR hX (pc := 28) fd_X7_takeFor_10 dX7_takeFor_28 k_x0 ?_
        refine qn_getR hX (pc := 31) fd_X7_takeFor_190 dX7_takeFor_31 (qr_700 hT k_x0) ?_
        refine qn_aload_n hX (pc := 34) dX7_takeFor_34 1 rfl rfl ?_
        refine qn_getR hX (pc := 35) fd_X7_takeFor_10 dX7_takeFor_35 k_x0 ?_
        refine qn_getR hX (pc := 38) fd_X7_takeFor_105 dX7_takeFor_38 (qr_700 hT k_x0) ?_
        refine qn_aload_n hX (pc := 41) dX7_takeFor_41 0 rfl rfl ?_
        refine qn_getI hX (pc := 42) fd_X7_takeFor_150 dX7_takeFor_42 k_o3 ?_
        refine qn_aload_n hX (pc := 45) dX7_takeFor_45 0 rfl rfl ?_
        refine qn_getI hX (pc := 46) fd_X7_takeFor_153 dX7_takeFor_46 k_o3 ?_
        obtain ⟨m6, e_m6, h⟩ := kb_e h
        refine qn_callVv hX (pc := 49) [.ref (gR (xG X) 200 (gR (xG X) 700 x0)), .int (iZ (gI m1 402 o3)), .int (iZ (gI m1 403 o3))] [.int (iZ (gI m1 403 o3)), .int (iZ (gI m1 402 o3)), .ref (gR (xG X) 200 (gR (xG X) 700 x0))] 3 dX7_takeFor_49 gX7_takeFor_X5_load rfl dd_X5_load ⟨rfl, rfl⟩ rfl rfl (by decide) (qr_202 hT (qr_700 hT k_x0)) rfl rfl hR_m1 (k_X5_load (xl X) hT (qr_202 hT (qr_700 hT k_x0)) (qr_200 hT (qr_700 hT k_x0)) (hR_m1.i 402 _ rfl) (hR_m1.i 403 _ rfl) e_m6) (fun r_v7 hR_m6 => ?_)
        refine qn_aload_n hX (pc := 52) dX7_takeFor_52 1 rfl rfl ?_
        refine qn_getR hX (pc := 53) fd_X7_takeFor_10 dX7_takeFor_53 k_x0 ?_
        refine qn_getR hX (pc := 56) fd_X7_takeFor_190 dX7_takeFor_56 (qr_700 hT k_x0) ?_
        refine qn_aload_n hX (pc := 59) dX7_takeFor_59 0 rfl rfl ?_
        refine qn_iload_n hX (pc := 60) dX7_takeFor_60 3 rfl rfl ?_
        refine qn_if_ne hX (pc := 61) r_x2 68 dX7_takeFor_61 (by decide) (fun c8 => ?_) (fun c8 => ?_)
        · have h := ite_f h c8
          refine qn_aload_n hX (pc := 68) dX7_takeFor_68 0 rfl rfl ?_
          refine qn_getI hX (pc := 69) fd_X7_takeFor_115 dX7_takeFor_69 k_o3 ?_
          refine qn_sub (ls' := [(0, .ref x0)]) [1] rfl ?_
          exact w_X7_takeFor_72 hX hE  k_x0 (qr_202 hT (qr_700 hT k_x0)) k_o3 (hR_m6.i 404 _ rfl) hR_m6 h
        · have h := ite_t h c8
          refine qn_iconst hX (pc := 64) dX7_takeFor_64 ?_
          refine qn_goto hX (pc := 65) 72 dX7_takeFor_65 (by decide) ?_
          refine qn_sub (ls' := [(0, .ref x0)]) [1] rfl ?_
          exact w_X7_takeFor_72 hX hE  k_x0 (qr_202 hT (qr_700 hT k_x0)) k_o3 (by decide) hR_m6 h
      · have h := ite_t h c5
        refine qn_iconst hX (pc := 25) dX7_takeFor_25 ?_
        exact qn_iret hX (pc := 26) dX7_takeFor_26 hE hR_m1 (by decide) (Option.some.inj h)
theorem k_X7_takeFor (l : Launch) {G : qG} (hT : qT G) {N : Nat} {x0 : Nat} {x1 : Int} {x2 : Int} (k_x0 : gK G x0 = 8) (r_x1 : in32 x1) (r_x2 : in32 x2) {m0 : qM} {r : Int} {nu : qM} (h : f_X7_takeFor N G x0 x1 x2 m0 = some (r, nu)) : qC l yX7_takeFor wsX7_takeFor 3 80 G [.ref x0, .int (iZ x1), .int (iZ x2)] m0 (some (.int (iZ r))) (in32 r) nu := by
  refine qn_start (hy := by decide) hT (hw := rfl) (hn := Nat.le_of_ble_eq_true rfl) ?_
  intro X h1 h2 h3 h4 hX hR
  subst h4
  exact w_X7_takeFor hX ⟨h1, fun q => h2 ▸ q, h3⟩ k_x0 r_x1 r_x2 hR h
theorem dd_X7_takeFor : yX7_takeFor.cls = RX7 ∧ yX7_takeFor.cls ≠ "java/lang/invoke/MethodHandle" ∧ yX7_takeFor.cls ≠ "java/lang/invoke/VarHandle" ∧ (parseMethodDescriptor yX7_takeFor.desc).map (fun d => d.parameters.length) = some 2 := by decide +kernel
-- ProRataMarket.top
theorem hi_X7_top_7 : ∀ w ∈ wsX70, w ∈ wsX7_top := fun w h => List.mem_cons_of_mem _ (List.mem_append_left _ (List.mem_append_left _ (List.mem_append_right _ h)))
theorem fd_X7_top_10 : qFd RX7 wsX7_top 10 7 0 1 700 := ⟨RX7, TX7, 3, _, rfl, hi_X7_top_7, by decide, (by decide +kernel : Cond.fieldLink RX7 10 (TX7 0).1 (TX7 0).2.1 (TX7 0).2.2.1 ∈ wsX7_top), rfl, rfl, by decide⟩
theorem hi_X7_top_2 : ∀ w ∈ wsX20, w ∈ wsX7_top := fun w h => List.mem_cons_of_mem _ (List.mem_append_left _ (List.mem_append_right _ h))
theorem fd_X7_top_105 : qFd RX7 wsX7_top 105 2 0 1 200 := ⟨RX2, TX2, 12, _, rfl, hi_X7_top_2, by decide, (by decide +kernel : Cond.fieldLink RX7 105 (TX2 0).1 (TX2 0).2.1 (TX2 0).2.2.1 ∈ wsX7_top), rfl, rfl, by decide⟩
theorem hi_X7_top_0 : ∀ w ∈ wsX00, w ∈ wsX7_top := fun w h => List.mem_cons_of_mem _ (List.mem_append_right _ h)
theorem fd_X7_top_181 : qFd RX7 wsX7_top 181 0 2 1 2 := ⟨RX0, TX0, 4, _, rfl, hi_X7_top_0, by decide, (by decide +kernel : Cond.fieldLink RX7 181 (TX0 2).1 (TX0 2).2.1 (TX0 2).2.2.1 ∈ wsX7_top), rfl, rfl, by decide⟩
set_option maxHeartbeats 4000000 in
set_option maxRecDepth 20000 in
theorem w_X7_top {X : qB} {N : Nat} (hX : qOk X cX7_top RX7 2 (some .int) wsX7_top 1 20) {r : Int} {nu : qM} (hE : xr X = some (.int (iZ r)) ∧ (in32 r → xΦ X) ∧ xμ X = nu) 
    {x0 : Nat} {x1 : Int} (k_x0 : gK (xG X) x0 = 8) (r_x1 : in32 x1) {m0 : qM} (hR_m0 : qR (xG X) m0)
    (h : f_X7_top N (xG X)  x0 x1 m0 = some (r, nu)) : qN X 2 0 [(0, .ref x0), (1, .int (iZ x1))] [] m0 := by
  have hT := hX.T
  unfold f_X7_top at h
  refine qn_iload_n hX (pc := 0) dX7_top_0 1 rfl rfl ?_
  obtain ⟨v2, m1, e_m1, h⟩ := kb2_e h
  refine qn_callSi hX (pc := 1) [.int (iZ x1)] [.int (iZ x1)] 1 dX7_top_1 gX7_top_X7_isSide rfl dd_X7_isSide ⟨rfl, rfl⟩ rfl rfl rfl hR_m0 (k_X7_isSide (xl X) hT r_x1 e_m1) (fun r_v2 hR_m1 => ?_)
  refine qn_if_eq hX (pc := 4) r_v2.i 22 dX7_top_4 (by decide) (fun c3 => ?_) (fun c3 => ?_)
  · have h := ite_t h c3
    refine qn_iconst hX (pc := 22) dX7_top_22 ?_
    exact qn_iret hX (pc := 23) dX7_top_23 hE hR_m1 (by decide) (Option.some.inj h)
  · have h := ite_f h c3
    refine qn_aload_n hX (pc := 7) dX7_top_7 0 rfl rfl ?_
    refine qn_getR hX (pc := 8) fd_X7_top_10 dX7_top_8 k_x0 ?_
    refine qn_getR hX (pc := 11) fd_X7_top_105 dX7_top_11 (qr_700 hT k_x0) ?_
    refine qn_getR hX (pc := 14) fd_X7_top_181 dX7_top_14 (qr_200 hT (qr_700 hT k_x0)) ?_
    refine qn_iload_n hX (pc := 17) dX7_top_17 1 rfl rfl ?_
    obtain ⟨v4, e_v4, b_v4, h⟩ := rdA_e h
    have r_v4 : in32 v4 := by rw [e_v4]; exact hR_m1.a (n := 2) _ (qr_2 hT (qr_200 hT (qr_700 hT k_x0))) (by decide)
    refine qn_iald hX (pc := 18) 2 dX7_top_18 (qr_2 hT (qr_200 hT (qr_700 hT k_x0))) (by decide) b_v4 e_v4 ?_
    refine qn_if_ne hX (pc := 19) r_v4 24 dX7_top_19 (by decide) (fun c5 => ?_) (fun c5 => ?_)
    · have h := ite_f h c5
      refine qn_aload_n hX (pc := 24) dX7_top_24 0 rfl rfl ?_
      refine qn_getR hX (pc := 25) fd_X7_top_10 dX7_top_25 k_x0 ?_
      refine qn_getR hX (pc := 28) fd_X7_top_105 dX7_top_28 (qr_700 hT k_x0) ?_
      refine qn_getR hX (pc := 31) fd_X7_top_181 dX7_top_31 (qr_200 hT (qr_700 hT k_x0)) ?_
      refine qn_iload_n hX (pc := 34) dX7_top_34 1 rfl rfl ?_
      obtain ⟨v6, e_v6, b_v6, h⟩ := rdA_e h
      have r_v6 : in32 v6 := by rw [e_v6]; exact hR_m1.a (n := 2) _ (qr_2 hT (qr_200 hT (qr_700 hT k_x0))) (by decide)
      refine qn_iald hX (pc := 35) 2 dX7_top_35 (qr_2 hT (qr_200 hT (qr_700 hT k_x0))) (by decide) b_v6 e_v6 ?_
      exact qn_iret hX (pc := 36) dX7_top_36 hE hR_m1 r_v6 (Option.some.inj h)
    · have h := ite_t h c5
      refine qn_iconst hX (pc := 22) dX7_top_22 ?_
      exact qn_iret hX (pc := 23) dX7_top_23 hE hR_m1 (by decide) (Option.some.inj h)
theorem k_X7_top (l : Launch) {G : qG} (hT : qT G) {N : Nat} {x0 : Nat} {x1 : Int} (k_x0 : gK G x0 = 8) (r_x1 : in32 x1) {m0 : qM} {r : Int} {nu : qM} (h : f_X7_top N G x0 x1 m0 = some (r, nu)) : qC l yX7_top wsX7_top 1 20 G [.ref x0, .int (iZ x1)] m0 (some (.int (iZ r))) (in32 r) nu := by
  refine qn_start (hy := by decide) hT (hw := rfl) (hn := Nat.le_of_ble_eq_true rfl) ?_
  intro X h1 h2 h3 h4 hX hR
  subst h4
  exact w_X7_top hX ⟨h1, fun q => h2 ▸ q, h3⟩ k_x0 r_x1 hR h
theorem dd_X7_top : yX7_top.cls = RX7 ∧ yX7_top.cls ≠ "java/lang/invoke/MethodHandle" ∧ yX7_top.cls ≠ "java/lang/invoke/VarHandle" ∧ (parseMethodDescriptor yX7_top.desc).map (fun d => d.parameters.length) = some 1 := by decide +kernel
