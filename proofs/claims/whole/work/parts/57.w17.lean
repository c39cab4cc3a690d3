-- ProRataMarketModel.share
theorem hi_X8_share_8 : ∀ w ∈ wsX80, w ∈ wsX8_share := fun w h => List.mem_cons_of_mem _ (List.mem_append_right _ h)
theorem fp_X8_share_45 : qFp RX8 wsX8_share 45 8 4 0 804 .int := ⟨RX8, TX8, 32, _, tyX8, rfl, hi_X8_share_8, by decide, (by decide +kernel : Cond.fieldLink RX8 45 (TX8 4).1 (TX8 4).2.1 (TX8 4).2.2.1 ∈ wsX8_share), rfl, rfl, by decide, tyX8_ok, nmX8, rfl, by decide +kernel⟩
theorem fd_X8_share_7 : qFd RX8 wsX8_share 7 8 0 1 800 := ⟨RX8, TX8, 32, _, rfl, hi_X8_share_8, by decide, (by decide +kernel : Cond.fieldLink RX8 7 (TX8 0).1 (TX8 0).2.1 (TX8 0).2.2.1 ∈ wsX8_share), rfl, rfl, by decide⟩
theorem fd_X8_share_35 : qFd RX8 wsX8_share 35 8 10 1 810 := ⟨RX8, TX8, 32, _, rfl, hi_X8_share_8, by decide, (by decide +kernel : Cond.fieldLink RX8 35 (TX8 10).1 (TX8 10).2.1 (TX8 10).2.2.1 ∈ wsX8_share), rfl, rfl, by decide⟩
theorem fd_X8_share_32 : qFd RX8 wsX8_share 32 8 9 1 809 := ⟨RX8, TX8, 32, _, rfl, hi_X8_share_8, by decide, (by decide +kernel : Cond.fieldLink RX8 32 (TX8 9).1 (TX8 9).2.1 (TX8 9).2.2.1 ∈ wsX8_share), rfl, rfl, by decide⟩
theorem fd_X8_share_29 : qFd RX8 wsX8_share 29 8 8 1 808 := ⟨RX8, TX8, 32, _, rfl, hi_X8_share_8, by decide, (by decide +kernel : Cond.fieldLink RX8 29 (TX8 8).1 (TX8 8).2.1 (TX8 8).2.2.1 ∈ wsX8_share), rfl, rfl, by decide⟩
set_option maxHeartbeats 4000000 in
set_option maxRecDepth 20000 in
theorem w_X8_share {X : qB} {N : Nat} (hX : qOk X cX8_share RX8 6 (some .int) wsX8_share 4 91) {r : Int} {nu : qM} (hE : xr X = some (.int (iZ r)) ∧ (in32 r → xΦ X) ∧ xμ X = nu) 
    {x0 : Nat} {x1 : Int} {x2 : Int} {x3 : Int} (k_x0 : gK (xG X) x0 = 9) (r_x1 : in32 x1) (r_x2 : in32 x2) (r_x3 : in32 x3) {m0 : qM} (hR_m0 : qR (xG X) m0)
    (h : f_X8_share N (xG X)  x0 x1 x2 x3 m0 = some (r, nu)) : qN X 6 0 [(0, .ref x0), (1, .int (iZ x1)), (2, .int (iZ x2)), (3, .int (iZ x3))] [] m0 := by
  have hT := hX.T
  unfold f_X8_share at h
  refine qn_aload_n hX (pc := 0) dX8_share_0 0 rfl rfl ?_
  refine qn_iconst hX (pc := 1) dX8_share_1 ?_
  obtain ⟨m1, e_m1, h⟩ := kp_e h
  refine qn_putI hX (pc := 2) fp_X8_share_45 dX8_share_2 k_x0 hR_m0 (show in32 0 by decide) e_m1 (fun hR_m1 => ?_) 
  refine qn_aload_n hX (pc := 5) dX8_share_5 0 rfl rfl ?_
  refine qn_iload_n hX (pc := 6) dX8_share_6 1 rfl rfl ?_
  obtain ⟨v3, m2, e_m2, h⟩ := kb2_e h
  refine qn_callVi hX (pc := 7) [.int (iZ x1)] [.int (iZ x1)] 1 dX8_share_7 gX8_share_X8_laysFor rfl dd_X8_laysFor ⟨rfl, rfl⟩ rfl rfl (by decide) k_x0 rfl rfl hR_m1 (k_X8_laysFor (xl X) hT k_x0 r_x1 e_m2) (fun r_v3 hR_m2 => ?_)
  refine qn_istore hX (pc := 10) (ls' := [(4, .int (iZ v3)), (0, .ref x0), (1, .int (iZ x1)), (2, .int (iZ x2)), (3, .int (iZ x3))]) dX8_share_10 rfl rfl ?_
  refine qn_iload hX (pc := 12) dX8_share_12 0 rfl ?_
  refine qn_if_lt hX (pc := 14) r_v3 43 dX8_share_14 (by decide) (fun c4 => ?_) (fun c4 => ?_)
  · have h := ite_t h c4
    refine qn_iconst hX (pc := 43) dX8_share_43 ?_
    exact qn_iret hX (pc := 44) dX8_share_44 hE hR_m2 (by decide) (Option.some.inj h)
  · have h := ite_f h c4
    refine qn_iload_n hX (pc := 17) dX8_share_17 4 rfl rfl ?_
    refine qn_i2l hX (pc := 18) r_x3 dX8_share_18 ?_
    refine qn_lconst hX (pc := 19) 0 dX8_share_19 (by decide) ?_
    refine qn_ldc2 hX (pc := 20) 3 dX8_share_20 (by decide +kernel : Cond.constantLong RX8 166 (3) ∈ wsX8_share) (by decide) ?_
    obtain ⟨v6, m5, e_m5, h⟩ := kb2_e h
    refine qn_callSi hX (pc := 23) [.long (lZ x3), .long (lZ 0), .long (lZ 3)] [.long (lZ 3), .long (lZ 0), .long (lZ x3)] 3 dX8_share_23 gX8_share_X8_within rfl dd_X8_within ⟨rfl, rfl⟩ rfl rfl rfl hR_m2 (k_X8_within (xl X) hT (in32.l r_x3) (by decide) (by decide) e_m5) (fun r_v6 hR_m5 => ?_)
    refine qn_if_eq hX (pc := 26) r_v6.i 43 dX8_share_26 (by decide) (fun c7 => ?_) (fun c7 => ?_)
    · have h := ite_t h c7
      refine qn_iconst hX (pc := 43) dX8_share_43 ?_
      exact qn_iret hX (pc := 44) dX8_share_44 hE hR_m5 (by decide) (Option.some.inj h)
    · have h := ite_f h c7
      refine qn_iload_n hX (pc := 29) dX8_share_29 3 rfl rfl ?_
      refine qn_i2l hX (pc := 30) r_x2 dX8_share_30 ?_
      refine qn_lconst hX (pc := 31) 1 dX8_share_31 (by decide) ?_
      refine qn_aload_n hX (pc := 32) dX8_share_32 1 rfl rfl ?_
      obtain ⟨v9, m8, e_m8, h⟩ := kb2_e h
      refine qn_callVi hX (pc := 33) [] [] 0 dX8_share_33 gX8_share_X8_laidInAll rfl dd_X8_laidInAll ⟨rfl, rfl⟩ rfl rfl (by decide) k_x0 rfl rfl hR_m5 (k_X8_laidInAll (xl X) hT k_x0 e_m8) (fun r_v9 hR_m8 => ?_)
      refine qn_i2l hX (pc := 36) r_v9 dX8_share_36 ?_
      obtain ⟨v11, m10, e_m10, h⟩ := kb2_e h
      refine qn_callSi hX (pc := 37) [.long (lZ x2), .long (lZ 1), .long (lZ v9)] [.long (lZ v9), .long (lZ 1), .long (lZ x2)] 3 dX8_share_37 gX8_share_X8_within rfl dd_X8_within ⟨rfl, rfl⟩ rfl rfl rfl hR_m8 (k_X8_within (xl X) hT (in32.l r_x2) (by decide) (in32.l r_v9) e_m10) (fun r_v11 hR_m10 => ?_)
      refine qn_if_ne hX (pc := 40) r_v11.i 45 dX8_share_40 (by decide) (fun c12 => ?_) (fun c12 => ?_)
      · have h := ite_f h c12
        refine qn_aload_n hX (pc := 45) dX8_share_45 1 rfl rfl ?_
        refine qn_iload_n hX (pc := 46) dX8_share_46 2 rfl rfl ?_
        obtain ⟨v14, m13, e_m13, h⟩ := kb2_e h
        refine qn_callVi hX (pc := 47) [.int (iZ x1)] [.int (iZ x1)] 1 dX8_share_47 gX8_share_X8_sideOf rfl dd_X8_sideOf ⟨rfl, rfl⟩ rfl rfl (by decide) k_x0 rfl rfl hR_m10 (k_X8_sideOf (xl X) hT k_x0 r_x1 e_m13) (fun r_v14 hR_m13 => ?_)
        refine qn_istore hX (pc := 50) (ls' := [(5, .int (iZ v14)), (4, .int (iZ v3)), (0, .ref x0), (1, .int (iZ x1)), (2, .int (iZ x2)), (3, .int (iZ x3))]) dX8_share_50 rfl rfl ?_
        refine qn_aload_n hX (pc := 52) dX8_share_52 2 rfl rfl ?_
        refine qn_iload_n hX (pc := 53) dX8_share_53 4 rfl rfl ?_
        refine qn_aload_n hX (pc := 54) dX8_share_54 2 rfl rfl ?_
        refine qn_iload hX (pc := 55) dX8_share_55 0 rfl ?_
        obtain ⟨v16, m15, e_m15, h⟩ := kb2_e h
        refine qn_callVi hX (pc := 57) [.int (iZ v14)] [.int (iZ v14)] 1 dX8_share_57 gX8_share_X8_topLaid rfl dd_X8_topLaid ⟨rfl, rfl⟩ rfl rfl (by decide) k_x0 rfl rfl hR_m13 (k_X8_topLaid (xl X) hT k_x0 r_v14 e_m15) (fun r_v16 hR_m15 => ?_)
        refine qn_aload_n hX (pc := 60) dX8_share_60 2 rfl rfl ?_
        refine qn_getR hX (pc := 61) fd_X8_share_7 dX8_share_61 k_x0 ?_
        refine qn_bipush hX (pc := 64) dX8_share_64 (by decide) ?_
        refine qn_iload hX (pc := 66) dX8_share_66 0 rfl ?_
        obtain ⟨v17, e_v17, r_v17, h⟩ := ckI_e h
        refine qn_iadd hX (pc := 68) dX8_share_68 e_v17 ?_
        obtain ⟨v18, e_v18, b_v18, h⟩ := rdA_e h
        have r_v18 : in32 v18 := by rw [e_v18]; exact hR_m15.a (n := 684) _ (qr_800 hT k_x0) (by decide)
        refine qn_iald hX (pc := 69) 684 dX8_share_69 (qr_800 hT k_x0) (by decide) b_v18 e_v18 ?_
        obtain ⟨m19, e_m19, h⟩ := kb_e h
        refine qn_callVv hX (pc := 70) [.int (iZ x2), .int (iZ v16), .int (iZ v18)] [.int (iZ v18), .int (iZ v16), .int (iZ x2)] 3 dX8_share_70 gX8_share_X8_shares rfl dd_X8_shares ⟨rfl, rfl⟩ rfl rfl (by decide) k_x0 rfl rfl hR_m15 (k_X8_shares (xl X) hT k_x0 r_x2 r_v16 r_v18 e_m19) (fun r_v20 hR_m19 => ?_)
        refine qn_iload_n hX (pc := 73) dX8_share_73 5 rfl rfl ?_
        refine qn_if_ne hX (pc := 74) r_x3 86 dX8_share_74 (by decide) (fun c21 => ?_) (fun c21 => ?_)
        · have h := ite_f h c21
          refine qn_iload_n hX (pc := 86) dX8_share_86 5 rfl rfl ?_
          refine qn_iconst hX (pc := 87) dX8_share_87 ?_
          refine qn_icmp_ne hX (pc := 88) r_x3 (by decide) 101 dX8_share_88 (by decide) (fun c22 => ?_) (fun c22 => ?_)
          · have h := ite_f h c22
            refine qn_iload_n hX (pc := 101) dX8_share_101 5 rfl rfl ?_
            refine qn_iconst hX (pc := 102) dX8_share_102 ?_
            refine qn_icmp_ne hX (pc := 103) r_x3 (by decide) 116 dX8_share_103 (by decide) (fun c23 => ?_) (fun c23 => ?_)
            · have h := ite_f h c23
              refine qn_aload_n hX (pc := 116) dX8_share_116 2 rfl rfl ?_
              refine qn_getR hX (pc := 117) fd_X8_share_35 dX8_share_117 k_x0 ?_
              refine qn_iload hX (pc := 120) dX8_share_120 1 rfl ?_
              obtain ⟨v24, e_v24, b_v24, h⟩ := rdA_e h
              have r_v24 : in32 v24 := by rw [e_v24]; exact hR_m19.a (n := 70) _ (qr_810 hT k_x0) (by decide)
              refine qn_iald hX (pc := 122) 70 dX8_share_122 (qr_810 hT k_x0) (by decide) b_v24 e_v24 ?_
              exact qn_iret hX (pc := 123) dX8_share_123 hE hR_m19 r_v24 (Option.some.inj h)
            · have h := ite_t h c23
              refine qn_aload_n hX (pc := 106) dX8_share_106 2 rfl rfl ?_
              refine qn_getR hX (pc := 107) fd_X8_share_32 dX8_share_107 k_x0 ?_
              refine qn_iload hX (pc := 110) dX8_share_110 1 rfl ?_
              obtain ⟨v25, e_v25, b_v25, h⟩ := rdA_e h
              have r_v25 : in32 v25 := by rw [e_v25]; exact hR_m19.a (n := 70) _ (qr_809 hT k_x0) (by decide)
              refine qn_iald hX (pc := 112) 70 dX8_share_112 (qr_809 hT k_x0) (by decide) b_v25 e_v25 ?_
              refine qn_goto hX (pc := 113) 123 dX8_share_113 (by decide) ?_
              exact qn_iret hX (pc := 123) dX8_share_123 hE hR_m19 r_v25 (Option.some.inj h)
          · have h := ite_t h c22
            refine qn_aload_n hX (pc := 91) dX8_share_91 2 rfl rfl ?_
            refine qn_getR hX (pc := 92) fd_X8_share_29 dX8_share_92 k_x0 ?_
            refine qn_iload hX (pc := 95) dX8_share_95 1 rfl ?_
            obtain ⟨v26, e_v26, b_v26, h⟩ := rdA_e h
            have r_v26 : in32 v26 := by rw [e_v26]; exact hR_m19.a (n := 70) _ (qr_808 hT k_x0) (by decide)
            refine qn_iald hX (pc := 97) 70 dX8_share_97 (qr_808 hT k_x0) (by decide) b_v26 e_v26 ?_
            refine qn_goto hX (pc := 98) 123 dX8_share_98 (by decide) ?_
            exact qn_iret hX (pc := 123) dX8_share_123 hE hR_m19 r_v26 (Option.some.inj h)
        · have h := ite_t h c21
          refine qn_aload_n hX (pc := 77) dX8_share_77 2 rfl rfl ?_
          refine qn_iload hX (pc := 78) dX8_share_78 1 rfl ?_
          obtain ⟨v28, m27, e_m27, h⟩ := kb2_e h
          refine qn_callVi hX (pc := 80) [.int (iZ v3)] [.int (iZ v3)] 1 dX8_share_80 gX8_share_X8_has rfl dd_X8_has ⟨rfl, rfl⟩ rfl rfl (by decide) k_x0 rfl rfl hR_m19 (k_X8_has (xl X) hT k_x0 r_v3 e_m27) (fun r_v28 hR_m27 => ?_)
          refine qn_goto hX (pc := 83) 123 dX8_share_83 (by decide) ?_
          exact qn_iret hX (pc := 123) dX8_share_123 hE hR_m27 r_v28 (Option.some.inj h)
      · have h := ite_t h c12
        refine qn_iconst hX (pc := 43) dX8_share_43 ?_
        exact qn_iret hX (pc := 44) dX8_share_44 hE hR_m10 (by decide) (Option.some.inj h)
theorem k_X8_share (l : Launch) {G : qG} (hT : qT G) {N : Nat} {x0 : Nat} {x1 : Int} {x2 : Int} {x3 : Int} (k_x0 : gK G x0 = 9) (r_x1 : in32 x1) (r_x2 : in32 x2) (r_x3 : in32 x3) {m0 : qM} {r : Int} {nu : qM} (h : f_X8_share N G x0 x1 x2 x3 m0 = some (r, nu)) : qC l yX8_share wsX8_share 4 91 G [.ref x0, .int (iZ x1), .int (iZ x2), .int (iZ x3)] m0 (some (.int (iZ r))) (in32 r) nu := by
  refine qn_start (hy := by decide) hT (hw := rfl) (hn := Nat.le_of_ble_eq_true rfl) ?_
  intro X h1 h2 h3 h4 hX hR
  subst h4
  exact w_X8_share hX ⟨h1, fun q => h2 ▸ q, h3⟩ k_x0 r_x1 r_x2 r_x3 hR h
theorem dd_X8_share : yX8_share.cls = RX8 ∧ yX8_share.cls ≠ "java/lang/invoke/MethodHandle" ∧ yX8_share.cls ≠ "java/lang/invoke/VarHandle" ∧ (parseMethodDescriptor yX8_share.desc).map (fun d => d.parameters.length) = some 3 := by decide +kernel
-- ProRataMarketModel.splits
theorem hi_X8_splits_8 : ∀ w ∈ wsX80, w ∈ wsX8_splits := fun w h => List.mem_cons_of_mem _ (List.mem_append_right _ h)
theorem fd_X8_splits_7 : qFd RX8 wsX8_splits 7 8 0 1 800 := ⟨RX8, TX8, 32, _, rfl, hi_X8_splits_8, by decide, (by decide +kernel : Cond.fieldLink RX8 7 (TX8 0).1 (TX8 0).2.1 (TX8 0).2.2.1 ∈ wsX8_splits), rfl, rfl, by decide⟩
theorem fd_X8_splits_23 : qFd RX8 wsX8_splits 23 8 6 1 806 := ⟨RX8, TX8, 32, _, rfl, hi_X8_splits_8, by decide, (by decide +kernel : Cond.fieldLink RX8 23 (TX8 6).1 (TX8 6).2.1 (TX8 6).2.2.1 ∈ wsX8_splits), rfl, rfl, by decide⟩
theorem fd_X8_splits_68 : qFd RX8 wsX8_splits 68 8 5 0 805 := ⟨RX8, TX8, 32, _, rfl, hi_X8_splits_8, by decide, (by decide +kernel : Cond.fieldLink RX8 68 (TX8 5).1 (TX8 5).2.1 (TX8 5).2.2.1 ∈ wsX8_splits), rfl, rfl, by decide⟩
theorem fp_X8_splits_68 : qFp RX8 wsX8_splits 68 8 5 0 805 .int := ⟨RX8, TX8, 32, _, tyX8, rfl, hi_X8_splits_8, by decide, (by decide +kernel : Cond.fieldLink RX8 68 (TX8 5).1 (TX8 5).2.1 (TX8 5).2.2.1 ∈ wsX8_splits), rfl, rfl, by decide, tyX8_ok, nmX8, rfl, by decide +kernel⟩
theorem fd_X8_splits_26 : qFd RX8 wsX8_splits 26 8 7 1 807 := ⟨RX8, TX8, 32, _, rfl, hi_X8_splits_8, by decide, (by decide +kernel : Cond.fieldLink RX8 26 (TX8 7).1 (TX8 7).2.1 (TX8 7).2.2.1 ∈ wsX8_splits), rfl, rfl, by decide⟩
theorem fp_X8_splits_45 : qFp RX8 wsX8_splits 45 8 4 0 804 .int := ⟨RX8, TX8, 32, _, tyX8, rfl, hi_X8_splits_8, by decide, (by decide +kernel : Cond.fieldLink RX8 45 (TX8 4).1 (TX8 4).2.1 (TX8 4).2.2.1 ∈ wsX8_splits), rfl, rfl, by decide, tyX8_ok, nmX8, rfl, by decide +kernel⟩
set_option maxHeartbeats 4000000 in
set_option maxRecDepth 20000 in
theorem w_X8_splits_293 {X : qB} {N : Nat} (hX : qOk X cX8_splits RX8 11 (some .int) wsX8_splits 4 91) {r : Int} {nu : qM} (hE : xr X = some (.int (iZ r)) ∧ (in32 r → xΦ X) ∧ xμ X = nu) {k293 : (Nat → Int → Int → Int → Int → Int → qM → Option (Int × qM))} (hk293 : ∀ (x0 : Nat) (x2 : Int) (x4 : Int) (x7 : Int) (x9 : Int) (x10 : Int) (m0 : qM), gK (xG X) x0 = 9 → in32 x2 → in32 x4 → in32 x7 → in32 x9 → in32 x10 → qR (xG X) m0 → k293 x0 x2 x4 x7 x9 x10 m0 = some (r, nu) → qN X 11 293 [(0, .ref x0), (2, .int (iZ x2)), (4, .int (iZ x4)), (7, .int (iZ x7)), (9, .int (iZ x9)), (10, .int (iZ x10))] [] m0)
    {x0 : Nat} {x2 : Int} {x4 : Int} {x7 : Int} {x9 : Int} {x10 : Int} (k_x0 : gK (xG X) x0 = 9) (r_x2 : in32 x2) (r_x4 : in32 x4) (r_x7 : in32 x7) (r_x9 : in32 x9) (r_x10 : in32 x10) {m0 : qM} (hR_m0 : qR (xG X) m0)
    (h : f_X8_splits_293 N (xG X) k293 x0 x2 x4 x7 x9 x10 m0 = some (r, nu)) : qN X 11 293 [(0, .ref x0), (2, .int (iZ x2)), (4, .int (iZ x4)), (7, .int (iZ x7)), (9, .int (iZ x9)), (10, .int (iZ x10))] [] m0 := by
  have hT := hX.T
  unfold f_X8_splits_293 at h
  refine qn_iload hX (pc := 293) dX8_splits_293 5 rfl ?_
  refine qn_iload_n hX (pc := 295) dX8_splits_295 1 rfl rfl ?_
  refine qn_icmp_ge hX (pc := 296) r_x10 r_x2 319 dX8_splits_296 (by decide) (fun c1 => ?_) (fun c1 => ?_)
  · have h := ite_f h c1
    refine qn_iload hX (pc := 319) dX8_splits_319 4 rfl ?_
    refine qn_iload hX (pc := 321) dX8_splits_321 3 rfl ?_
    obtain ⟨v2, e_v2, r_v2, h⟩ := ckI_e h
    refine qn_isub hX (pc := 323) dX8_splits_323 e_v2 ?_
    exact qn_iret hX (pc := 324) dX8_splits_324 hE hR_m0 r_v2 (Option.some.inj h)
  · have h := ite_t h c1
    refine qn_iload hX (pc := 299) dX8_splits_299 4 rfl ?_
    refine qn_aload_n hX (pc := 301) dX8_splits_301 0 rfl rfl ?_
    refine qn_iload hX (pc := 302) dX8_splits_302 2 rfl ?_
    refine qn_iload hX (pc := 304) dX8_splits_304 5 rfl ?_
    obtain ⟨v3, e_v3, r_v3, h⟩ := ckI_e h
    refine qn_iadd hX (pc := 306) dX8_splits_306 e_v3 ?_
    obtain ⟨v5, m4, e_m4, h⟩ := kb2_e h
    refine qn_callVi hX (pc := 307) [.int (iZ v3)] [.int (iZ v3)] 1 dX8_splits_307 gX8_splits_X8_has rfl dd_X8_has ⟨rfl, rfl⟩ rfl rfl (by decide) k_x0 rfl rfl hR_m0 (k_X8_has (xl X) hT k_x0 r_v3 e_m4) (fun r_v5 hR_m4 => ?_)
    obtain ⟨v6, e_v6, r_v6, h⟩ := ckI_e h
    refine qn_iadd hX (pc := 310) dX8_splits_310 e_v6 ?_
    refine qn_istore hX (pc := 311) (ls' := [(9, .int (iZ v6)), (0, .ref x0), (2, .int (iZ x2)), (4, .int (iZ x4)), (7, .int (iZ x7)), (10, .int (iZ x10))]) dX8_splits_311 rfl rfl ?_
    obtain ⟨v7, e_v7, r_v7, h⟩ := ckI_e h
    refine qn_iinc hX (pc := 313) (ls' := [(10, .int (iZ v7)), (9, .int (iZ v6)), (0, .ref x0), (2, .int (iZ x2)), (4, .int (iZ x4)), (7, .int (iZ x7))]) dX8_splits_313 5 rfl e_v7 rfl rfl ?_
    refine qn_goto hX (pc := 316) 293 dX8_splits_316 (by decide) ?_
    refine qn_sub (ls' := [(0, .ref x0), (2, .int (iZ x2)), (4, .int (iZ x4)), (7, .int (iZ x7)), (9, .int (iZ v6)), (10, .int (iZ v7))]) [2, 3, 4, 5, 1, 0] rfl ?_
    exact hk293 x0 x2 x4 x7 v6 v7 m4 k_x0 r_x2 r_x4 r_x7 r_v6 r_v7 hR_m4 h
set_option maxHeartbeats 4000000 in
set_option maxRecDepth 20000 in
theorem w_X8_splits_L293 {X : qB} {N : Nat} (hX : qOk X cX8_splits RX8 11 (some .int) wsX8_splits 4 91) {r : Int} {nu : qM} (hE : xr X = some (.int (iZ r)) ∧ (in32 r → xΦ X) ∧ xμ X = nu) 
    {x0 : Nat} {x2 : Int} {x4 : Int} {x7 : Int} {x9 : Int} {x10 : Int} (k_x0 : gK (xG X) x0 = 9) (r_x2 : in32 x2) (r_x4 : in32 x4) (r_x7 : in32 x7) (r_x9 : in32 x9) (r_x10 : in32 x10) {m0 : qM} (hR_m0 : qR (xG X) m0)
    (h : f_X8_splits_L293 N (xG X)  x0 x2 x4 x7 x9 x10 m0 = some (r, nu)) : qN X 11 293 [(0, .ref x0), (2, .int (iZ x2)), (4, .int (iZ x4)), (7, .int (iZ x7)), (9, .int (iZ x9)), (10, .int (iZ x10))] [] m0 := by
  unfold f_X8_splits_L293 at h
  exact qLoop_w (σ := Nat × Int × Int × Int × Int × Int × qM) (P := fun p => gK (xG X) p.1 = 9 ∧ in32 p.2.1 ∧ in32 p.2.2.1 ∧ in32 p.2.2.2.1 ∧ in32 p.2.2.2.2.1 ∧ in32 p.2.2.2.2.2.1 ∧ qR (xG X) p.2.2.2.2.2.2) (Q := fun p => qN X 11 293 [(0, .ref p.1), (2, .int (iZ p.2.1)), (4, .int (iZ p.2.2.1)), (7, .int (iZ p.2.2.2.1)), (9, .int (iZ p.2.2.2.2.1)), (10, .int (iZ p.2.2.2.2.2.1))] [] p.2.2.2.2.2.2) (fun k hrec p hp hh => w_X8_splits_293 hX hE (fun x0 x2 x4 x7 x9 x10 m0 q0 q1 q2 q3 q4 q5 hRm hh => hrec (x0, x2, x4, x7, x9, x10, m0) ⟨q0, q1, q2, q3, q4, q5, hRm⟩ hh) hp.1 hp.2.1 hp.2.2.1 hp.2.2.2.1 hp.2.2.2.2.1 hp.2.2.2.2.2.1 hp.2.2.2.2.2.2 hh) N (x0, x2, x4, x7, x9, x10, m0) ⟨k_x0, r_x2, r_x4, r_x7, r_x9, r_x10, hR_m0⟩ h
set_option maxHeartbeats 4000000 in
set_option maxRecDepth 20000 in
theorem w_X8_splits_274 {X : qB} {N : Nat} (hX : qOk X cX8_splits RX8 11 (some .int) wsX8_splits 4 91) {r : Int} {nu : qM} (hE : xr X = some (.int (iZ r)) ∧ (in32 r → xΦ X) ∧ xμ X = nu) 
    {x0 : Nat} {x2 : Int} {x4 : Int} {x5 : Int} {x7 : Int} {s0 : Nat} {s1 : Int} {s2 : Int} (k_x0 : gK (xG X) x0 = 9) (r_x2 : in32 x2) (r_x4 : in32 x4) (r_x5 : in32 x5) (r_x7 : in32 x7) (k_s0 : gK (xG X) s0 = 9) (r_s1 : in32 s1) (r_s2 : in32 s2) {m0 : qM} (hR_m0 : qR (xG X) m0)
    (h : f_X8_splits_274 N (xG X)  x0 x2 x4 x5 x7 s0 s1 s2 m0 = some (r, nu)) : qN X 11 274 [(0, .ref x0), (2, .int (iZ x2)), (4, .int (iZ x4)), (5, .int (iZ x5)), (7, .int (iZ x7))] [.int (iZ s2), .int (iZ s1), .ref s0] m0 := by
  have hT := hX.T
  unfold f_X8_splits_274 at h
  refine qn_aload_n hX (pc := 274) dX8_splits_274 0 rfl rfl ?_
  refine qn_getR hX (pc := 275) fd_X8_splits_7 dX8_splits_275 k_x0 ?_
  refine qn_bipush hX (pc := 278) dX8_splits_278 (by decide) ?_
  refine qn_iload hX (pc := 280) dX8_splits_280 3 rfl ?_
  obtain ⟨v1, e_v1, r_v1, h⟩ := ckI_e h
  refine qn_iadd hX (pc := 282) dX8_splits_282 e_v1 ?_
  obtain ⟨v2, e_v2, b_v2, h⟩ := rdA_e h
  have r_v2 : in32 v2 := by rw [e_v2]; exact hR_m0.a (n := 684) _ (qr_800 hT k_x0) (by decide)
  refine qn_iald hX (pc := 283) 684 dX8_splits_283 (qr_800 hT k_x0) (by decide) b_v2 e_v2 ?_
  obtain ⟨m3, e_m3, h⟩ := kb_e h
  refine qn_callVv hX (pc := 284) [.int (iZ s1), .int (iZ s2), .int (iZ v2)] [.int (iZ v2), .int (iZ s2), .int (iZ s1)] 3 dX8_splits_284 gX8_splits_X8_shares rfl dd_X8_shares ⟨rfl, rfl⟩ rfl rfl (by decide) k_s0 rfl rfl hR_m0 (k_X8_shares (xl X) hT k_s0 r_s1 r_s2 r_v2 e_m3) (fun r_v4 hR_m3 => ?_)
  refine qn_iconst hX (pc := 287) dX8_splits_287 ?_
  refine qn_istore hX (pc := 288) (ls' := [(9, .int (iZ 0)), (0, .ref x0), (2, .int (iZ x2)), (4, .int (iZ x4)), (5, .int (iZ x5)), (7, .int (iZ x7))]) dX8_splits_288 rfl rfl ?_
  refine qn_iconst hX (pc := 290) dX8_splits_290 ?_
  refine qn_istore hX (pc := 291) (ls' := [(10, .int (iZ 0)), (9, .int (iZ 0)), (0, .ref x0), (2, .int (iZ x2)), (4, .int (iZ x4)), (5, .int (iZ x5)), (7, .int (iZ x7))]) dX8_splits_291 rfl rfl ?_
  refine qn_sub (ls' := [(0, .ref x0), (2, .int (iZ x2)), (4, .int (iZ x4)), (7, .int (iZ x7)), (9, .int (iZ 0)), (10, .int (iZ 0))]) [2, 3, 4, 6, 1, 0] rfl ?_
  exact w_X8_splits_L293 hX hE  k_x0 r_x2 r_x4 r_x7 (by decide) (by decide) hR_m3 h
set_option maxHeartbeats 4000000 in
set_option maxRecDepth 20000 in
theorem w_X8_splits_212 {X : qB} {N : Nat} (hX : qOk X cX8_splits RX8 11 (some .int) wsX8_splits 4 91) {r : Int} {nu : qM} (hE : xr X = some (.int (iZ r)) ∧ (in32 r → xΦ X) ∧ xμ X = nu) {k179 : (Nat → Int → Int → Int → Int → Int → Int → Int → Int → qM → Option (Int × qM))} (hk179 : ∀ (x0 : Nat) (x2 : Int) (x3 : Int) (x4 : Int) (x5 : Int) (x6 : Int) (x7 : Int) (x8 : Int) (x9 : Int) (m0 : qM), gK (xG X) x0 = 9 → in32 x2 → in32 x3 → in32 x4 → in32 x5 → in32 x6 → in32 x7 → in32 x8 → in32 x9 → qR (xG X) m0 → k179 x0 x2 x3 x4 x5 x6 x7 x8 x9 m0 = some (r, nu) → qN X 11 179 [(0, .ref x0), (2, .int (iZ x2)), (3, .int (iZ x3)), (4, .int (iZ x4)), (5, .int (iZ x5)), (6, .int (iZ x6)), (7, .int (iZ x7)), (8, .int (iZ x8)), (9, .int (iZ x9))] [] m0)
    {x0 : Nat} {x2 : Int} {x3 : Int} {x4 : Int} {x5 : Int} {x6 : Int} {x7 : Int} {x8 : Int} {x9 : Int} {s0 : Nat} {s1 : Int} {s2 : Int} {s3 : Int} (k_x0 : gK (xG X) x0 = 9) (r_x2 : in32 x2) (r_x3 : in32 x3) (r_x4 : in32 x4) (r_x5 : in32 x5) (r_x6 : in32 x6) (r_x7 : in32 x7) (r_x8 : in32 x8) (r_x9 : in32 x9) (k_s0 : gK (xG X) s0 = 1070) (r_s1 : in32 s1) (r_s2 : in32 s2) (b_s3 : in01 s3) {m0 : qM} (hR_m0 : qR (xG X) m0)
    (h : f_X8_splits_212 N (xG X) k179 x0 x2 x3 x4 x5 x6 x7 x8 x9 s0 s1 s2 s3 m0 = some (r, nu)) : qN X 11 212 [(0, .ref x0), (2, .int (iZ x2)), (3, .int (iZ x3)), (4, .int (iZ x4)), (5, .int (iZ x5)), (6, .int (iZ x6)), (7, .int (iZ x7)), (8, .int (iZ x8)), (9, .int (iZ x9))] [.int (iZ s3), .int (iZ s2), .int (iZ s1), .ref s0] m0 := by
  have hT := hX.T
  unfold f_X8_splits_212 at h
  obtain ⟨v1, e_v1, r_v1, h⟩ := ckI_e h
  refine qn_iadd hX (pc := 212) dX8_splits_212 e_v1 ?_
  obtain ⟨m2, e_m2, b_m2, h⟩ := wrA_e h
  refine qn_iast hX (pc := 213) 70 dX8_splits_213 k_s0 (by decide) b_m2 hR_m0 r_v1 e_m2 (fun hR_m2 => ?_) 
  refine qn_aload_n hX (pc := 214) dX8_splits_214 0 rfl rfl ?_
  refine qn_getR hX (pc := 215) fd_X8_splits_23 dX8_splits_215 k_x0 ?_
  refine qn_iload hX (pc := 218) dX8_splits_218 3 rfl ?_
  refine qn_iload hX (pc := 220) dX8_splits_220 8 rfl ?_
  obtain ⟨v3, e_v3, r_v3, h⟩ := ckI_e h
  refine qn_iadd hX (pc := 222) dX8_splits_222 e_v3 ?_
  refine qn_iconst hX (pc := 223) dX8_splits_223 ?_
  obtain ⟨m4, e_m4, b_m4, h⟩ := wrA_e h
  refine qn_iast hX (pc := 224) 70 dX8_splits_224 (qr_806 hT k_x0) (by decide) b_m4 hR_m2 (by decide) e_m4 (fun hR_m4 => ?_) 
  obtain ⟨v5, e_v5, r_v5, h⟩ := ckI_e h
  refine qn_iinc hX (pc := 225) (ls' := [(9, .int (iZ v5)), (0, .ref x0), (2, .int (iZ x2)), (3, .int (iZ x3)), (4, .int (iZ x4)), (5, .int (iZ x5)), (6, .int (iZ x6)), (7, .int (iZ x7)), (8, .int (iZ x8))]) dX8_splits_225 8 rfl e_v5 rfl rfl ?_
  refine qn_goto hX (pc := 228) 179 dX8_splits_228 (by decide) ?_
  refine qn_sub (ls' := [(0, .ref x0), (2, .int (iZ x2)), (3, .int (iZ x3)), (4, .int (iZ x4)), (5, .int (iZ x5)), (6, .int (iZ x6)), (7, .int (iZ x7)), (8, .int (iZ x8)), (9, .int (iZ v5))]) [1, 2, 3, 4, 5, 6, 7, 8, 0] rfl ?_
  exact hk179 x0 x2 x3 x4 x5 x6 x7 x8 v5 m4 k_x0 r_x2 r_x3 r_x4 r_x5 r_x6 r_x7 r_x8 r_v5 hR_m4 h
set_option maxHeartbeats 4000000 in
set_option maxRecDepth 20000 in
theorem w_X8_splits_179 {X : qB} {N : Nat} (hX : qOk X cX8_splits RX8 11 (some .int) wsX8_splits 4 91) {r : Int} {nu : qM} (hE : xr X = some (.int (iZ r)) ∧ (in32 r → xΦ X) ∧ xμ X = nu) {k179 : (Nat → Int → Int → Int → Int → Int → Int → Int → Int → qM → Option (Int × qM))} (hk179 : ∀ (x0 : Nat) (x2 : Int) (x3 : Int) (x4 : Int) (x5 : Int) (x6 : Int) (x7 : Int) (x8 : Int) (x9 : Int) (m0 : qM), gK (xG X) x0 = 9 → in32 x2 → in32 x3 → in32 x4 → in32 x5 → in32 x6 → in32 x7 → in32 x8 → in32 x9 → qR (xG X) m0 → k179 x0 x2 x3 x4 x5 x6 x7 x8 x9 m0 = some (r, nu) → qN X 11 179 [(0, .ref x0), (2, .int (iZ x2)), (3, .int (iZ x3)), (4, .int (iZ x4)), (5, .int (iZ x5)), (6, .int (iZ x6)), (7, .int (iZ x7)), (8, .int (iZ x8)), (9, .int (iZ x9))] [] m0)
    {x0 : Nat} {x2 : Int} {x3 : Int} {x4 : Int} {x5 : Int} {x6 : Int} {x7 : Int} {x8 : Int} {x9 : Int} (k_x0 : gK (xG X) x0 = 9) (r_x2 : in32 x2) (r_x3 : in32 x3) (r_x4 : in32 x4) (r_x5 : in32 x5) (r_x6 : in32 x6) (r_x7 : in32 x7) (r_x8 : in32 x8) (r_x9 : in32 x9) {m0 : qM} (hR_m0 : qR (xG X) m0)
    (h : f_X8_splits_179 N (xG X) k179 x0 x2 x3 x4 x5 x6 x7 x8 x9 m0 = some (r, nu)) : qN X 11 179 [(0, .ref x0), (2, .int (iZ x2)), (3, .int (iZ x3)), (4, .int (iZ x4)), (5, .int (iZ x5)), (6, .int (iZ x6)), (7, .int (iZ x7)), (8, .int (iZ x8)), (9, .int (iZ x9))] [] m0 := by
  have hT := hX.T
  unfold f_X8_splits_179 at h
  refine qn_iload hX (pc := 179) dX8_splits_179 8 rfl ?_
  refine qn_iload_n hX (pc := 181) dX8_splits_181 1 rfl rfl ?_
  refine qn_icmp_ge hX (pc := 182) r_x9 r_x2 231 dX8_splits_182 (by decide) (fun c1 => ?_) (fun c1 => ?_)
  · have h := ite_f h c1
    refine qn_aload_n hX (pc := 231) dX8_splits_231 0 rfl rfl ?_
    refine qn_dup hX (pc := 232) dX8_splits_232 rfl ?_
    refine qn_getI hX (pc := 233) fd_X8_splits_68 dX8_splits_233 k_x0 ?_
    refine qn_iload_n hX (pc := 236) dX8_splits_236 1 rfl rfl ?_
    refine qn_iconst hX (pc := 237) dX8_splits_237 ?_
    obtain ⟨v2, e_v2, r_v2, h⟩ := ckI_e h
    refine qn_isub hX (pc := 238) dX8_splits_238 e_v2 ?_
    obtain ⟨v3, e_v3, r_v3, h⟩ := ckI_e h
    refine qn_iadd hX (pc := 239) dX8_splits_239 e_v3 ?_
    obtain ⟨m4, e_m4, h⟩ := kp_e h
    refine qn_putI hX (pc := 240) fp_X8_splits_68 dX8_splits_240 k_x0 hR_m0 r_v3 e_m4 (fun hR_m4 => ?_) 
    refine qn_aload_n hX (pc := 243) dX8_splits_243 0 rfl rfl ?_
    refine qn_iload_n hX (pc := 244) dX8_splits_244 2 rfl rfl ?_
    refine qn_iload hX (pc := 245) dX8_splits_245 5 rfl ?_
    refine qn_iload hX (pc := 247) dX8_splits_247 3 rfl ?_
    refine qn_icmp_ne hX (pc := 249) r_x6 r_x4 256 dX8_splits_249 (by decide) (fun c5 => ?_) (fun c5 => ?_)
    · have h := ite_f h c5
      refine qn_iload hX (pc := 256) dX8_splits_256 5 rfl ?_
      refine qn_iload hX (pc := 258) dX8_splits_258 3 rfl ?_
      refine qn_icmp_le hX (pc := 260) r_x6 r_x4 272 dX8_splits_260 (by decide) (fun c6 => ?_) (fun c6 => ?_)
      · have h := ite_f h c6
        refine qn_iload hX (pc := 272) dX8_splits_272 5 rfl ?_
        refine qn_sub (ls' := [(0, .ref x0), (2, .int (iZ x2)), (4, .int (iZ x4)), (5, .int (iZ x5)), (7, .int (iZ x7))]) [0, 1, 3, 4, 6] rfl ?_
        exact w_X8_splits_274 hX hE  k_x0 r_x2 r_x4 r_x5 r_x7 k_x0 r_x3 r_x6 hR_m4 h
      · have h := ite_t h c6
        refine qn_iload hX (pc := 263) dX8_splits_263 5 rfl ?_
        refine qn_iload_n hX (pc := 265) dX8_splits_265 1 rfl rfl ?_
        obtain ⟨v7, e_v7, r_v7, h⟩ := ckI_e h
        refine qn_iadd hX (pc := 266) dX8_splits_266 e_v7 ?_
        refine qn_iconst hX (pc := 267) dX8_splits_267 ?_
        obtain ⟨v8, e_v8, r_v8, h⟩ := ckI_e h
        refine qn_isub hX (pc := 268) dX8_splits_268 e_v8 ?_
        refine qn_goto hX (pc := 269) 274 dX8_splits_269 (by decide) ?_
        refine qn_sub (ls' := [(0, .ref x0), (2, .int (iZ x2)), (4, .int (iZ x4)), (5, .int (iZ x5)), (7, .int (iZ x7))]) [0, 1, 3, 4, 6] rfl ?_
        exact w_X8_splits_274 hX hE  k_x0 r_x2 r_x4 r_x5 r_x7 k_x0 r_x3 r_v8 hR_m4 h
    · have h := ite_t h c5
      refine qn_iconst hX (pc := 252) dX8_splits_252 ?_
      refine qn_goto hX (pc := 253) 274 dX8_splits_253 (by decide) ?_
      refine qn_sub (ls' := [(0, .ref x0), (2, .int (iZ x2)), (4, .int (iZ x4)), (5, .int (iZ x5)), (7, .int (iZ x7))]) [0, 1, 3, 4, 6] rfl ?_
      exact w_X8_splits_274 hX hE  k_x0 r_x2 r_x4 r_x5 r_x7 k_x0 r_x3 (by decide) hR_m4 h
  · have h := ite_t h c1
    refine qn_aload_n hX (pc := 185) dX8_splits_185 0 rfl rfl ?_
    refine qn_getR hX (pc := 186) fd_X8_splits_26 dX8_splits_186 k_x0 ?_
    refine qn_iload hX (pc := 189) dX8_splits_189 3 rfl ?_
    refine qn_iload hX (pc := 191) dX8_splits_191 8 rfl ?_
    obtain ⟨v9, e_v9, r_v9, h⟩ := ckI_e h
    refine qn_iadd hX (pc := 193) dX8_splits_193 e_v9 ?_
    refine qn_iload hX (pc := 194) dX8_splits_194 7 rfl ?_
    refine qn_iload_n hX (pc := 196) dX8_splits_196 1 rfl rfl ?_
    obtain ⟨n_v10, h⟩ := ckD_e h
    obtain ⟨v10, e_v10, r_v10, h⟩ := ckI_e h
    refine qn_idiv hX (pc := 197) r_x8 r_x2 n_v10 dX8_splits_197 e_v10 ?_
    refine qn_iload hX (pc := 198) dX8_splits_198 8 rfl ?_
    refine qn_iload hX (pc := 200) dX8_splits_200 7 rfl ?_
    refine qn_iload_n hX (pc := 202) dX8_splits_202 1 rfl rfl ?_
    obtain ⟨n_v11, h⟩ := ckD_e h
    obtain ⟨v11, e_v11, r_v11, h⟩ := ckI_e h
    refine qn_irem hX (pc := 203) r_x8 r_x2 n_v11 dX8_splits_203 e_v11 ?_
    refine qn_icmp_ge hX (pc := 204) r_x9 r_v11 211 dX8_splits_204 (by decide) (fun c12 => ?_) (fun c12 => ?_)
    · have h := ite_f h c12
      refine qn_iconst hX (pc := 211) dX8_splits_211 ?_
      refine qn_sub (ls' := [(0, .ref x0), (2, .int (iZ x2)), (3, .int (iZ x3)), (4, .int (iZ x4)), (5, .int (iZ x5)), (6, .int (iZ x6)), (7, .int (iZ x7)), (8, .int (iZ x8)), (9, .int (iZ x9))]) [0, 1, 2, 3, 4, 5, 6, 7, 8] rfl ?_
      exact w_X8_splits_212 hX hE hk179 k_x0 r_x2 r_x3 r_x4 r_x5 r_x6 r_x7 r_x8 r_x9 (qr_807 hT k_x0) r_v9 r_v10 (by decide) hR_m0 h
    · have h := ite_t h c12
      refine qn_iconst hX (pc := 207) dX8_splits_207 ?_
      refine qn_goto hX (pc := 208) 212 dX8_splits_208 (by decide) ?_
      refine qn_sub (ls' := [(0, .ref x0), (2, .int (iZ x2)), (3, .int (iZ x3)), (4, .int (iZ x4)), (5, .int (iZ x5)), (6, .int (iZ x6)), (7, .int (iZ x7)), (8, .int (iZ x8)), (9, .int (iZ x9))]) [0, 1, 2, 3, 4, 5, 6, 7, 8] rfl ?_
      exact w_X8_splits_212 hX hE hk179 k_x0 r_x2 r_x3 r_x4 r_x5 r_x6 r_x7 r_x8 r_x9 (qr_807 hT k_x0) r_v9 r_v10 (by decide) hR_m0 h
set_option maxHeartbeats 4000000 in
set_option maxRecDepth 20000 in
theorem w_X8_splits_L179 {X : qB} {N : Nat} (hX : qOk X cX8_splits RX8 11 (some .int) wsX8_splits 4 91) {r : Int} {nu : qM} (hE : xr X = some (.int (iZ r)) ∧ (in32 r → xΦ X) ∧ xμ X = nu) 
    {x0 : Nat} {x2 : Int} {x3 : Int} {x4 : Int} {x5 : Int} {x6 : Int} {x7 : Int} {x8 : Int} {x9 : Int} (k_x0 : gK (xG X) x0 = 9) (r_x2 : in32 x2) (r_x3 : in32 x3) (r_x4 : in32 x4) (r_x5 : in32 x5) (r_x6 : in32 x6) (r_x7 : in32 x7) (r_x8 : in32 x8) (r_x9 : in32 x9) {m0 : qM} (hR_m0 : qR (xG X) m0)
    (h : f_X8_splits_L179 N (xG X)  x0 x2 x3 x4 x5 x6 x7 x8 x9 m0 = some (r, nu)) : qN X 11 179 [(0, .ref x0), (2, .int (iZ x2)), (3, .int (iZ x3)), (4, .int (iZ x4)), (5, .int (iZ x5)), (6, .int (iZ x6)), (7, .int (iZ x7)), (8, .int (iZ x8)), (9, .int (iZ x9))] [] m0 := by
  unfold f_X8_splits_L179 at h
  exact qLoop_w (σ := Nat × Int × Int × Int × Int × Int × Int × Int × Int × qM) (P := fun p => gK (xG X) p.1 = 9 ∧ in32 p.2.1 ∧ in32 p.2.2.1 ∧ in32 p.2.2.2.1 ∧ in32 p.2.2.2.2.1 ∧ in32 p.2.2.2.2.2.1 ∧ in32 p.2.2.2.2.2.2.1 ∧ in32 p.2.2.2.2.2.2.2.1 ∧ in32 p.2.2.2.2.2.2.2.2.1 ∧ qR (xG X) p.2.2.2.2.2.2.2.2.2) (Q := fun p => qN X 11 179 [(0, .ref p.1), (2, .int (iZ p.2.1)), (3, .int (iZ p.2.2.1)), (4, .int (iZ p.2.2.2.1)), (5, .int (iZ p.2.2.2.2.1)), (6, .int (iZ p.2.2.2.2.2.1)), (7, .int (iZ p.2.2.2.2.2.2.1)), (8, .int (iZ p.2.2.2.2.2.2.2.1)), (9, .int (iZ p.2.2.2.2.2.2.2.2.1))] [] p.2.2.2.2.2.2.2.2.2) (fun k hrec p hp hh => w_X8_splits_179 hX hE (fun x0 x2 x3 x4 x5 x6 x7 x8 x9 m0 q0 q1 q2 q3 q4 q5 q6 q7 q8 hRm hh => hrec (x0, x2, x3, x4, x5, x6, x7, x8, x9, m0) ⟨q0, q1, q2, q3, q4, q5, q6, q7, q8, hRm⟩ hh) hp.1 hp.2.1 hp.2.2.1 hp.2.2.2.1 hp.2.2.2.2.1 hp.2.2.2.2.2.1 hp.2.2.2.2.2.2.1 hp.2.2.2.2.2.2.2.1 hp.2.2.2.2.2.2.2.2.1 hp.2.2.2.2.2.2.2.2.2 hh) N (x0, x2, x3, x4, x5, x6, x7, x8, x9, m0) ⟨k_x0, r_x2, r_x3, r_x4, r_x5, r_x6, r_x7, r_x8, r_x9, hR_m0⟩ h
set_option maxHeartbeats 4000000 in
set_option maxRecDepth 20000 in
theorem w_X8_splits_127 {X : qB} {N : Nat} (hX : qOk X cX8_splits RX8 11 (some .int) wsX8_splits 4 91) {r : Int} {nu : qM} (hE : xr X = some (.int (iZ r)) ∧ (in32 r → xΦ X) ∧ xμ X = nu) {k127 : (Nat → Int → Int → Int → Int → Int → Int → Int → Int → qM → Option (Int × qM))} (hk127 : ∀ (x0 : Nat) (x2 : Int) (x3 : Int) (x4 : Int) (x5 : Int) (x6 : Int) (x7 : Int) (x8 : Int) (x9 : Int) (m0 : qM), gK (xG X) x0 = 9 → in32 x2 → in32 x3 → in32 x4 → in32 x5 → in32 x6 → in32 x7 → in32 x8 → in32 x9 → qR (xG X) m0 → k127 x0 x2 x3 x4 x5 x6 x7 x8 x9 m0 = some (r, nu) → qN X 11 127 [(0, .ref x0), (2, .int (iZ x2)), (3, .int (iZ x3)), (4, .int (iZ x4)), (5, .int (iZ x5)), (6, .int (iZ x6)), (7, .int (iZ x7)), (8, .int (iZ x8)), (9, .int (iZ x9))] [] m0)
    {x0 : Nat} {x2 : Int} {x3 : Int} {x4 : Int} {x5 : Int} {x6 : Int} {x7 : Int} {x8 : Int} {x9 : Int} (k_x0 : gK (xG X) x0 = 9) (r_x2 : in32 x2) (r_x3 : in32 x3) (r_x4 : in32 x4) (r_x5 : in32 x5) (r_x6 : in32 x6) (r_x7 : in32 x7) (r_x8 : in32 x8) (r_x9 : in32 x9) {m0 : qM} (hR_m0 : qR (xG X) m0)
    (h : f_X8_splits_127 N (xG X) k127 x0 x2 x3 x4 x5 x6 x7 x8 x9 m0 = some (r, nu)) : qN X 11 127 [(0, .ref x0), (2, .int (iZ x2)), (3, .int (iZ x3)), (4, .int (iZ x4)), (5, .int (iZ x5)), (6, .int (iZ x6)), (7, .int (iZ x7)), (8, .int (iZ x8)), (9, .int (iZ x9))] [] m0 := by
  have hT := hX.T
  unfold f_X8_splits_127 at h
  refine qn_iload hX (pc := 127) dX8_splits_127 8 rfl ?_
  refine qn_iload hX (pc := 129) dX8_splits_129 3 rfl ?_
  refine qn_icmp_le hX (pc := 131) r_x9 r_x4 176 dX8_splits_131 (by decide) (fun c1 => ?_) (fun c1 => ?_)
  · have h := ite_f h c1
    refine qn_iconst hX (pc := 176) dX8_splits_176 ?_
    refine qn_istore hX (pc := 177) (ls' := [(9, .int (iZ 0)), (0, .ref x0), (2, .int (iZ x2)), (3, .int (iZ x3)), (4, .int (iZ x4)), (5, .int (iZ x5)), (6, .int (iZ x6)), (7, .int (iZ x7)), (8, .int (iZ x8))]) dX8_splits_177 rfl rfl ?_
    refine qn_sub (ls' := [(0, .ref x0), (2, .int (iZ x2)), (3, .int (iZ x3)), (4, .int (iZ x4)), (5, .int (iZ x5)), (6, .int (iZ x6)), (7, .int (iZ x7)), (8, .int (iZ x8)), (9, .int (iZ 0))]) [1, 2, 3, 4, 5, 6, 7, 8, 0] rfl ?_
    exact w_X8_splits_L179 hX hE  k_x0 r_x2 r_x3 r_x4 r_x5 r_x6 r_x7 r_x8 (by decide) hR_m0 h
  · have h := ite_t h c1
    refine qn_aload_n hX (pc := 134) dX8_splits_134 0 rfl rfl ?_
    refine qn_getR hX (pc := 135) fd_X8_splits_26 dX8_splits_135 k_x0 ?_
    refine qn_iload hX (pc := 138) dX8_splits_138 8 rfl ?_
    refine qn_iload_n hX (pc := 140) dX8_splits_140 1 rfl rfl ?_
    obtain ⟨v2, e_v2, r_v2, h⟩ := ckI_e h
    refine qn_iadd hX (pc := 141) dX8_splits_141 e_v2 ?_
    refine qn_iconst hX (pc := 142) dX8_splits_142 ?_
    obtain ⟨v3, e_v3, r_v3, h⟩ := ckI_e h
    refine qn_isub hX (pc := 143) dX8_splits_143 e_v3 ?_
    refine qn_aload_n hX (pc := 144) dX8_splits_144 0 rfl rfl ?_
    refine qn_getR hX (pc := 145) fd_X8_splits_26 dX8_splits_145 k_x0 ?_
    refine qn_iload hX (pc := 148) dX8_splits_148 8 rfl ?_
    obtain ⟨v4, e_v4, b_v4, h⟩ := rdA_e h
    have r_v4 : in32 v4 := by rw [e_v4]; exact hR_m0.a (n := 70) _ (qr_807 hT k_x0) (by decide)
    refine qn_iald hX (pc := 150) 70 dX8_splits_150 (qr_807 hT k_x0) (by decide) b_v4 e_v4 ?_
    obtain ⟨m5, e_m5, b_m5, h⟩ := wrA_e h
    refine qn_iast hX (pc := 151) 70 dX8_splits_151 (qr_807 hT k_x0) (by decide) b_m5 hR_m0 r_v4 e_m5 (fun hR_m5 => ?_) 
    refine qn_aload_n hX (pc := 152) dX8_splits_152 0 rfl rfl ?_
    refine qn_getR hX (pc := 153) fd_X8_splits_23 dX8_splits_153 k_x0 ?_
    refine qn_iload hX (pc := 156) dX8_splits_156 8 rfl ?_
    refine qn_iload_n hX (pc := 158) dX8_splits_158 1 rfl rfl ?_
    obtain ⟨v6, e_v6, r_v6, h⟩ := ckI_e h
    refine qn_iadd hX (pc := 159) dX8_splits_159 e_v6 ?_
    refine qn_iconst hX (pc := 160) dX8_splits_160 ?_
    obtain ⟨v7, e_v7, r_v7, h⟩ := ckI_e h
    refine qn_isub hX (pc := 161) dX8_splits_161 e_v7 ?_
    refine qn_aload_n hX (pc := 162) dX8_splits_162 0 rfl rfl ?_
    refine qn_getR hX (pc := 163) fd_X8_splits_23 dX8_splits_163 k_x0 ?_
    refine qn_iload hX (pc := 166) dX8_splits_166 8 rfl ?_
    obtain ⟨v8, e_v8, b_v8, h⟩ := rdA_e h
    have r_v8 : in32 v8 := by rw [e_v8]; exact hR_m5.a (n := 70) _ (qr_806 hT k_x0) (by decide)
    refine qn_iald hX (pc := 168) 70 dX8_splits_168 (qr_806 hT k_x0) (by decide) b_v8 e_v8 ?_
    obtain ⟨m9, e_m9, b_m9, h⟩ := wrA_e h
    refine qn_iast hX (pc := 169) 70 dX8_splits_169 (qr_806 hT k_x0) (by decide) b_m9 hR_m5 r_v8 e_m9 (fun hR_m9 => ?_) 
    obtain ⟨v10, e_v10, r_v10, h⟩ := ckI_e h
    refine qn_iinc hX (pc := 170) (ls' := [(9, .int (iZ v10)), (0, .ref x0), (2, .int (iZ x2)), (3, .int (iZ x3)), (4, .int (iZ x4)), (5, .int (iZ x5)), (6, .int (iZ x6)), (7, .int (iZ x7)), (8, .int (iZ x8))]) dX8_splits_170 8 rfl e_v10 rfl rfl ?_
    refine qn_goto hX (pc := 173) 127 dX8_splits_173 (by decide) ?_
    refine qn_sub (ls' := [(0, .ref x0), (2, .int (iZ x2)), (3, .int (iZ x3)), (4, .int (iZ x4)), (5, .int (iZ x5)), (6, .int (iZ x6)), (7, .int (iZ x7)), (8, .int (iZ x8)), (9, .int (iZ v10))]) [1, 2, 3, 4, 5, 6, 7, 8, 0] rfl ?_
    exact hk127 x0 x2 x3 x4 x5 x6 x7 x8 v10 m9 k_x0 r_x2 r_x3 r_x4 r_x5 r_x6 r_x7 r_x8 r_v10 hR_m9 h
set_option maxHeartbeats 4000000 in
set_option maxRecDepth 20000 in
theorem w_X8_splits_L127 {X : qB} {N : Nat} (hX : qOk X cX8_splits RX8 11 (some .int) wsX8_splits 4 91) {r : Int} {nu : qM} (hE : xr X = some (.int (iZ r)) ∧ (in32 r → xΦ X) ∧ xμ X = nu) 
    {x0 : Nat} {x2 : Int} {x3 : Int} {x4 : Int} {x5 : Int} {x6 : Int} {x7 : Int} {x8 : Int} {x9 : Int} (k_x0 : gK (xG X) x0 = 9) (r_x2 : in32 x2) (r_x3 : in32 x3) (r_x4 : in32 x4) (r_x5 : in32 x5) (r_x6 : in32 x6) (r_x7 : in32 x7) (r_x8 : in32 x8) (r_x9 : in32 x9) {m0 : qM} (hR_m0 : qR (xG X) m0)
    (h : f_X8_splits_L127 N (xG X)  x0 x2 x3 x4 x5 x6 x7 x8 x9 m0 = some (r, nu)) : qN X 11 127 [(0, .ref x0), (2, .int (iZ x2)), (3, .int (iZ x3)), (4, .int (iZ x4)), (5, .int (iZ x5)), (6, .int (iZ x6)), (7, .int (iZ x7)), (8, .int (iZ x8)), (9, .int (iZ x9))] [] m0 := by
  unfold f_X8_splits_L127 at h
  exact qLoop_w (σ := Nat × Int × Int × Int × Int × Int × Int × Int × Int × qM) (P := fun p => gK (xG X) p.1 = 9 ∧ in32 p.2.1 ∧ in32 p.2.2.1 ∧ in32 p.2.2.2.1 ∧ in32 p.2.2.2.2.1 ∧ in32 p.2.2.2.2.2.1 ∧ in32 p.2.2.2.2.2.2.1 ∧ in32 p.2.2.2.2.2.2.2.1 ∧ in32 p.2.2.2.2.2.2.2.2.1 ∧ qR (xG X) p.2.2.2.2.2.2.2.2.2) (Q := fun p => qN X 11 127 [(0, .ref p.1), (2, .int (iZ p.2.1)), (3, .int (iZ p.2.2.1)), (4, .int (iZ p.2.2.2.1)), (5, .int (iZ p.2.2.2.2.1)), (6, .int (iZ p.2.2.2.2.2.1)), (7, .int (iZ p.2.2.2.2.2.2.1)), (8, .int (iZ p.2.2.2.2.2.2.2.1)), (9, .int (iZ p.2.2.2.2.2.2.2.2.1))] [] p.2.2.2.2.2.2.2.2.2) (fun k hrec p hp hh => w_X8_splits_127 hX hE (fun x0 x2 x3 x4 x5 x6 x7 x8 x9 m0 q0 q1 q2 q3 q4 q5 q6 q7 q8 hRm hh => hrec (x0, x2, x3, x4, x5, x6, x7, x8, x9, m0) ⟨q0, q1, q2, q3, q4, q5, q6, q7, q8, hRm⟩ hh) hp.1 hp.2.1 hp.2.2.1 hp.2.2.2.1 hp.2.2.2.2.1 hp.2.2.2.2.2.1 hp.2.2.2.2.2.2.1 hp.2.2.2.2.2.2.2.1 hp.2.2.2.2.2.2.2.2.1 hp.2.2.2.2.2.2.2.2.2 hh) N (x0, x2, x3, x4, x5, x6, x7, x8, x9, m0) ⟨k_x0, r_x2, r_x3, r_x4, r_x5, r_x6, r_x7, r_x8, r_x9, hR_m0⟩ h
set_option maxHeartbeats 4000000 in
set_option maxRecDepth 20000 in
theorem w_X8_splits_89 {X : qB} {N : Nat} (hX : qOk X cX8_splits RX8 11 (some .int) wsX8_splits 4 91) {r : Int} {nu : qM} (hE : xr X = some (.int (iZ r)) ∧ (in32 r → xΦ X) ∧ xμ X = nu) 
    {x0 : Nat} {x2 : Int} {x3 : Int} {x4 : Int} {x5 : Int} {x6 : Int} {s0 : Nat} {s1 : Int} {s2 : Int} (k_x0 : gK (xG X) x0 = 9) (r_x2 : in32 x2) (r_x3 : in32 x3) (r_x4 : in32 x4) (r_x5 : in32 x5) (r_x6 : in32 x6) (k_s0 : gK (xG X) s0 = 9) (r_s1 : in32 s1) (r_s2 : in32 s2) {m0 : qM} (hR_m0 : qR (xG X) m0)
    (h : f_X8_splits_89 N (xG X)  x0 x2 x3 x4 x5 x6 s0 s1 s2 m0 = some (r, nu)) : qN X 11 89 [(0, .ref x0), (2, .int (iZ x2)), (3, .int (iZ x3)), (4, .int (iZ x4)), (5, .int (iZ x5)), (6, .int (iZ x6))] [.int (iZ s2), .int (iZ s1), .ref s0] m0 := by
  have hT := hX.T
  unfold f_X8_splits_89 at h
  refine qn_aload_n hX (pc := 89) dX8_splits_89 0 rfl rfl ?_
  refine qn_getR hX (pc := 90) fd_X8_splits_7 dX8_splits_90 k_x0 ?_
  refine qn_bipush hX (pc := 93) dX8_splits_93 (by decide) ?_
  refine qn_iload hX (pc := 95) dX8_splits_95 4 rfl ?_
  obtain ⟨v1, e_v1, r_v1, h⟩ := ckI_e h
  refine qn_iadd hX (pc := 97) dX8_splits_97 e_v1 ?_
  obtain ⟨v2, e_v2, b_v2, h⟩ := rdA_e h
  have r_v2 : in32 v2 := by rw [e_v2]; exact hR_m0.a (n := 684) _ (qr_800 hT k_x0) (by decide)
  refine qn_iald hX (pc := 98) 684 dX8_splits_98 (qr_800 hT k_x0) (by decide) b_v2 e_v2 ?_
  obtain ⟨m3, e_m3, h⟩ := kb_e h
  refine qn_callVv hX (pc := 99) [.int (iZ s1), .int (iZ s2), .int (iZ v2)] [.int (iZ v2), .int (iZ s2), .int (iZ s1)] 3 dX8_splits_99 gX8_splits_X8_shares rfl dd_X8_shares ⟨rfl, rfl⟩ rfl rfl (by decide) k_s0 rfl rfl hR_m0 (k_X8_shares (xl X) hT k_s0 r_s1 r_s2 r_v2 e_m3) (fun r_v4 hR_m3 => ?_)
  refine qn_aload_n hX (pc := 102) dX8_splits_102 0 rfl rfl ?_
  refine qn_iload hX (pc := 103) dX8_splits_103 3 rfl ?_
  obtain ⟨v6, m5, e_m5, h⟩ := kb2_e h
  refine qn_callVi hX (pc := 105) [.int (iZ x4)] [.int (iZ x4)] 1 dX8_splits_105 gX8_splits_X8_has rfl dd_X8_has ⟨rfl, rfl⟩ rfl rfl (by decide) k_x0 rfl rfl hR_m3 (k_X8_has (xl X) hT k_x0 r_x4 e_m5) (fun r_v6 hR_m5 => ?_)
  refine qn_istore hX (pc := 108) (ls' := [(7, .int (iZ v6)), (0, .ref x0), (2, .int (iZ x2)), (3, .int (iZ x3)), (4, .int (iZ x4)), (5, .int (iZ x5)), (6, .int (iZ x6))]) dX8_splits_108 rfl rfl ?_
  refine qn_aload_n hX (pc := 110) dX8_splits_110 1 rfl rfl ?_
  refine qn_getR hX (pc := 111) fd_X8_splits_26 dX8_splits_111 k_x0 ?_
  refine qn_iload hX (pc := 114) dX8_splits_114 4 rfl ?_
  obtain ⟨v7, e_v7, b_v7, h⟩ := rdA_e h
  have r_v7 : in32 v7 := by rw [e_v7]; exact hR_m5.a (n := 70) _ (qr_807 hT k_x0) (by decide)
  refine qn_iald hX (pc := 116) 70 dX8_splits_116 (qr_807 hT k_x0) (by decide) b_v7 e_v7 ?_
  refine qn_istore hX (pc := 117) (ls' := [(8, .int (iZ v7)), (7, .int (iZ v6)), (0, .ref x0), (2, .int (iZ x2)), (3, .int (iZ x3)), (4, .int (iZ x4)), (5, .int (iZ x5)), (6, .int (iZ x6))]) dX8_splits_117 rfl rfl ?_
  refine qn_aload_n hX (pc := 119) dX8_splits_119 2 rfl rfl ?_
  refine qn_getI hX (pc := 120) fd_X8_splits_68 dX8_splits_120 k_x0 ?_
  refine qn_iconst hX (pc := 123) dX8_splits_123 ?_
  obtain ⟨v8, e_v8, r_v8, h⟩ := ckI_e h
  refine qn_isub hX (pc := 124) dX8_splits_124 e_v8 ?_
  refine qn_istore hX (pc := 125) (ls' := [(9, .int (iZ v8)), (8, .int (iZ v7)), (7, .int (iZ v6)), (0, .ref x0), (2, .int (iZ x2)), (3, .int (iZ x3)), (4, .int (iZ x4)), (5, .int (iZ x5)), (6, .int (iZ x6))]) dX8_splits_125 rfl rfl ?_
  refine qn_sub (ls' := [(0, .ref x0), (2, .int (iZ x2)), (3, .int (iZ x3)), (4, .int (iZ x4)), (5, .int (iZ x5)), (6, .int (iZ x6)), (7, .int (iZ v6)), (8, .int (iZ v7)), (9, .int (iZ v8))]) [3, 4, 5, 6, 7, 8, 2, 1, 0] rfl ?_
  exact w_X8_splits_L127 hX hE  k_x0 r_x2 r_x3 r_x4 r_x5 r_x6 r_v6 r_v7 r_v8 hR_m5 h
set_option maxHeartbeats 4000000 in
set_option maxRecDepth 20000 in
theorem w_X8_splits {X : qB} {N : Nat} (hX : qOk X cX8_splits RX8 11 (some .int) wsX8_splits 4 91) {r : Int} {nu : qM} (hE : xr X = some (.int (iZ r)) ∧ (in32 r → xΦ X) ∧ xμ X = nu) 
    {x0 : Nat} {x1 : Int} {x2 : Int} {x3 : Int} (k_x0 : gK (xG X) x0 = 9) (r_x1 : in32 x1) (r_x2 : in32 x2) (r_x3 : in32 x3) {m0 : qM} (hR_m0 : qR (xG X) m0)
    (h : f_X8_splits N (xG X)  x0 x1 x2 x3 m0 = some (r, nu)) : qN X 11 0 [(0, .ref x0), (1, .int (iZ x1)), (2, .int (iZ x2)), (3, .int (iZ x3))] [] m0 := by
  have hT := hX.T
  unfold f_X8_splits at h
  refine qn_aload_n hX (pc := 0) dX8_splits_0 0 rfl rfl ?_
  refine qn_iconst hX (pc := 1) dX8_splits_1 ?_
  obtain ⟨m1, e_m1, h⟩ := kp_e h
  refine qn_putI hX (pc := 2) fp_X8_splits_45 dX8_splits_2 k_x0 hR_m0 (show in32 0 by decide) e_m1 (fun hR_m1 => ?_) 
  refine qn_aload_n hX (pc := 5) dX8_splits_5 0 rfl rfl ?_
  refine qn_iload_n hX (pc := 6) dX8_splits_6 1 rfl rfl ?_
  obtain ⟨v3, m2, e_m2, h⟩ := kb2_e h
  refine qn_callVi hX (pc := 7) [.int (iZ x1)] [.int (iZ x1)] 1 dX8_splits_7 gX8_splits_X8_laysFor rfl dd_X8_laysFor ⟨rfl, rfl⟩ rfl rfl (by decide) k_x0 rfl rfl hR_m1 (k_X8_laysFor (xl X) hT k_x0 r_x1 e_m2) (fun r_v3 hR_m2 => ?_)
  refine qn_istore hX (pc := 10) (ls' := [(4, .int (iZ v3)), (0, .ref x0), (1, .int (iZ x1)), (2, .int (iZ x2)), (3, .int (iZ x3))]) dX8_splits_10 rfl rfl ?_
  refine qn_iload hX (pc := 12) dX8_splits_12 0 rfl ?_
  refine qn_if_lt hX (pc := 14) r_v3 56 dX8_splits_14 (by decide) (fun c4 => ?_) (fun c4 => ?_)
  · have h := ite_t h c4
    refine qn_ldc hX (pc := 56) (-2000000) dX8_splits_56 (by decide +kernel : Cond.constant RX8 255 (-2000000) ∈ wsX8_splits) (by decide) ?_
    exact qn_iret hX (pc := 58) dX8_splits_58 hE hR_m2 (by decide) (Option.some.inj h)
  · have h := ite_f h c4
    refine qn_iload_n hX (pc := 17) dX8_splits_17 3 rfl rfl ?_
    refine qn_i2l hX (pc := 18) r_x2 dX8_splits_18 ?_
    refine qn_ldc2 hX (pc := 19) 2 dX8_splits_19 (by decide +kernel : Cond.constantLong RX8 238 (2) ∈ wsX8_splits) (by decide) ?_
    refine qn_ldc2 hX (pc := 22) 9 dX8_splits_22 (by decide +kernel : Cond.constantLong RX8 156 (9) ∈ wsX8_splits) (by decide) ?_
    obtain ⟨v6, m5, e_m5, h⟩ := kb2_e h
    refine qn_callSi hX (pc := 25) [.long (lZ x2), .long (lZ 2), .long (lZ 9)] [.long (lZ 9), .long (lZ 2), .long (lZ x2)] 3 dX8_splits_25 gX8_splits_X8_within rfl dd_X8_within ⟨rfl, rfl⟩ rfl rfl rfl hR_m2 (k_X8_within (xl X) hT (in32.l r_x2) (by decide) (by decide) e_m5) (fun r_v6 hR_m5 => ?_)
    refine qn_if_eq hX (pc := 28) r_v6.i 56 dX8_splits_28 (by decide) (fun c7 => ?_) (fun c7 => ?_)
    · have h := ite_t h c7
      refine qn_ldc hX (pc := 56) (-2000000) dX8_splits_56 (by decide +kernel : Cond.constant RX8 255 (-2000000) ∈ wsX8_splits) (by decide) ?_
      exact qn_iret hX (pc := 58) dX8_splits_58 hE hR_m5 (by decide) (Option.some.inj h)
    · have h := ite_f h c7
      refine qn_aload_n hX (pc := 31) dX8_splits_31 1 rfl rfl ?_
      refine qn_getR hX (pc := 32) fd_X8_splits_26 dX8_splits_32 k_x0 ?_
      refine qn_iload hX (pc := 35) dX8_splits_35 0 rfl ?_
      obtain ⟨v8, e_v8, b_v8, h⟩ := rdA_e h
      have r_v8 : in32 v8 := by rw [e_v8]; exact hR_m5.a (n := 70) _ (qr_807 hT k_x0) (by decide)
      refine qn_iald hX (pc := 37) 70 dX8_splits_37 (qr_807 hT k_x0) (by decide) b_v8 e_v8 ?_
      refine qn_iload_n hX (pc := 38) dX8_splits_38 3 rfl rfl ?_
      refine qn_icmp_lt hX (pc := 39) r_v8 r_x2 56 dX8_splits_39 (by decide) (fun c9 => ?_) (fun c9 => ?_)
      · have h := ite_t h c9
        refine qn_ldc hX (pc := 56) (-2000000) dX8_splits_56 (by decide +kernel : Cond.constant RX8 255 (-2000000) ∈ wsX8_splits) (by decide) ?_
        exact qn_iret hX (pc := 58) dX8_splits_58 hE hR_m5 (by decide) (Option.some.inj h)
      · have h := ite_f h c9
        refine qn_iload_n hX (pc := 42) dX8_splits_42 4 rfl rfl ?_
        refine qn_i2l hX (pc := 43) r_x3 dX8_splits_43 ?_
        refine qn_lconst hX (pc := 44) 1 dX8_splits_44 (by decide) ?_
        refine qn_aload_n hX (pc := 45) dX8_splits_45 1 rfl rfl ?_
        obtain ⟨v11, m10, e_m10, h⟩ := kb2_e h
        refine qn_callVi hX (pc := 46) [] [] 0 dX8_splits_46 gX8_splits_X8_laidInAll rfl dd_X8_laidInAll ⟨rfl, rfl⟩ rfl rfl (by decide) k_x0 rfl rfl hR_m5 (k_X8_laidInAll (xl X) hT k_x0 e_m10) (fun r_v11 hR_m10 => ?_)
        refine qn_i2l hX (pc := 49) r_v11 dX8_splits_49 ?_
        obtain ⟨v13, m12, e_m12, h⟩ := kb2_e h
        refine qn_callSi hX (pc := 50) [.long (lZ x3), .long (lZ 1), .long (lZ v11)] [.long (lZ v11), .long (lZ 1), .long (lZ x3)] 3 dX8_splits_50 gX8_splits_X8_within rfl dd_X8_within ⟨rfl, rfl⟩ rfl rfl rfl hR_m10 (k_X8_within (xl X) hT (in32.l r_x3) (by decide) (in32.l r_v11) e_m12) (fun r_v13 hR_m12 => ?_)
        refine qn_if_ne hX (pc := 53) r_v13.i 59 dX8_splits_53 (by decide) (fun c14 => ?_) (fun c14 => ?_)
        · have h := ite_f h c14
          refine qn_aload_n hX (pc := 59) dX8_splits_59 1 rfl rfl ?_
          refine qn_iload_n hX (pc := 60) dX8_splits_60 2 rfl rfl ?_
          obtain ⟨v16, m15, e_m15, h⟩ := kb2_e h
          refine qn_callVi hX (pc := 61) [.int (iZ x1)] [.int (iZ x1)] 1 dX8_splits_61 gX8_splits_X8_sideOf rfl dd_X8_sideOf ⟨rfl, rfl⟩ rfl rfl (by decide) k_x0 rfl rfl hR_m12 (k_X8_sideOf (xl X) hT k_x0 r_x1 e_m15) (fun r_v16 hR_m15 => ?_)
          refine qn_istore hX (pc := 64) (ls' := [(5, .int (iZ v16)), (4, .int (iZ v3)), (0, .ref x0), (1, .int (iZ x1)), (2, .int (iZ x2)), (3, .int (iZ x3))]) dX8_splits_64 rfl rfl ?_
          refine qn_aload_n hX (pc := 66) dX8_splits_66 2 rfl rfl ?_
          refine qn_iload hX (pc := 67) dX8_splits_67 0 rfl ?_
          obtain ⟨v18, m17, e_m17, h⟩ := kb2_e h
          refine qn_callVi hX (pc := 69) [.int (iZ v16)] [.int (iZ v16)] 1 dX8_splits_69 gX8_splits_X8_topLaid rfl dd_X8_topLaid ⟨rfl, rfl⟩ rfl rfl (by decide) k_x0 rfl rfl hR_m15 (k_X8_topLaid (xl X) hT k_x0 r_v16 e_m17) (fun r_v18 hR_m17 => ?_)
          refine qn_istore hX (pc := 72) (ls' := [(6, .int (iZ v18)), (5, .int (iZ v16)), (4, .int (iZ v3)), (0, .ref x0), (1, .int (iZ x1)), (2, .int (iZ x2)), (3, .int (iZ x3))]) dX8_splits_72 rfl rfl ?_
          refine qn_aload_n hX (pc := 74) dX8_splits_74 3 rfl rfl ?_
          refine qn_iload_n hX (pc := 75) dX8_splits_75 6 rfl rfl ?_
          refine qn_iload hX (pc := 76) dX8_splits_76 0 rfl ?_
          refine qn_iload hX (pc := 78) dX8_splits_78 2 rfl ?_
          refine qn_icmp_ne hX (pc := 80) r_v18 r_v3 87 dX8_splits_80 (by decide) (fun c19 => ?_) (fun c19 => ?_)
          · have h := ite_f h c19
            refine qn_iload hX (pc := 87) dX8_splits_87 0 rfl ?_
            refine qn_sub (ls' := [(0, .ref x0), (2, .int (iZ x2)), (3, .int (iZ x3)), (4, .int (iZ v3)), (5, .int (iZ v16)), (6, .int (iZ v18))]) [3, 5, 6, 2, 1, 0] rfl ?_
            exact w_X8_splits_89 hX hE  k_x0 r_x2 r_x3 r_v3 r_v16 r_v18 k_x0 r_x3 r_v18 hR_m17 h
          · have h := ite_t h c19
            refine qn_iconst hX (pc := 83) dX8_splits_83 ?_
            refine qn_goto hX (pc := 84) 89 dX8_splits_84 (by decide) ?_
            refine qn_sub (ls' := [(0, .ref x0), (2, .int (iZ x2)), (3, .int (iZ x3)), (4, .int (iZ v3)), (5, .int (iZ v16)), (6, .int (iZ v18))]) [3, 5, 6, 2, 1, 0] rfl ?_
            exact w_X8_splits_89 hX hE  k_x0 r_x2 r_x3 r_v3 r_v16 r_v18 k_x0 r_x3 (by decide) hR_m17 h
        · have h := ite_t h c14
          refine qn_ldc hX (pc := 56) (-2000000) dX8_splits_56 (by decide +kernel : Cond.constant RX8 255 (-2000000) ∈ wsX8_splits) (by decide) ?_
          exact qn_iret hX (pc := 58) dX8_splits_58 hE hR_m12 (by decide) (Option.some.inj h)
theorem k_X8_splits (l : Launch) {G : qG} (hT : qT G) {N : Nat} {x0 : Nat} {x1 : Int} {x2 : Int} {x3 : Int} (k_x0 : gK G x0 = 9) (r_x1 : in32 x1) (r_x2 : in32 x2) (r_x3 : in32 x3) {m0 : qM} {r : Int} {nu : qM} (h : f_X8_splits N G x0 x1 x2 x3 m0 = some (r, nu)) : qC l yX8_splits wsX8_splits 4 91 G [.ref x0, .int (iZ x1), .int (iZ x2), .int (iZ x3)] m0 (some (.int (iZ r))) (in32 r) nu := by
  refine qn_start (hy := by decide) hT (hw := rfl) (hn := Nat.le_of_ble_eq_true rfl) ?_
  intro X h1 h2 h3 h4 hX hR
  subst h4
  exact w_X8_splits hX ⟨h1, fun q => h2 ▸ q, h3⟩ k_x0 r_x1 r_x2 r_x3 hR h
theorem dd_X8_splits : yX8_splits.cls = RX8 ∧ yX8_splits.cls ≠ "java/lang/invoke/MethodHandle" ∧ yX8_splits.cls ≠ "java/lang/invoke/VarHandle" ∧ (parseMethodDescriptor yX8_splits.desc).map (fun d => d.parameters.length) = some 3 := by decide +kernel
-- ProRataMarketModel.takeFor
theorem hi_X8_takeFor_8 : ∀ w ∈ wsX80, w ∈ wsX8_takeFor := fun w h => List.mem_cons_of_mem _ (List.mem_append_right _ h)
theorem fd_X8_takeFor_7 : qFd RX8 wsX8_takeFor 7 8 0 1 800 := ⟨RX8, TX8, 32, _, rfl, hi_X8_takeFor_8, by decide, (by decide +kernel : Cond.fieldLink RX8 7 (TX8 0).1 (TX8 0).2.1 (TX8 0).2.2.1 ∈ wsX8_takeFor), rfl, rfl, by decide⟩
theorem fd_X8_takeFor_26 : qFd RX8 wsX8_takeFor 26 8 7 1 807 := ⟨RX8, TX8, 32, _, rfl, hi_X8_takeFor_8, by decide, (by decide +kernel : Cond.fieldLink RX8 26 (TX8 7).1 (TX8 7).2.1 (TX8 7).2.2.1 ∈ wsX8_takeFor), rfl, rfl, by decide⟩
theorem fp_X8_takeFor_45 : qFp RX8 wsX8_takeFor 45 8 4 0 804 .int := ⟨RX8, TX8, 32, _, tyX8, rfl, hi_X8_takeFor_8, by decide, (by decide +kernel : Cond.fieldLink RX8 45 (TX8 4).1 (TX8 4).2.1 (TX8 4).2.2.1 ∈ wsX8_takeFor), rfl, rfl, by decide, tyX8_ok, nmX8, rfl, by decide +kernel⟩
set_option maxHeartbeats 4000000 in
set_option maxRecDepth 20000 in
theorem w_X8_takeFor_108 {X : qB} {N : Nat} (hX : qOk X cX8_takeFor RX8 8 (some .int) wsX8_takeFor 4 91) {r : Int} {nu : qM} (hE : xr X = some (.int (iZ r)) ∧ (in32 r → xΦ X) ∧ xμ X = nu) {k51 : (Nat → Int → Int → Int → Int → Int → Int → qM → Option (Int × qM))} (hk51 : ∀ (x0 : Nat) (x2 : Int) (x3 : Int) (x4 : Int) (x5 : Int) (x6 : Int) (x7 : Int) (m0 : qM), gK (xG X) x0 = 9 → in32 x2 → in32 x3 → in32 x4 → in32 x5 → in32 x6 → in32 x7 → qR (xG X) m0 → k51 x0 x2 x3 x4 x5 x6 x7 m0 = some (r, nu) → qN X 8 51 [(0, .ref x0), (2, .int (iZ x2)), (3, .int (iZ x3)), (4, .int (iZ x4)), (5, .int (iZ x5)), (6, .int (iZ x6)), (7, .int (iZ x7))] [] m0)
    {x0 : Nat} {x2 : Int} {x3 : Int} {x4 : Int} {x5 : Int} {x6 : Int} {x7 : Int} (k_x0 : gK (xG X) x0 = 9) (r_x2 : in32 x2) (r_x3 : in32 x3) (r_x4 : in32 x4) (r_x5 : in32 x5) (r_x6 : in32 x6) (r_x7 : in32 x7) {m0 : qM} (hR_m0 : qR (xG X) m0)
    (h : f_X8_takeFor_108 N (xG X) k51 x0 x2 x3 x4 x5 x6 x7 m0 = some (r, nu)) : qN X 8 108 [(0, .ref x0), (2, .int (iZ x2)), (3, .int (iZ x3)), (4, .int (iZ x4)), (5, .int (iZ x5)), (6, .int (iZ x6)), (7, .int (iZ x7))] [] m0 := by
  have hT := hX.T
  unfold f_X8_takeFor_108 at h
  obtain ⟨v1, e_v1, r_v1, h⟩ := ckI_e h
  refine qn_iinc hX (pc := 108) (ls' := [(7, .int (iZ v1)), (0, .ref x0), (2, .int (iZ x2)), (3, .int (iZ x3)), (4, .int (iZ x4)), (5, .int (iZ x5)), (6, .int (iZ x6))]) dX8_takeFor_108 6 rfl e_v1 rfl rfl ?_
  refine qn_goto hX (pc := 111) 51 dX8_takeFor_111 (by decide) ?_
  refine qn_sub (ls' := [(0, .ref x0), (2, .int (iZ x2)), (3, .int (iZ x3)), (4, .int (iZ x4)), (5, .int (iZ x5)), (6, .int (iZ x6)), (7, .int (iZ v1))]) [1, 2, 3, 4, 5, 6, 0] rfl ?_
  exact hk51 x0 x2 x3 x4 x5 x6 v1 m0 k_x0 r_x2 r_x3 r_x4 r_x5 r_x6 r_v1 hR_m0 h
set_option maxHeartbeats 4000000 in
set_option maxRecDepth 20000 in
theorem w_X8_takeFor_51 {X : qB} {N : Nat} (hX : qOk X cX8_takeFor RX8 8 (some .int) wsX8_takeFor 4 91) {r : Int} {nu : qM} (hE : xr X = some (.int (iZ r)) ∧ (in32 r → xΦ X) ∧ xμ X = nu) {k51 : (Nat → Int → Int → Int → Int → Int → Int → qM → Option (Int × qM))} (hk51 : ∀ (x0 : Nat) (x2 : Int) (x3 : Int) (x4 : Int) (x5 : Int) (x6 : Int) (x7 : Int) (m0 : qM), gK (xG X) x0 = 9 → in32 x2 → in32 x3 → in32 x4 → in32 x5 → in32 x6 → in32 x7 → qR (xG X) m0 → k51 x0 x2 x3 x4 x5 x6 x7 m0 = some (r, nu) → qN X 8 51 [(0, .ref x0), (2, .int (iZ x2)), (3, .int (iZ x3)), (4, .int (iZ x4)), (5, .int (iZ x5)), (6, .int (iZ x6)), (7, .int (iZ x7))] [] m0)
    {x0 : Nat} {x2 : Int} {x3 : Int} {x4 : Int} {x5 : Int} {x6 : Int} {x7 : Int} (k_x0 : gK (xG X) x0 = 9) (r_x2 : in32 x2) (r_x3 : in32 x3) (r_x4 : in32 x4) (r_x5 : in32 x5) (r_x6 : in32 x6) (r_x7 : in32 x7) {m0 : qM} (hR_m0 : qR (xG X) m0)
    (h : f_X8_takeFor_51 N (xG X) k51 x0 x2 x3 x4 x5 x6 x7 m0 = some (r, nu)) : qN X 8 51 [(0, .ref x0), (2, .int (iZ x2)), (3, .int (iZ x3)), (4, .int (iZ x4)), (5, .int (iZ x5)), (6, .int (iZ x6)), (7, .int (iZ x7))] [] m0 := by
  have hT := hX.T
  unfold f_X8_takeFor_51 at h
  refine qn_iload hX (pc := 51) dX8_takeFor_51 6 rfl ?_
  refine qn_iload hX (pc := 53) dX8_takeFor_53 5 rfl ?_
  refine qn_icmp_gt hX (pc := 55) r_x7 r_x6 114 dX8_takeFor_55 (by decide) (fun c1 => ?_) (fun c1 => ?_)
  · have h := ite_t h c1
    refine qn_iconst hX (pc := 114) dX8_takeFor_114 ?_
    exact qn_iret hX (pc := 115) dX8_takeFor_115 hE hR_m0 (by decide) (Option.some.inj h)
  · have h := ite_f h c1
    refine qn_aload_n hX (pc := 58) dX8_takeFor_58 0 rfl rfl ?_
    refine qn_iload hX (pc := 59) dX8_takeFor_59 6 rfl ?_
    refine qn_iload hX (pc := 61) dX8_takeFor_61 4 rfl ?_
    refine qn_aload_n hX (pc := 63) dX8_takeFor_63 0 rfl rfl ?_
    refine qn_getR hX (pc := 64) fd_X8_takeFor_7 dX8_takeFor_64 k_x0 ?_
    refine qn_bipush hX (pc := 67) dX8_takeFor_67 (by decide) ?_
    refine qn_iload hX (pc := 69) dX8_takeFor_69 3 rfl ?_
    obtain ⟨v2, e_v2, r_v2, h⟩ := ckI_e h
    refine qn_iadd hX (pc := 71) dX8_takeFor_71 e_v2 ?_
    obtain ⟨v3, e_v3, b_v3, h⟩ := rdA_e h
    have r_v3 : in32 v3 := by rw [e_v3]; exact hR_m0.a (n := 684) _ (qr_800 hT k_x0) (by decide)
    refine qn_iald hX (pc := 72) 684 dX8_takeFor_72 (qr_800 hT k_x0) (by decide) b_v3 e_v3 ?_
    obtain ⟨m4, e_m4, h⟩ := kb_e h
    refine qn_callVv hX (pc := 73) [.int (iZ x7), .int (iZ x5), .int (iZ v3)] [.int (iZ v3), .int (iZ x5), .int (iZ x7)] 3 dX8_takeFor_73 gX8_takeFor_X8_shares rfl dd_X8_shares ⟨rfl, rfl⟩ rfl rfl (by decide) k_x0 rfl rfl hR_m0 (k_X8_shares (xl X) hT k_x0 r_x7 r_x5 r_v3 e_m4) (fun r_v5 hR_m4 => ?_)
    refine qn_iload_n hX (pc := 76) dX8_takeFor_76 1 rfl rfl ?_
    refine qn_if_ne hX (pc := 77) r_x2 91 dX8_takeFor_77 (by decide) (fun c6 => ?_) (fun c6 => ?_)
    · have h := ite_f h c6
      refine qn_aload_n hX (pc := 91) dX8_takeFor_91 0 rfl rfl ?_
      refine qn_iload_n hX (pc := 92) dX8_takeFor_92 2 rfl rfl ?_
      obtain ⟨v8, m7, e_m7, h⟩ := kb2_e h
      refine qn_callVi hX (pc := 93) [.int (iZ x3)] [.int (iZ x3)] 1 dX8_takeFor_93 gX8_takeFor_X8_has rfl dd_X8_has ⟨rfl, rfl⟩ rfl rfl (by decide) k_x0 rfl rfl hR_m4 (k_X8_has (xl X) hT k_x0 r_x3 e_m7) (fun r_v8 hR_m7 => ?_)
      refine qn_aload_n hX (pc := 96) dX8_takeFor_96 0 rfl rfl ?_
      refine qn_getR hX (pc := 97) fd_X8_takeFor_26 dX8_takeFor_97 k_x0 ?_
      refine qn_iload_n hX (pc := 100) dX8_takeFor_100 2 rfl rfl ?_
      obtain ⟨v9, e_v9, b_v9, h⟩ := rdA_e h
      have r_v9 : in32 v9 := by rw [e_v9]; exact hR_m7.a (n := 70) _ (qr_807 hT k_x0) (by decide)
      refine qn_iald hX (pc := 101) 70 dX8_takeFor_101 (qr_807 hT k_x0) (by decide) b_v9 e_v9 ?_
      refine qn_icmp_ne hX (pc := 102) r_v8 r_v9 108 dX8_takeFor_102 (by decide) (fun c10 => ?_) (fun c10 => ?_)
      · have h := ite_f h c10
        refine qn_sub (ls' := [(0, .ref x0), (2, .int (iZ x2)), (3, .int (iZ x3)), (4, .int (iZ x4)), (5, .int (iZ x5)), (6, .int (iZ x6)), (7, .int (iZ x7))]) [0, 1, 2, 3, 4, 5, 6] rfl ?_
        exact w_X8_takeFor_108 hX hE hk51 k_x0 r_x2 r_x3 r_x4 r_x5 r_x6 r_x7 hR_m7 h
      · have h := ite_t h c10
        refine qn_iload hX (pc := 105) dX8_takeFor_105 6 rfl ?_
        exact qn_iret hX (pc := 107) dX8_takeFor_107 hE hR_m7 r_x7 (Option.some.inj h)
    · have h := ite_t h c6
      refine qn_aload_n hX (pc := 80) dX8_takeFor_80 0 rfl rfl ?_
      refine qn_iload_n hX (pc := 81) dX8_takeFor_81 2 rfl rfl ?_
      obtain ⟨v12, m11, e_m11, h⟩ := kb2_e h
      refine qn_callVi hX (pc := 82) [.int (iZ x3)] [.int (iZ x3)] 1 dX8_takeFor_82 gX8_takeFor_X8_has rfl dd_X8_has ⟨rfl, rfl⟩ rfl rfl (by decide) k_x0 rfl rfl hR_m4 (k_X8_has (xl X) hT k_x0 r_x3 e_m11) (fun r_v12 hR_m11 => ?_)
      refine qn_if_le hX (pc := 85) r_v12 108 dX8_takeFor_85 (by decide) (fun c13 => ?_) (fun c13 => ?_)
      · have h := ite_f h c13
        refine qn_sub (ls' := [(0, .ref x0), (2, .int (iZ x2)), (3, .int (iZ x3)), (4, .int (iZ x4)), (5, .int (iZ x5)), (6, .int (iZ x6)), (7, .int (iZ x7))]) [0, 1, 2, 3, 4, 5, 6] rfl ?_
        exact w_X8_takeFor_108 hX hE hk51 k_x0 r_x2 r_x3 r_x4 r_x5 r_x6 r_x7 hR_m11 h
      · have h := ite_t h c13
        refine qn_goto hX (pc := 88) 105 dX8_takeFor_88 (by decide) ?_
        refine qn_iload hX (pc := 105) dX8_takeFor_105 6 rfl ?_
        exact qn_iret hX (pc := 107) dX8_takeFor_107 hE hR_m11 r_x7 (Option.some.inj h)
set_option maxHeartbeats 4000000 in
set_option maxRecDepth 20000 in
theorem w_X8_takeFor_L51 {X : qB} {N : Nat} (hX : qOk X cX8_takeFor RX8 8 (some .int) wsX8_takeFor 4 91) {r : Int} {nu : qM} (hE : xr X = some (.int (iZ r)) ∧ (in32 r → xΦ X) ∧ xμ X = nu) 
    {x0 : Nat} {x2 : Int} {x3 : Int} {x4 : Int} {x5 : Int} {x6 : Int} {x7 : Int} (k_x0 : gK (xG X) x0 = 9) (r_x2 : in32 x2) (r_x3 : in32 x3) (r_x4 : in32 x4) (r_x5 : in32 x5) (r_x6 : in32 x6) (r_x7 : in32 x7) {m0 : qM} (hR_m0 : qR (xG X) m0)
    (h : f_X8_takeFor_L51 N (xG X)  x0 x2 x3 x4 x5 x6 x7 m0 = some (r, nu)) : qN X 8 51 [(0, .ref x0), (2, .int (iZ x2)), (3, .int (iZ x3)), (4, .int (iZ x4)), (5, .int (iZ x5)), (6, .int (iZ x6)), (7, .int (iZ x7))] [] m0 := by
  unfold f_X8_takeFor_L51 at h
  exact qLoop_w (σ := Nat × Int × Int × Int × Int × Int × Int × qM) (P := fun p => gK (xG X) p.1 = 9 ∧ in32 p.2.1 ∧ in32 p.2.2.1 ∧ in32 p.2.2.2.1 ∧ in32 p.2.2.2.2.1 ∧ in32 p.2.2.2.2.2.1 ∧ in32 p.2.2.2.2.2.2.1 ∧ qR (xG X) p.2.2.2.2.2.2.2) (Q := fun p => qN X 8 51 [(0, .ref p.1), (2, .int (iZ p.2.1)), (3, .int (iZ p.2.2.1)), (4, .int (iZ p.2.2.2.1)), (5, .int (iZ p.2.2.2.2.1)), (6, .int (iZ p.2.2.2.2.2.1)), (7, .int (iZ p.2.2.2.2.2.2.1))] [] p.2.2.2.2.2.2.2) (fun k hrec p hp hh => w_X8_takeFor_51 hX hE (fun x0 x2 x3 x4 x5 x6 x7 m0 q0 q1 q2 q3 q4 q5 q6 hRm hh => hrec (x0, x2, x3, x4, x5, x6, x7, m0) ⟨q0, q1, q2, q3, q4, q5, q6, hRm⟩ hh) hp.1 hp.2.1 hp.2.2.1 hp.2.2.2.1 hp.2.2.2.2.1 hp.2.2.2.2.2.1 hp.2.2.2.2.2.2.1 hp.2.2.2.2.2.2.2 hh) N (x0, x2, x3, x4, x5, x6, x7, m0) ⟨k_x0, r_x2, r_x3, r_x4, r_x5, r_x6, r_x7, hR_m0⟩ h
set_option maxHeartbeats 4000000 in
set_option maxRecDepth 20000 in
theorem w_X8_takeFor {X : qB} {N : Nat} (hX : qOk X cX8_takeFor RX8 8 (some .int) wsX8_takeFor 4 91) {r : Int} {nu : qM} (hE : xr X = some (.int (iZ r)) ∧ (in32 r → xΦ X) ∧ xμ X = nu) 
    {x0 : Nat} {x1 : Int} {x2 : Int} (k_x0 : gK (xG X) x0 = 9) (r_x1 : in32 x1) (r_x2 : in32 x2) {m0 : qM} (hR_m0 : qR (xG X) m0)
    (h : f_X8_takeFor N (xG X)  x0 x1 x2 m0 = some (r, nu)) : qN X 8 0 [(0, .ref x0), (1, .int (iZ x1)), (2, .int (iZ x2))] [] m0 := by
  have hT := hX.T
  unfold f_X8_takeFor at h
  refine qn_aload_n hX (pc := 0) dX8_takeFor_0 0 rfl rfl ?_
  refine qn_iconst hX (pc := 1) dX8_takeFor_1 ?_
  obtain ⟨m1, e_m1, h⟩ := kp_e h
  refine qn_putI hX (pc := 2) fp_X8_takeFor_45 dX8_takeFor_2 k_x0 hR_m0 (show in32 0 by decide) e_m1 (fun hR_m1 => ?_) 
  refine qn_aload_n hX (pc := 5) dX8_takeFor_5 0 rfl rfl ?_
  refine qn_iload_n hX (pc := 6) dX8_takeFor_6 1 rfl rfl ?_
  obtain ⟨v3, m2, e_m2, h⟩ := kb2_e h
  refine qn_callVi hX (pc := 7) [.int (iZ x1)] [.int (iZ x1)] 1 dX8_takeFor_7 gX8_takeFor_X8_laysFor rfl dd_X8_laysFor ⟨rfl, rfl⟩ rfl rfl (by decide) k_x0 rfl rfl hR_m1 (k_X8_laysFor (xl X) hT k_x0 r_x1 e_m2) (fun r_v3 hR_m2 => ?_)
  refine qn_istore_n hX (pc := 10) (ls' := [(3, .int (iZ v3)), (0, .ref x0), (1, .int (iZ x1)), (2, .int (iZ x2))]) dX8_takeFor_10 rfl rfl rfl ?_
  refine qn_iload_n hX (pc := 11) dX8_takeFor_11 0 rfl rfl ?_
  refine qn_if_lt hX (pc := 12) r_v3 25 dX8_takeFor_12 (by decide) (fun c4 => ?_) (fun c4 => ?_)
  · have h := ite_t h c4
    refine qn_iconst hX (pc := 25) dX8_takeFor_25 ?_
    exact qn_iret hX (pc := 26) dX8_takeFor_26 hE hR_m2 (by decide) (Option.some.inj h)
  · have h := ite_f h c4
    refine qn_iload_n hX (pc := 15) dX8_takeFor_15 3 rfl rfl ?_
    refine qn_i2l hX (pc := 16) r_x2 dX8_takeFor_16 ?_
    refine qn_lconst hX (pc := 17) 0 dX8_takeFor_17 (by decide) ?_
    refine qn_lconst hX (pc := 18) 1 dX8_takeFor_18 (by decide) ?_
    obtain ⟨v6, m5, e_m5, h⟩ := kb2_e h
    refine qn_callSi hX (pc := 19) [.long (lZ x2), .long (lZ 0), .long (lZ 1)] [.long (lZ 1), .long (lZ 0), .long (lZ x2)] 3 dX8_takeFor_19 gX8_takeFor_X8_within rfl dd_X8_within ⟨rfl, rfl⟩ rfl rfl rfl hR_m2 (k_X8_within (xl X) hT (in32.l r_x2) (by decide) (by decide) e_m5) (fun r_v6 hR_m5 => ?_)
    refine qn_if_ne hX (pc := 22) r_v6.i 27 dX8_takeFor_22 (by decide) (fun c7 => ?_) (fun c7 => ?_)
    · have h := ite_f h c7
      refine qn_aload_n hX (pc := 27) dX8_takeFor_27 1 rfl rfl ?_
      refine qn_iload_n hX (pc := 28) dX8_takeFor_28 2 rfl rfl ?_
      obtain ⟨v9, m8, e_m8, h⟩ := kb2_e h
      refine qn_callVi hX (pc := 29) [.int (iZ x1)] [.int (iZ x1)] 1 dX8_takeFor_29 gX8_takeFor_X8_sideOf rfl dd_X8_sideOf ⟨rfl, rfl⟩ rfl rfl (by decide) k_x0 rfl rfl hR_m5 (k_X8_sideOf (xl X) hT k_x0 r_x1 e_m8) (fun r_v9 hR_m8 => ?_)
      refine qn_istore hX (pc := 32) (ls' := [(4, .int (iZ v9)), (3, .int (iZ v3)), (0, .ref x0), (1, .int (iZ x1)), (2, .int (iZ x2))]) dX8_takeFor_32 rfl rfl ?_
      refine qn_aload_n hX (pc := 34) dX8_takeFor_34 2 rfl rfl ?_
      refine qn_iload hX (pc := 35) dX8_takeFor_35 0 rfl ?_
      obtain ⟨v11, m10, e_m10, h⟩ := kb2_e h
      refine qn_callVi hX (pc := 37) [.int (iZ v9)] [.int (iZ v9)] 1 dX8_takeFor_37 gX8_takeFor_X8_topLaid rfl dd_X8_topLaid ⟨rfl, rfl⟩ rfl rfl (by decide) k_x0 rfl rfl hR_m8 (k_X8_topLaid (xl X) hT k_x0 r_v9 e_m10) (fun r_v11 hR_m10 => ?_)
      refine qn_istore hX (pc := 40) (ls' := [(5, .int (iZ v11)), (4, .int (iZ v9)), (3, .int (iZ v3)), (0, .ref x0), (1, .int (iZ x1)), (2, .int (iZ x2))]) dX8_takeFor_40 rfl rfl ?_
      refine qn_aload_n hX (pc := 42) dX8_takeFor_42 3 rfl rfl ?_
      obtain ⟨v13, m12, e_m12, h⟩ := kb2_e h
      refine qn_callVi hX (pc := 43) [] [] 0 dX8_takeFor_43 gX8_takeFor_X8_laidInAll rfl dd_X8_laidInAll ⟨rfl, rfl⟩ rfl rfl (by decide) k_x0 rfl rfl hR_m10 (k_X8_laidInAll (xl X) hT k_x0 e_m12) (fun r_v13 hR_m12 => ?_)
      refine qn_istore hX (pc := 46) (ls' := [(6, .int (iZ v13)), (5, .int (iZ v11)), (4, .int (iZ v9)), (3, .int (iZ v3)), (0, .ref x0), (1, .int (iZ x1)), (2, .int (iZ x2))]) dX8_takeFor_46 rfl rfl ?_
      refine qn_iconst hX (pc := 48) dX8_takeFor_48 ?_
      refine qn_istore hX (pc := 49) (ls' := [(7, .int (iZ 1)), (6, .int (iZ v13)), (5, .int (iZ v11)), (4, .int (iZ v9)), (3, .int (iZ v3)), (0, .ref x0), (1, .int (iZ x1)), (2, .int (iZ x2))]) dX8_takeFor_49 rfl rfl ?_
      refine qn_sub (ls' := [(0, .ref x0), (2, .int (iZ x2)), (3, .int (iZ v3)), (4, .int (iZ v9)), (5, .int (iZ v11)), (6, .int (iZ v13)), (7, .int (iZ 1))]) [5, 7, 4, 3, 2, 1, 0] rfl ?_
      exact w_X8_takeFor_L51 hX hE  k_x0 r_x2 r_v3 r_v9 r_v11 r_v13 (by decide) hR_m12 h
    · have h := ite_t h c7
      refine qn_iconst hX (pc := 25) dX8_takeFor_25 ?_
      exact qn_iret hX (pc := 26) dX8_takeFor_26 hE hR_m5 (by decide) (Option.some.inj h)
theorem k_X8_takeFor (l : Launch) {G : qG} (hT : qT G) {N : Nat} {x0 : Nat} {x1 : Int} {x2 : Int} (k_x0 : gK G x0 = 9) (r_x1 : in32 x1) (r_x2 : in32 x2) {m0 : qM} {r : Int} {nu : qM} (h : f_X8_takeFor N G x0 x1 x2 m0 = some (r, nu)) : qC l yX8_takeFor wsX8_takeFor 4 91 G [.ref x0, .int (iZ x1), .int (iZ x2)] m0 (some (.int (iZ r))) (in32 r) nu := by
  refine qn_start (hy := by decide) hT (hw := rfl) (hn := Nat.le_of_ble_eq_true rfl) ?_
  intro X h1 h2 h3 h4 hX hR
  subst h4
  exact w_X8_takeFor hX ⟨h1, fun q => h2 ▸ q, h3⟩ k_x0 r_x1 r_x2 hR h
theorem dd_X8_takeFor : yX8_takeFor.cls = RX8 ∧ yX8_takeFor.cls ≠ "java/lang/invoke/MethodHandle" ∧ yX8_takeFor.cls ≠ "java/lang/invoke/VarHandle" ∧ (parseMethodDescriptor yX8_takeFor.desc).map (fun d => d.parameters.length) = some 2 := by decide +kernel
-- ProRataMarketModel.thrown
theorem hi_X8_thrown_8 : ∀ w ∈ wsX80, w ∈ wsX8_thrown := fun w h => List.mem_cons_of_mem _ (List.mem_append_right _ h)
theorem fd_X8_thrown_45 : qFd RX8 wsX8_thrown 45 8 4 0 804 := ⟨RX8, TX8, 32, _, rfl, hi_X8_thrown_8, by decide, (by decide +kernel : Cond.fieldLink RX8 45 (TX8 4).1 (TX8 4).2.1 (TX8 4).2.2.1 ∈ wsX8_thrown), rfl, rfl, by decide⟩
set_option maxHeartbeats 4000000 in
set_option maxRecDepth 20000 in
theorem w_X8_thrown {X : qB} {N : Nat} (hX : qOk X cX8_thrown RX8 1 (some .int) wsX8_thrown 0 0) {r : Int} {nu : qM} (hE : xr X = some (.int (iZ r)) ∧ (in32 r → xΦ X) ∧ xμ X = nu) 
    {x0 : Nat} (k_x0 : gK (xG X) x0 = 9) {m0 : qM} (hR_m0 : qR (xG X) m0)
    (h : f_X8_thrown N (xG X)  x0 m0 = some (r, nu)) : qN X 1 0 [(0, .ref x0)] [] m0 := by
  have hT := hX.T
  unfold f_X8_thrown at h
  refine qn_aload_n hX (pc := 0) dX8_thrown_0 0 rfl rfl ?_
  refine qn_getI hX (pc := 1) fd_X8_thrown_45 dX8_thrown_1 k_x0 ?_
  exact qn_iret hX (pc := 4) dX8_thrown_4 hE hR_m0 (hR_m0.i 804 _ rfl) (Option.some.inj h)
theorem k_X8_thrown (l : Launch) {G : qG} (hT : qT G) {N : Nat} {x0 : Nat} (k_x0 : gK G x0 = 9) {m0 : qM} {r : Int} {nu : qM} (h : f_X8_thrown N G x0 m0 = some (r, nu)) : qC l yX8_thrown wsX8_thrown 0 0 G [.ref x0] m0 (some (.int (iZ r))) (in32 r) nu := by
  refine qn_start (hy := by decide) hT (hw := rfl) (hn := Nat.le_of_ble_eq_true rfl) ?_
  intro X h1 h2 h3 h4 hX hR
  subst h4
  exact w_X8_thrown hX ⟨h1, fun q => h2 ▸ q, h3⟩ k_x0 hR h
theorem dd_X8_thrown : yX8_thrown.cls = RX8 ∧ yX8_thrown.cls ≠ "java/lang/invoke/MethodHandle" ∧ yX8_thrown.cls ≠ "java/lang/invoke/VarHandle" ∧ (parseMethodDescriptor yX8_thrown.desc).map (fun d => d.parameters.length) = some 0 := by decide +kernel
-- ProRataMarketModel.top
theorem hi_X8_top_8 : ∀ w ∈ wsX80, w ∈ wsX8_top := fun w h => List.mem_cons_of_mem _ (List.mem_append_right _ h)
theorem fp_X8_top_45 : qFp RX8 wsX8_top 45 8 4 0 804 .int := ⟨RX8, TX8, 32, _, tyX8, rfl, hi_X8_top_8, by decide, (by decide +kernel : Cond.fieldLink RX8 45 (TX8 4).1 (TX8 4).2.1 (TX8 4).2.2.1 ∈ wsX8_top), rfl, rfl, by decide, tyX8_ok, nmX8, rfl, by decide +kernel⟩
theorem fd_X8_top_7 : qFd RX8 wsX8_top 7 8 0 1 800 := ⟨RX8, TX8, 32, _, rfl, hi_X8_top_8, by decide, (by decide +kernel : Cond.fieldLink RX8 7 (TX8 0).1 (TX8 0).2.1 (TX8 0).2.2.1 ∈ wsX8_top), rfl, rfl, by decide⟩
set_option maxHeartbeats 4000000 in
set_option maxRecDepth 20000 in
theorem w_X8_top {X : qB} {N : Nat} (hX : qOk X cX8_top RX8 2 (some .int) wsX8_top 1 25) {r : Int} {nu : qM} (hE : xr X = some (.int (iZ r)) ∧ (in32 r → xΦ X) ∧ xμ X = nu) 
    {x0 : Nat} {x1 : Int} (k_x0 : gK (xG X) x0 = 9) (r_x1 : in32 x1) {m0 : qM} (hR_m0 : qR (xG X) m0)
    (h : f_X8_top N (xG X)  x0 x1 m0 = some (r, nu)) : qN X 2 0 [(0, .ref x0), (1, .int (iZ x1))] [] m0 := by
  have hT := hX.T
  unfold f_X8_top at h
  refine qn_aload_n hX (pc := 0) dX8_top_0 0 rfl rfl ?_
  refine qn_iconst hX (pc := 1) dX8_top_1 ?_
  obtain ⟨m1, e_m1, h⟩ := kp_e h
  refine qn_putI hX (pc := 2) fp_X8_top_45 dX8_top_2 k_x0 hR_m0 (show in32 0 by decide) e_m1 (fun hR_m1 => ?_) 
  refine qn_iload_n hX (pc := 5) dX8_top_5 1 rfl rfl ?_
  refine qn_i2l hX (pc := 6) r_x1 dX8_top_6 ?_
  refine qn_lconst hX (pc := 7) 0 dX8_top_7 (by decide) ?_
  refine qn_lconst hX (pc := 8) 1 dX8_top_8 (by decide) ?_
  obtain ⟨v3, m2, e_m2, h⟩ := kb2_e h
  refine qn_callSi hX (pc := 9) [.long (lZ x1), .long (lZ 0), .long (lZ 1)] [.long (lZ 1), .long (lZ 0), .long (lZ x1)] 3 dX8_top_9 gX8_top_X8_within rfl dd_X8_within ⟨rfl, rfl⟩ rfl rfl rfl hR_m1 (k_X8_within (xl X) hT (in32.l r_x1) (by decide) (by decide) e_m2) (fun r_v3 hR_m2 => ?_)
  refine qn_if_eq hX (pc := 12) r_v3.i 27 dX8_top_12 (by decide) (fun c4 => ?_) (fun c4 => ?_)
  · have h := ite_t h c4
    refine qn_iconst hX (pc := 27) dX8_top_27 ?_
    exact qn_iret hX (pc := 28) dX8_top_28 hE hR_m2 (by decide) (Option.some.inj h)
  · have h := ite_f h c4
    refine qn_aload_n hX (pc := 15) dX8_top_15 0 rfl rfl ?_
    refine qn_getR hX (pc := 16) fd_X8_top_7 dX8_top_16 k_x0 ?_
    refine qn_bipush hX (pc := 19) dX8_top_19 (by decide) ?_
    refine qn_iload_n hX (pc := 21) dX8_top_21 1 rfl rfl ?_
    obtain ⟨v5, e_v5, r_v5, h⟩ := ckI_e h
    refine qn_iadd hX (pc := 22) dX8_top_22 e_v5 ?_
    obtain ⟨v6, e_v6, b_v6, h⟩ := rdA_e h
    have r_v6 : in32 v6 := by rw [e_v6]; exact hR_m2.a (n := 684) _ (qr_800 hT k_x0) (by decide)
    refine qn_iald hX (pc := 23) 684 dX8_top_23 (qr_800 hT k_x0) (by decide) b_v6 e_v6 ?_
    refine qn_goto hX (pc := 24) 28 dX8_top_24 (by decide) ?_
    exact qn_iret hX (pc := 28) dX8_top_28 hE hR_m2 r_v6 (Option.some.inj h)
theorem k_X8_top (l : Launch) {G : qG} (hT : qT G) {N : Nat} {x0 : Nat} {x1 : Int} (k_x0 : gK G x0 = 9) (r_x1 : in32 x1) {m0 : qM} {r : Int} {nu : qM} (h : f_X8_top N G x0 x1 m0 = some (r, nu)) : qC l yX8_top wsX8_top 1 25 G [.ref x0, .int (iZ x1)] m0 (some (.int (iZ r))) (in32 r) nu := by
  refine qn_start (hy := by decide) hT (hw := rfl) (hn := Nat.le_of_ble_eq_true rfl) ?_
  intro X h1 h2 h3 h4 hX hR
  subst h4
  exact w_X8_top hX ⟨h1, fun q => h2 ▸ q, h3⟩ k_x0 r_x1 hR h
theorem dd_X8_top : yX8_top.cls = RX8 ∧ yX8_top.cls ≠ "java/lang/invoke/MethodHandle" ∧ yX8_top.cls ≠ "java/lang/invoke/VarHandle" ∧ (parseMethodDescriptor yX8_top.desc).map (fun d => d.parameters.length) = some 1 := by decide +kernel
-- ProRataMarketModel.trade
theorem hi_X8_trade_8 : ∀ w ∈ wsX80, w ∈ wsX8_trade := fun w h => List.mem_cons_of_mem _ (List.mem_append_right _ h)
theorem fp_X8_trade_45 : qFp RX8 wsX8_trade 45 8 4 0 804 .int := ⟨RX8, TX8, 32, _, tyX8, rfl, hi_X8_trade_8, by decide, (by decide +kernel : Cond.fieldLink RX8 45 (TX8 4).1 (TX8 4).2.1 (TX8 4).2.2.1 ∈ wsX8_trade), rfl, rfl, by decide, tyX8_ok, nmX8, rfl, by decide +kernel⟩
theorem fd_X8_trade_7 : qFd RX8 wsX8_trade 7 8 0 1 800 := ⟨RX8, TX8, 32, _, rfl, hi_X8_trade_8, by decide, (by decide +kernel : Cond.fieldLink RX8 7 (TX8 0).1 (TX8 0).2.1 (TX8 0).2.2.1 ∈ wsX8_trade), rfl, rfl, by decide⟩
set_option maxHeartbeats 4000000 in
set_option maxRecDepth 20000 in
theorem w_X8_trade {X : qB} {N : Nat} (hX : qOk X cX8_trade RX8 3 (some .int) wsX8_trade 1 25) {r : Int} {nu : qM} (hE : xr X = some (.int (iZ r)) ∧ (in32 r → xΦ X) ∧ xμ X = nu) 
    {x0 : Nat} {x1 : Int} {x2 : Int} (k_x0 : gK (xG X) x0 = 9) (r_x1 : in32 x1) (r_x2 : in32 x2) {m0 : qM} (hR_m0 : qR (xG X) m0)
    (h : f_X8_trade N (xG X)  x0 x1 x2 m0 = some (r, nu)) : qN X 3 0 [(0, .ref x0), (1, .int (iZ x1)), (2, .int (iZ x2))] [] m0 := by
  have hT := hX.T
  unfold f_X8_trade at h
  refine qn_aload_n hX (pc := 0) dX8_trade_0 0 rfl rfl ?_
  refine qn_iconst hX (pc := 1) dX8_trade_1 ?_
  obtain ⟨m1, e_m1, h⟩ := kp_e h
  refine qn_putI hX (pc := 2) fp_X8_trade_45 dX8_trade_2 k_x0 hR_m0 (show in32 0 by decide) e_m1 (fun hR_m1 => ?_) 
  refine qn_iload_n hX (pc := 5) dX8_trade_5 1 rfl rfl ?_
  refine qn_i2l hX (pc := 6) r_x1 dX8_trade_6 ?_
  refine qn_lconst hX (pc := 7) 0 dX8_trade_7 (by decide) ?_
  refine qn_aload_n hX (pc := 8) dX8_trade_8 0 rfl rfl ?_
  refine qn_getR hX (pc := 9) fd_X8_trade_7 dX8_trade_9 k_x0 ?_
  refine qn_bipush hX (pc := 12) dX8_trade_12 (by decide) ?_
  refine qn_iald hX (pc := 14) (v := gA m1 (gR (xG X) 800 x0) 10) 684 dX8_trade_14 (qr_800 hT k_x0) (by decide) (by decide) rfl ?_
  refine qn_iconst hX (pc := 15) dX8_trade_15 ?_
  obtain ⟨v2, e_v2, r_v2, h⟩ := ckI_e h
  refine qn_isub hX (pc := 16) dX8_trade_16 e_v2 ?_
  refine qn_i2l hX (pc := 17) r_v2 dX8_trade_17 ?_
  obtain ⟨v4, m3, e_m3, h⟩ := kb2_e h
  refine qn_callSi hX (pc := 18) [.long (lZ x1), .long (lZ 0), .long (lZ v2)] [.long (lZ v2), .long (lZ 0), .long (lZ x1)] 3 dX8_trade_18 gX8_trade_X8_within rfl dd_X8_within ⟨rfl, rfl⟩ rfl rfl rfl hR_m1 (k_X8_within (xl X) hT (in32.l r_x1) (by decide) (in32.l r_v2) e_m3) (fun r_v4 hR_m3 => ?_)
  refine qn_if_eq hX (pc := 21) r_v4.i 53 dX8_trade_21 (by decide) (fun c5 => ?_) (fun c5 => ?_)
  · have h := ite_t h c5
    refine qn_iconst hX (pc := 53) dX8_trade_53 ?_
    exact qn_iret hX (pc := 54) dX8_trade_54 hE hR_m3 (by decide) (Option.some.inj h)
  · have h := ite_f h c5
    refine qn_iload_n hX (pc := 24) dX8_trade_24 2 rfl rfl ?_
    refine qn_i2l hX (pc := 25) r_x2 dX8_trade_25 ?_
    refine qn_lconst hX (pc := 26) 0 dX8_trade_26 (by decide) ?_
    refine qn_ldc2 hX (pc := 27) 4 dX8_trade_27 (by decide +kernel : Cond.constantLong RX8 262 (4) ∈ wsX8_trade) (by decide) ?_
    obtain ⟨v7, m6, e_m6, h⟩ := kb2_e h
    refine qn_callSi hX (pc := 30) [.long (lZ x2), .long (lZ 0), .long (lZ 4)] [.long (lZ 4), .long (lZ 0), .long (lZ x2)] 3 dX8_trade_30 gX8_trade_X8_within rfl dd_X8_within ⟨rfl, rfl⟩ rfl rfl rfl hR_m3 (k_X8_within (xl X) hT (in32.l r_x2) (by decide) (by decide) e_m6) (fun r_v7 hR_m6 => ?_)
    refine qn_if_eq hX (pc := 33) r_v7.i 53 dX8_trade_33 (by decide) (fun c8 => ?_) (fun c8 => ?_)
    · have h := ite_t h c8
      refine qn_iconst hX (pc := 53) dX8_trade_53 ?_
      exact qn_iret hX (pc := 54) dX8_trade_54 hE hR_m6 (by decide) (Option.some.inj h)
    · have h := ite_f h c8
      refine qn_aload_n hX (pc := 36) dX8_trade_36 0 rfl rfl ?_
      refine qn_getR hX (pc := 37) fd_X8_trade_7 dX8_trade_37 k_x0 ?_
      refine qn_sipush hX (pc := 40) dX8_trade_40 (by decide) ?_
      refine qn_iconst hX (pc := 43) dX8_trade_43 ?_
      refine qn_iload_n hX (pc := 44) dX8_trade_44 1 rfl rfl ?_
      obtain ⟨v9, e_v9, r_v9, h⟩ := ckI_e h
      refine qn_imul hX (pc := 45) dX8_trade_45 e_v9 ?_
      obtain ⟨v10, e_v10, r_v10, h⟩ := ckI_e h
      refine qn_iadd hX (pc := 46) dX8_trade_46 e_v10 ?_
      refine qn_iload_n hX (pc := 47) dX8_trade_47 2 rfl rfl ?_
      obtain ⟨v11, e_v11, r_v11, h⟩ := ckI_e h
      refine qn_iadd hX (pc := 48) dX8_trade_48 e_v11 ?_
      obtain ⟨v12, e_v12, b_v12, h⟩ := rdA_e h
      have r_v12 : in32 v12 := by rw [e_v12]; exact hR_m6.a (n := 684) _ (qr_800 hT k_x0) (by decide)
      refine qn_iald hX (pc := 49) 684 dX8_trade_49 (qr_800 hT k_x0) (by decide) b_v12 e_v12 ?_
      refine qn_goto hX (pc := 50) 54 dX8_trade_50 (by decide) ?_
      exact qn_iret hX (pc := 54) dX8_trade_54 hE hR_m6 r_v12 (Option.some.inj h)
theorem k_X8_trade (l : Launch) {G : qG} (hT : qT G) {N : Nat} {x0 : Nat} {x1 : Int} {x2 : Int} (k_x0 : gK G x0 = 9) (r_x1 : in32 x1) (r_x2 : in32 x2) {m0 : qM} {r : Int} {nu : qM} (h : f_X8_trade N G x0 x1 x2 m0 = some (r, nu)) : qC l yX8_trade wsX8_trade 1 25 G [.ref x0, .int (iZ x1), .int (iZ x2)] m0 (some (.int (iZ r))) (in32 r) nu := by
  refine qn_start (hy := by decide) hT (hw := rfl) (hn := Nat.le_of_ble_eq_true rfl) ?_
  intro X h1 h2 h3 h4 hX hR
  subst h4
  exact w_X8_trade hX ⟨h1, fun q => h2 ▸ q, h3⟩ k_x0 r_x1 r_x2 hR h
theorem dd_X8_trade : yX8_trade.cls = RX8 ∧ yX8_trade.cls ≠ "java/lang/invoke/MethodHandle" ∧ yX8_trade.cls ≠ "java/lang/invoke/VarHandle" ∧ (parseMethodDescriptor yX8_trade.desc).map (fun d => d.parameters.length) = some 2 := by decide +kernel
-- ProRataMarketModel.worth
theorem hi_X8_worth_8 : ∀ w ∈ wsX80, w ∈ wsX8_worth := fun w h => List.mem_cons_of_mem _ (List.mem_append_right _ h)
theorem fp_X8_worth_45 : qFp RX8 wsX8_worth 45 8 4 0 804 .int := ⟨RX8, TX8, 32, _, tyX8, rfl, hi_X8_worth_8, by decide, (by decide +kernel : Cond.fieldLink RX8 45 (TX8 4).1 (TX8 4).2.1 (TX8 4).2.2.1 ∈ wsX8_worth), rfl, rfl, by decide, tyX8_ok, nmX8, rfl, by decide +kernel⟩
theorem fd_X8_worth_96 : qFd RX8 wsX8_worth 96 8 16 2 816 := ⟨RX8, TX8, 32, _, rfl, hi_X8_worth_8, by decide, (by decide +kernel : Cond.fieldLink RX8 96 (TX8 16).1 (TX8 16).2.1 (TX8 16).2.2.1 ∈ wsX8_worth), rfl, rfl, by decide⟩
set_option maxHeartbeats 4000000 in
set_option maxRecDepth 20000 in
theorem w_X8_worth {X : qB} {N : Nat} (hX : qOk X cX8_worth RX8 7 (some .long) wsX8_worth 6 150) {r : Int} {nu : qM} (hE : xr X = some (.long (lZ r)) ∧ (in64 r → xΦ X) ∧ xμ X = nu) 
    {x0 : Nat} {x1 : Int} {x2 : Int} {x3 : Int} {x4 : Int} {x5 : Int} (k_x0 : gK (xG X) x0 = 9) (r_x1 : in32 x1) (r_x2 : in32 x2) (r_x3 : in32 x3) (r_x4 : in32 x4) (r_x5 : in32 x5) {m0 : qM} (hR_m0 : qR (xG X) m0)
    (h : f_X8_worth N (xG X)  x0 x1 x2 x3 x4 x5 m0 = some (r, nu)) : qN X 7 0 [(0, .ref x0), (1, .int (iZ x1)), (2, .int (iZ x2)), (3, .int (iZ x3)), (4, .int (iZ x4)), (5, .int (iZ x5))] [] m0 := by
  have hT := hX.T
  unfold f_X8_worth at h
  refine qn_aload_n hX (pc := 0) dX8_worth_0 0 rfl rfl ?_
  refine qn_iconst hX (pc := 1) dX8_worth_1 ?_
  obtain ⟨m1, e_m1, h⟩ := kp_e h
  refine qn_putI hX (pc := 2) fp_X8_worth_45 dX8_worth_2 k_x0 hR_m0 (show in32 0 by decide) e_m1 (fun hR_m1 => ?_) 
  refine qn_iload_n hX (pc := 5) dX8_worth_5 1 rfl rfl ?_
  refine qn_iload_n hX (pc := 6) dX8_worth_6 2 rfl rfl ?_
  refine qn_iload_n hX (pc := 7) dX8_worth_7 3 rfl rfl ?_
  refine qn_iload hX (pc := 8) dX8_worth_8 4 rfl ?_
  refine qn_iload hX (pc := 10) dX8_worth_10 5 rfl ?_
  obtain ⟨v3, m2, e_m2, h⟩ := kb2_e h
  refine qn_callSi hX (pc := 12) [.int (iZ x1), .int (iZ x2), .int (iZ x3), .int (iZ x4), .int (iZ x5)] [.int (iZ x5), .int (iZ x4), .int (iZ x3), .int (iZ x2), .int (iZ x1)] 5 dX8_worth_12 gX8_worth_X8_isOrder rfl dd_X8_isOrder ⟨rfl, rfl⟩ rfl rfl rfl hR_m1 (k_X8_isOrder (xl X) hT r_x1 r_x2 r_x3 r_x4 r_x5 e_m2) (fun r_v3 hR_m2 => ?_)
  refine qn_if_eq hX (pc := 15) r_v3.i 27 dX8_worth_15 (by decide) (fun c4 => ?_) (fun c4 => ?_)
  · have h := ite_t h c4
    refine qn_ldc2 hX (pc := 27) (-1) dX8_worth_27 (by decide +kernel : Cond.constantLong RX8 71 (-1) ∈ wsX8_worth) (by decide) ?_
    exact qn_lret hX (pc := 30) dX8_worth_30 hE hR_m2 (by decide) (Option.some.inj h)
  · have h := ite_f h c4
    refine qn_iload_n hX (pc := 18) dX8_worth_18 3 rfl rfl ?_
    refine qn_iload hX (pc := 19) dX8_worth_19 4 rfl ?_
    obtain ⟨v6, m5, e_m5, h⟩ := kb2_e h
    refine qn_callSi hX (pc := 21) [.int (iZ x3), .int (iZ x4)] [.int (iZ x4), .int (iZ x3)] 2 dX8_worth_21 gX8_worth_X8_isInt rfl dd_X8_isInt ⟨rfl, rfl⟩ rfl rfl rfl hR_m2 (k_X8_isInt (xl X) hT r_x3 r_x4 e_m5) (fun r_v6 hR_m5 => ?_)
    refine qn_if_ne hX (pc := 24) r_v6.i 31 dX8_worth_24 (by decide) (fun c7 => ?_) (fun c7 => ?_)
    · have h := ite_f h c7
      refine qn_aload_n hX (pc := 31) dX8_worth_31 0 rfl rfl ?_
      obtain ⟨m8, e_m8, h⟩ := kb_e h
      refine qn_callVv hX (pc := 32) [] [] 0 dX8_worth_32 gX8_worth_X8_putsAside rfl dd_X8_putsAside ⟨rfl, rfl⟩ rfl rfl (by decide) k_x0 rfl rfl hR_m5 (k_X8_putsAside (xl X) hT k_x0 e_m8) (fun r_v9 hR_m8 => ?_)
      refine qn_aload_n hX (pc := 35) dX8_worth_35 0 rfl rfl ?_
      refine qn_iload_n hX (pc := 36) dX8_worth_36 1 rfl rfl ?_
      refine qn_iload_n hX (pc := 37) dX8_worth_37 2 rfl rfl ?_
      refine qn_iload_n hX (pc := 38) dX8_worth_38 3 rfl rfl ?_
      refine qn_iload hX (pc := 39) dX8_worth_39 4 rfl ?_
      refine qn_iload hX (pc := 41) dX8_worth_41 5 rfl ?_
      obtain ⟨v11, m10, e_m10, h⟩ := kb2_e h
      refine qn_callVi hX (pc := 43) [.int (iZ x1), .int (iZ x2), .int (iZ x3), .int (iZ x4), .int (iZ x5)] [.int (iZ x5), .int (iZ x4), .int (iZ x3), .int (iZ x2), .int (iZ x1)] 5 dX8_worth_43 gX8_worth_X8_trading rfl dd_X8_trading ⟨rfl, rfl⟩ rfl rfl (by decide) k_x0 rfl rfl hR_m8 (k_X8_trading (xl X) hT k_x0 r_x1 r_x2 r_x3 r_x4 r_x5 e_m10) (fun r_v11 hR_m10 => ?_)
      refine qn_istore hX (pc := 46) (ls' := [(6, .int (iZ v11)), (0, .ref x0), (1, .int (iZ x1)), (2, .int (iZ x2)), (3, .int (iZ x3)), (4, .int (iZ x4)), (5, .int (iZ x5))]) dX8_worth_46 rfl rfl ?_
      refine qn_aload_n hX (pc := 48) dX8_worth_48 1 rfl rfl ?_
      obtain ⟨m12, e_m12, h⟩ := kb_e h
      refine qn_callVv hX (pc := 49) [] [] 0 dX8_worth_49 gX8_worth_X8_putsBack rfl dd_X8_putsBack ⟨rfl, rfl⟩ rfl rfl (by decide) k_x0 rfl rfl hR_m10 (k_X8_putsBack (xl X) hT k_x0 e_m12) (fun r_v13 hR_m12 => ?_)
      refine qn_iload hX (pc := 52) dX8_worth_52 0 rfl ?_
      refine qn_if_lt hX (pc := 54) r_v11 64 dX8_worth_54 (by decide) (fun c14 => ?_) (fun c14 => ?_)
      · have h := ite_t h c14
        refine qn_ldc2 hX (pc := 64) (-1) dX8_worth_64 (by decide +kernel : Cond.constantLong RX8 71 (-1) ∈ wsX8_worth) (by decide) ?_
        exact qn_lret hX (pc := 67) dX8_worth_67 hE hR_m12 (by decide) (Option.some.inj h)
      · have h := ite_f h c14
        refine qn_aload_n hX (pc := 57) dX8_worth_57 1 rfl rfl ?_
        refine qn_getJ hX (pc := 58) fd_X8_worth_96 dX8_worth_58 k_x0 ?_
        refine qn_goto hX (pc := 61) 67 dX8_worth_61 (by decide) ?_
        exact qn_lret hX (pc := 67) dX8_worth_67 hE hR_m12 (hR_m12.jj 816 _ rfl) (Option.some.inj h)
    · have h := ite_t h c7
      refine qn_ldc2 hX (pc := 27) (-1) dX8_worth_27 (by decide +kernel : Cond.constantLong RX8 71 (-1) ∈ wsX8_worth) (by decide) ?_
      exact qn_lret hX (pc := 30) dX8_worth_30 hE hR_m5 (by decide) (Option.some.inj h)
theorem k_X8_worth (l : Launch) {G : qG} (hT : qT G) {N : Nat} {x0 : Nat} {x1 : Int} {x2 : Int} {x3 : Int} {x4 : Int} {x5 : Int} (k_x0 : gK G x0 = 9) (r_x1 : in32 x1) (r_x2 : in32 x2) (r_x3 : in32 x3) (r_x4 : in32 x4) (r_x5 : in32 x5) {m0 : qM} {r : Int} {nu : qM} (h : f_X8_worth N G x0 x1 x2 x3 x4 x5 m0 = some (r, nu)) : qC l yX8_worth wsX8_worth 6 150 G [.ref x0, .int (iZ x1), .int (iZ x2), .int (iZ x3), .int (iZ x4), .int (iZ x5)] m0 (some (.long (lZ r))) (in64 r) nu := by
  refine qn_start (hy := by decide) hT (hw := rfl) (hn := Nat.le_of_ble_eq_true rfl) ?_
  intro X h1 h2 h3 h4 hX hR
  subst h4
  exact w_X8_worth hX ⟨h1, fun q => h2 ▸ q, h3⟩ k_x0 r_x1 r_x2 r_x3 r_x4 r_x5 hR h
theorem dd_X8_worth : yX8_worth.cls = RX8 ∧ yX8_worth.cls ≠ "java/lang/invoke/MethodHandle" ∧ yX8_worth.cls ≠ "java/lang/invoke/VarHandle" ∧ (parseMethodDescriptor yX8_worth.desc).map (fun d => d.parameters.length) = some 5 := by decide +kernel
-- ProRataMarketModel.would
theorem hi_X8_would_8 : ∀ w ∈ wsX80, w ∈ wsX8_would := fun w h => List.mem_cons_of_mem _ (List.mem_append_right _ h)
theorem fp_X8_would_45 : qFp RX8 wsX8_would 45 8 4 0 804 .int := ⟨RX8, TX8, 32, _, tyX8, rfl, hi_X8_would_8, by decide, (by decide +kernel : Cond.fieldLink RX8 45 (TX8 4).1 (TX8 4).2.1 (TX8 4).2.2.1 ∈ wsX8_would), rfl, rfl, by decide, tyX8_ok, nmX8, rfl, by decide +kernel⟩
theorem fd_X8_would_123 : qFd RX8 wsX8_would 123 8 17 0 817 := ⟨RX8, TX8, 32, _, rfl, hi_X8_would_8, by decide, (by decide +kernel : Cond.fieldLink RX8 123 (TX8 17).1 (TX8 17).2.1 (TX8 17).2.2.1 ∈ wsX8_would), rfl, rfl, by decide⟩
theorem fd_X8_would_93 : qFd RX8 wsX8_would 93 8 15 0 815 := ⟨RX8, TX8, 32, _, rfl, hi_X8_would_8, by decide, (by decide +kernel : Cond.fieldLink RX8 93 (TX8 15).1 (TX8 15).2.1 (TX8 15).2.2.1 ∈ wsX8_would), rfl, rfl, by decide⟩
theorem fd_X8_would_90 : qFd RX8 wsX8_would 90 8 14 0 814 := ⟨RX8, TX8, 32, _, rfl, hi_X8_would_8, by decide, (by decide +kernel : Cond.fieldLink RX8 90 (TX8 14).1 (TX8 14).2.1 (TX8 14).2.2.1 ∈ wsX8_would), rfl, rfl, by decide⟩
set_option maxHeartbeats 4000000 in
set_option maxRecDepth 20000 in
theorem w_X8_would {X : qB} {N : Nat} (hX : qOk X cX8_would RX8 8 (some .int) wsX8_would 6 150) {r : Int} {nu : qM} (hE : xr X = some (.int (iZ r)) ∧ (in32 r → xΦ X) ∧ xμ X = nu) 
    {x0 : Nat} {x1 : Int} {x2 : Int} {x3 : Int} {x4 : Int} {x5 : Int} {x6 : Int} (k_x0 : gK (xG X) x0 = 9) (r_x1 : in32 x1) (r_x2 : in32 x2) (r_x3 : in32 x3) (r_x4 : in32 x4) (r_x5 : in32 x5) (r_x6 : in32 x6) {m0 : qM} (hR_m0 : qR (xG X) m0)
    (h : f_X8_would N (xG X)  x0 x1 x2 x3 x4 x5 x6 m0 = some (r, nu)) : qN X 8 0 [(0, .ref x0), (1, .int (iZ x1)), (2, .int (iZ x2)), (3, .int (iZ x3)), (4, .int (iZ x4)), (5, .int (iZ x5)), (6, .int (iZ x6))] [] m0 := by
  have hT := hX.T
  unfold f_X8_would at h
  refine qn_aload_n hX (pc := 0) dX8_would_0 0 rfl rfl ?_
  refine qn_iconst hX (pc := 1) dX8_would_1 ?_
  obtain ⟨m1, e_m1, h⟩ := kp_e h
  refine qn_putI hX (pc := 2) fp_X8_would_45 dX8_would_2 k_x0 hR_m0 (show in32 0 by decide) e_m1 (fun hR_m1 => ?_) 
  refine qn_iload_n hX (pc := 5) dX8_would_5 1 rfl rfl ?_
  refine qn_iload_n hX (pc := 6) dX8_would_6 2 rfl rfl ?_
  refine qn_iload_n hX (pc := 7) dX8_would_7 3 rfl rfl ?_
  refine qn_iload hX (pc := 8) dX8_would_8 4 rfl ?_
  refine qn_iload hX (pc := 10) dX8_would_10 5 rfl ?_
  obtain ⟨v3, m2, e_m2, h⟩ := kb2_e h
  refine qn_callSi hX (pc := 12) [.int (iZ x1), .int (iZ x2), .int (iZ x3), .int (iZ x4), .int (iZ x5)] [.int (iZ x5), .int (iZ x4), .int (iZ x3), .int (iZ x2), .int (iZ x1)] 5 dX8_would_12 gX8_would_X8_isOrder rfl dd_X8_isOrder ⟨rfl, rfl⟩ rfl rfl rfl hR_m1 (k_X8_isOrder (xl X) hT r_x1 r_x2 r_x3 r_x4 r_x5 e_m2) (fun r_v3 hR_m2 => ?_)
  refine qn_if_eq hX (pc := 15) r_v3.i 40 dX8_would_15 (by decide) (fun c4 => ?_) (fun c4 => ?_)
  · have h := ite_t h c4
    refine qn_iconst hX (pc := 40) dX8_would_40 ?_
    exact qn_iret hX (pc := 41) dX8_would_41 hE hR_m2 (by decide) (Option.some.inj h)
  · have h := ite_f h c4
    refine qn_iload_n hX (pc := 18) dX8_would_18 3 rfl rfl ?_
    refine qn_iload hX (pc := 19) dX8_would_19 4 rfl ?_
    obtain ⟨v6, m5, e_m5, h⟩ := kb2_e h
    refine qn_callSi hX (pc := 21) [.int (iZ x3), .int (iZ x4)] [.int (iZ x4), .int (iZ x3)] 2 dX8_would_21 gX8_would_X8_isInt rfl dd_X8_isInt ⟨rfl, rfl⟩ rfl rfl rfl hR_m2 (k_X8_isInt (xl X) hT r_x3 r_x4 e_m5) (fun r_v6 hR_m5 => ?_)
    refine qn_if_eq hX (pc := 24) r_v6.i 40 dX8_would_24 (by decide) (fun c7 => ?_) (fun c7 => ?_)
    · have h := ite_t h c7
      refine qn_iconst hX (pc := 40) dX8_would_40 ?_
      exact qn_iret hX (pc := 41) dX8_would_41 hE hR_m5 (by decide) (Option.some.inj h)
    · have h := ite_f h c7
      refine qn_iload hX (pc := 27) dX8_would_27 6 rfl ?_
      refine qn_i2l hX (pc := 29) r_x6 dX8_would_29 ?_
      refine qn_lconst hX (pc := 30) 0 dX8_would_30 (by decide) ?_
      refine qn_ldc2 hX (pc := 31) 3 dX8_would_31 (by decide +kernel : Cond.constantLong RX8 166 (3) ∈ wsX8_would) (by decide) ?_
      obtain ⟨v9, m8, e_m8, h⟩ := kb2_e h
      refine qn_callSi hX (pc := 34) [.long (lZ x6), .long (lZ 0), .long (lZ 3)] [.long (lZ 3), .long (lZ 0), .long (lZ x6)] 3 dX8_would_34 gX8_would_X8_within rfl dd_X8_within ⟨rfl, rfl⟩ rfl rfl rfl hR_m5 (k_X8_within (xl X) hT (in32.l r_x6) (by decide) (by decide) e_m8) (fun r_v9 hR_m8 => ?_)
      refine qn_if_ne hX (pc := 37) r_v9.i 42 dX8_would_37 (by decide) (fun c10 => ?_) (fun c10 => ?_)
      · have h := ite_f h c10
        refine qn_aload_n hX (pc := 42) dX8_would_42 0 rfl rfl ?_
        obtain ⟨m11, e_m11, h⟩ := kb_e h
        refine qn_callVv hX (pc := 43) [] [] 0 dX8_would_43 gX8_would_X8_putsAside rfl dd_X8_putsAside ⟨rfl, rfl⟩ rfl rfl (by decide) k_x0 rfl rfl hR_m8 (k_X8_putsAside (xl X) hT k_x0 e_m11) (fun r_v12 hR_m11 => ?_)
        refine qn_aload_n hX (pc := 46) dX8_would_46 0 rfl rfl ?_
        refine qn_iload_n hX (pc := 47) dX8_would_47 1 rfl rfl ?_
        refine qn_iload_n hX (pc := 48) dX8_would_48 2 rfl rfl ?_
        refine qn_iload_n hX (pc := 49) dX8_would_49 3 rfl rfl ?_
        refine qn_iload hX (pc := 50) dX8_would_50 4 rfl ?_
        refine qn_iload hX (pc := 52) dX8_would_52 5 rfl ?_
        obtain ⟨v14, m13, e_m13, h⟩ := kb2_e h
        refine qn_callVi hX (pc := 54) [.int (iZ x1), .int (iZ x2), .int (iZ x3), .int (iZ x4), .int (iZ x5)] [.int (iZ x5), .int (iZ x4), .int (iZ x3), .int (iZ x2), .int (iZ x1)] 5 dX8_would_54 gX8_would_X8_trading rfl dd_X8_trading ⟨rfl, rfl⟩ rfl rfl (by decide) k_x0 rfl rfl hR_m11 (k_X8_trading (xl X) hT k_x0 r_x1 r_x2 r_x3 r_x4 r_x5 e_m13) (fun r_v14 hR_m13 => ?_)
        refine qn_istore hX (pc := 57) (ls' := [(7, .int (iZ v14)), (0, .ref x0), (1, .int (iZ x1)), (2, .int (iZ x2)), (3, .int (iZ x3)), (4, .int (iZ x4)), (5, .int (iZ x5)), (6, .int (iZ x6))]) dX8_would_57 rfl rfl ?_
        refine qn_aload_n hX (pc := 59) dX8_would_59 1 rfl rfl ?_
        obtain ⟨m15, e_m15, h⟩ := kb_e h
        refine qn_callVv hX (pc := 60) [] [] 0 dX8_would_60 gX8_would_X8_putsBack rfl dd_X8_putsBack ⟨rfl, rfl⟩ rfl rfl (by decide) k_x0 rfl rfl hR_m13 (k_X8_putsBack (xl X) hT k_x0 e_m15) (fun r_v16 hR_m15 => ?_)
        refine qn_iload hX (pc := 63) dX8_would_63 7 rfl ?_
        refine qn_if_ne hX (pc := 65) r_x6 75 dX8_would_65 (by decide) (fun c17 => ?_) (fun c17 => ?_)
        · have h := ite_f h c17
          refine qn_iload hX (pc := 75) dX8_would_75 7 rfl ?_
          refine qn_iconst hX (pc := 77) dX8_would_77 ?_
          refine qn_icmp_ne hX (pc := 78) r_x6 (by decide) 86 dX8_would_78 (by decide) (fun c18 => ?_) (fun c18 => ?_)
          · have h := ite_f h c18
            refine qn_iload hX (pc := 86) dX8_would_86 7 rfl ?_
            refine qn_iconst hX (pc := 88) dX8_would_88 ?_
            refine qn_icmp_ne hX (pc := 89) r_x6 (by decide) 99 dX8_would_89 (by decide) (fun c19 => ?_) (fun c19 => ?_)
            · have h := ite_f h c19
              refine qn_aload_n hX (pc := 99) dX8_would_99 1 rfl rfl ?_
              refine qn_getI hX (pc := 100) fd_X8_would_123 dX8_would_100 k_x0 ?_
              exact qn_iret hX (pc := 103) dX8_would_103 hE hR_m15 (hR_m15.i 817 _ rfl) (Option.some.inj h)
            · have h := ite_t h c19
              refine qn_aload_n hX (pc := 92) dX8_would_92 1 rfl rfl ?_
              refine qn_getI hX (pc := 93) fd_X8_would_93 dX8_would_93 k_x0 ?_
              refine qn_goto hX (pc := 96) 103 dX8_would_96 (by decide) ?_
              exact qn_iret hX (pc := 103) dX8_would_103 hE hR_m15 (hR_m15.i 815 _ rfl) (Option.some.inj h)
          · have h := ite_t h c18
            refine qn_iload hX (pc := 81) dX8_would_81 0 rfl ?_
            refine qn_goto hX (pc := 83) 103 dX8_would_83 (by decide) ?_
            exact qn_iret hX (pc := 103) dX8_would_103 hE hR_m15 r_v14 (Option.some.inj h)
        · have h := ite_t h c17
          refine qn_aload_n hX (pc := 68) dX8_would_68 1 rfl rfl ?_
          refine qn_getI hX (pc := 69) fd_X8_would_90 dX8_would_69 k_x0 ?_
          refine qn_goto hX (pc := 72) 103 dX8_would_72 (by decide) ?_
          exact qn_iret hX (pc := 103) dX8_would_103 hE hR_m15 (hR_m15.i 814 _ rfl) (Option.some.inj h)
      · have h := ite_t h c10
        refine qn_iconst hX (pc := 40) dX8_would_40 ?_
        exact qn_iret hX (pc := 41) dX8_would_41 hE hR_m8 (by decide) (Option.some.inj h)
theorem k_X8_would (l : Launch) {G : qG} (hT : qT G) {N : Nat} {x0 : Nat} {x1 : Int} {x2 : Int} {x3 : Int} {x4 : Int} {x5 : Int} {x6 : Int} (k_x0 : gK G x0 = 9) (r_x1 : in32 x1) (r_x2 : in32 x2) (r_x3 : in32 x3) (r_x4 : in32 x4) (r_x5 : in32 x5) (r_x6 : in32 x6) {m0 : qM} {r : Int} {nu : qM} (h : f_X8_would N G x0 x1 x2 x3 x4 x5 x6 m0 = some (r, nu)) : qC l yX8_would wsX8_would 6 150 G [.ref x0, .int (iZ x1), .int (iZ x2), .int (iZ x3), .int (iZ x4), .int (iZ x5), .int (iZ x6)] m0 (some (.int (iZ r))) (in32 r) nu := by
  refine qn_start (hy := by decide) hT (hw := rfl) (hn := Nat.le_of_ble_eq_true rfl) ?_
  intro X h1 h2 h3 h4 hX hR
  subst h4
  exact w_X8_would hX ⟨h1, fun q => h2 ▸ q, h3⟩ k_x0 r_x1 r_x2 r_x3 r_x4 r_x5 r_x6 hR h
theorem dd_X8_would : yX8_would.cls = RX8 ∧ yX8_would.cls ≠ "java/lang/invoke/MethodHandle" ∧ yX8_would.cls ≠ "java/lang/invoke/VarHandle" ∧ (parseMethodDescriptor yX8_would.desc).map (fun d => d.parameters.length) = some 6 := by decide +kernel
