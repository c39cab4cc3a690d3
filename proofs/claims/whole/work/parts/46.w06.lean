-- ProRataMarket$Tape.readLine
theorem hi_X6_readLine_6 : ∀ w ∈ wsX60, w ∈ wsX6_readLine := fun w h => List.mem_cons_of_mem _ (List.mem_append_right _ h)
theorem fp_X6_readLine_34 : qFp RX6 wsX6_readLine 34 6 7 0 607 .boolean := ⟨RX6, TX6, 12, _, tyX6, rfl, hi_X6_readLine_6, by decide, (by decide +kernel : Cond.fieldLink RX6 34 (TX6 7).1 (TX6 7).2.1 (TX6 7).2.2.1 ∈ wsX6_readLine), rfl, rfl, by decide, tyX6_ok, nmX6, rfl, by decide +kernel⟩
theorem fd_X6_readLine_34 : qFd RX6 wsX6_readLine 34 6 7 0 607 := ⟨RX6, TX6, 12, _, rfl, hi_X6_readLine_6, by decide, (by decide +kernel : Cond.fieldLink RX6 34 (TX6 7).1 (TX6 7).2.1 (TX6 7).2.2.1 ∈ wsX6_readLine), rfl, rfl, by decide⟩
theorem fd_X6_readLine_59 : qFd RX6 wsX6_readLine 59 6 4 0 604 := ⟨RX6, TX6, 12, _, rfl, hi_X6_readLine_6, by decide, (by decide +kernel : Cond.fieldLink RX6 59 (TX6 4).1 (TX6 4).2.1 (TX6 4).2.2.1 ∈ wsX6_readLine), rfl, rfl, by decide⟩
theorem fp_X6_readLine_56 : qFp RX6 wsX6_readLine 56 6 10 0 610 .int := ⟨RX6, TX6, 12, _, tyX6, rfl, hi_X6_readLine_6, by decide, (by decide +kernel : Cond.fieldLink RX6 56 (TX6 10).1 (TX6 10).2.1 (TX6 10).2.2.1 ∈ wsX6_readLine), rfl, rfl, by decide, tyX6_ok, nmX6, rfl, by decide +kernel⟩
theorem fd_X6_readLine_56 : qFd RX6 wsX6_readLine 56 6 10 0 610 := ⟨RX6, TX6, 12, _, rfl, hi_X6_readLine_6, by decide, (by decide +kernel : Cond.fieldLink RX6 56 (TX6 10).1 (TX6 10).2.1 (TX6 10).2.2.1 ∈ wsX6_readLine), rfl, rfl, by decide⟩
theorem fp_X6_readLine_45 : qFp RX6 wsX6_readLine 45 6 8 0 608 .int := ⟨RX6, TX6, 12, _, tyX6, rfl, hi_X6_readLine_6, by decide, (by decide +kernel : Cond.fieldLink RX6 45 (TX6 8).1 (TX6 8).2.1 (TX6 8).2.2.1 ∈ wsX6_readLine), rfl, rfl, by decide, tyX6_ok, nmX6, rfl, by decide +kernel⟩
theorem fd_X6_readLine_45 : qFd RX6 wsX6_readLine 45 6 8 0 608 := ⟨RX6, TX6, 12, _, rfl, hi_X6_readLine_6, by decide, (by decide +kernel : Cond.fieldLink RX6 45 (TX6 8).1 (TX6 8).2.1 (TX6 8).2.2.1 ∈ wsX6_readLine), rfl, rfl, by decide⟩
set_option maxHeartbeats 4000000 in
set_option maxRecDepth 20000 in
theorem w_X6_readLine_137 {X : qB} {N : Nat} (hX : qOk X cX6_readLine RX6 1 (some .boolean) wsX6_readLine 6 156) {r : Int} {nu : qM} (hE : xr X = some (.int (iZ r)) ∧ (in01 r → xΦ X) ∧ xμ X = nu) 
      {m0 : qM} (hR_m0 : qR (xG X) m0)
    (h : f_X6_readLine_137 N (xG X)   m0 = some (r, nu)) : qN X 1 137 [] [] m0 := by
  have hT := hX.T
  unfold f_X6_readLine_137 at h
  refine qn_iconst hX (pc := 137) dX6_readLine_137 ?_
  refine qn_goto hX (pc := 138) 142 dX6_readLine_138 (by decide) ?_
  exact qn_zret hX (pc := 142) dX6_readLine_142 hE hR_m0 (by decide) (Option.some.inj h)
set_option maxHeartbeats 4000000 in
set_option maxRecDepth 20000 in
theorem w_X6_readLine_112 {X : qB} {N : Nat} (hX : qOk X cX6_readLine RX6 1 (some .boolean) wsX6_readLine 6 156) {r : Int} {nu : qM} (hE : xr X = some (.int (iZ r)) ∧ (in01 r → xΦ X) ∧ xμ X = nu) 
    {x0 : Nat} {s0 : Nat} {s1 : Int} (k_x0 : gK (xG X) x0 = 7) (k_s0 : gK (xG X) s0 = 7) (b_s1 : in01 s1) {m0 : qM} (hR_m0 : qR (xG X) m0)
    (h : f_X6_readLine_112 N (xG X)  x0 s0 s1 m0 = some (r, nu)) : qN X 1 112 [(0, .ref x0)] [.int (iZ s1), .ref s0] m0 := by
  have hT := hX.T
  unfold f_X6_readLine_112 at h
  obtain ⟨m1, e_m1, h⟩ := kp_e h
  refine qn_putZ hX (pc := 112) fp_X6_readLine_34 dX6_readLine_112 k_s0 hR_m0 b_s1 b_s1 e_m1 (fun hR_m1 => ?_) 
  refine qn_aload_n hX (pc := 115) dX6_readLine_115 0 rfl rfl ?_
  refine qn_getI hX (pc := 116) fd_X6_readLine_34 dX6_readLine_116 k_x0 ?_
  refine qn_if_ne hX (pc := 119) ((hR_m1.zz 607 _ rfl).i) 137 dX6_readLine_119 (by decide) (fun c2 => ?_) (fun c2 => ?_)
  · have h := ite_f h c2
    refine qn_sub (ls' := []) [] rfl ?_
    exact w_X6_readLine_137 hX hE   hR_m1 h
  · have h := ite_t h c2
    refine qn_aload_n hX (pc := 122) dX6_readLine_122 0 rfl rfl ?_
    refine qn_getI hX (pc := 123) fd_X6_readLine_59 dX6_readLine_123 k_x0 ?_
    refine qn_if_eq hX (pc := 126) (hR_m1.i 604 _ rfl) 137 dX6_readLine_126 (by decide) (fun c3 => ?_) (fun c3 => ?_)
    · have h := ite_t h c3
      refine qn_sub (ls' := []) [] rfl ?_
      exact w_X6_readLine_137 hX hE   hR_m1 h
    · have h := ite_f h c3
      refine qn_aload_n hX (pc := 129) dX6_readLine_129 0 rfl rfl ?_
      refine qn_iconst hX (pc := 130) dX6_readLine_130 ?_
      obtain ⟨v5, m4, e_m4, h⟩ := kb2_e h
      refine qn_callVi hX (pc := 131) [.int (iZ 1)] [.int (iZ 1)] 1 dX6_readLine_131 gX6_readLine_X6_failBy rfl dd_X6_failBy ⟨rfl, rfl⟩ rfl rfl (by decide) k_x0 rfl rfl hR_m1 (k_X6_failBy (xl X) hT k_x0 (by decide) e_m4) (fun r_v5 hR_m4 => ?_)
      refine qn_if_eq hX (pc := 134) r_v5.i 141 dX6_readLine_134 (by decide) (fun c6 => ?_) (fun c6 => ?_)
      · have h := ite_t h c6
        refine qn_iconst hX (pc := 141) dX6_readLine_141 ?_
        exact qn_zret hX (pc := 142) dX6_readLine_142 hE hR_m4 (by decide) (Option.some.inj h)
      · have h := ite_f h c6
        refine qn_sub (ls' := []) [] rfl ?_
        exact w_X6_readLine_137 hX hE   hR_m4 h
set_option maxHeartbeats 4000000 in
set_option maxRecDepth 20000 in
theorem w_X6_readLine_98 {X : qB} {N : Nat} (hX : qOk X cX6_readLine RX6 1 (some .boolean) wsX6_readLine 6 156) {r : Int} {nu : qM} (hE : xr X = some (.int (iZ r)) ∧ (in01 r → xΦ X) ∧ xμ X = nu) 
    {x0 : Nat} (k_x0 : gK (xG X) x0 = 7) {m0 : qM} (hR_m0 : qR (xG X) m0)
    (h : f_X6_readLine_98 N (xG X)  x0 m0 = some (r, nu)) : qN X 1 98 [(0, .ref x0)] [] m0 := by
  have hT := hX.T
  unfold f_X6_readLine_98 at h
  refine qn_aload_n hX (pc := 98) dX6_readLine_98 0 rfl rfl ?_
  refine qn_aload_n hX (pc := 99) dX6_readLine_99 0 rfl rfl ?_
  refine qn_getI hX (pc := 100) fd_X6_readLine_59 dX6_readLine_100 k_x0 ?_
  refine qn_iconst hX (pc := 103) dX6_readLine_103 ?_
  refine qn_icmp_ne hX (pc := 104) (hR_m0.i 604 _ rfl) (by decide) 111 dX6_readLine_104 (by decide) (fun c1 => ?_) (fun c1 => ?_)
  · have h := ite_f h c1
    refine qn_iconst hX (pc := 111) dX6_readLine_111 ?_
    refine qn_sub (ls' := [(0, .ref x0)]) [0] rfl ?_
    exact w_X6_readLine_112 hX hE  k_x0 k_x0 (by decide) hR_m0 h
  · have h := ite_t h c1
    refine qn_iconst hX (pc := 107) dX6_readLine_107 ?_
    refine qn_goto hX (pc := 108) 112 dX6_readLine_108 (by decide) ?_
    refine qn_sub (ls' := [(0, .ref x0)]) [0] rfl ?_
    exact w_X6_readLine_112 hX hE  k_x0 k_x0 (by decide) hR_m0 h
set_option maxHeartbeats 4000000 in
set_option maxRecDepth 20000 in
theorem w_X6_readLine_62 {X : qB} {N : Nat} (hX : qOk X cX6_readLine RX6 1 (some .boolean) wsX6_readLine 6 156) {r : Int} {nu : qM} (hE : xr X = some (.int (iZ r)) ∧ (in01 r → xΦ X) ∧ xμ X = nu) 
    {x0 : Nat} (k_x0 : gK (xG X) x0 = 7) {m0 : qM} (hR_m0 : qR (xG X) m0)
    (h : f_X6_readLine_62 N (xG X)  x0 m0 = some (r, nu)) : qN X 1 62 [(0, .ref x0)] [] m0 := by
  have hT := hX.T
  unfold f_X6_readLine_62 at h
  refine qn_aload_n hX (pc := 62) dX6_readLine_62 0 rfl rfl ?_
  refine qn_getI hX (pc := 63) fd_X6_readLine_59 dX6_readLine_63 k_x0 ?_
  refine qn_iconst hX (pc := 66) dX6_readLine_66 ?_
  refine qn_icmp_ne hX (pc := 67) (hR_m0.i 604 _ rfl) (by decide) 98 dX6_readLine_67 (by decide) (fun c1 => ?_) (fun c1 => ?_)
  · have h := ite_f h c1
    refine qn_sub (ls' := [(0, .ref x0)]) [0] rfl ?_
    exact w_X6_readLine_98 hX hE  k_x0 hR_m0 h
  · have h := ite_t h c1
    refine qn_aload_n hX (pc := 70) dX6_readLine_70 0 rfl rfl ?_
    refine qn_aload_n hX (pc := 71) dX6_readLine_71 0 rfl rfl ?_
    refine qn_iconst hX (pc := 72) dX6_readLine_72 ?_
    refine qn_iconst hX (pc := 73) dX6_readLine_73 ?_
    obtain ⟨v3, m2, e_m2, h⟩ := kb2_e h
    refine qn_callVi hX (pc := 74) [.int (iZ 4), .int (iZ 0)] [.int (iZ 0), .int (iZ 4)] 2 dX6_readLine_74 gX6_readLine_X6_wordIn rfl dd_X6_wordIn ⟨rfl, rfl⟩ rfl rfl (by decide) k_x0 rfl rfl hR_m0 (k_X6_wordIn (xl X) hT k_x0 (by decide) (by decide) e_m2) (fun r_v3 hR_m2 => ?_)
    obtain ⟨m4, e_m4, h⟩ := kp_e h
    refine qn_putI hX (pc := 77) fp_X6_readLine_56 dX6_readLine_77 k_x0 hR_m2 r_v3 e_m4 (fun hR_m4 => ?_) 
    refine qn_aload_n hX (pc := 80) dX6_readLine_80 0 rfl rfl ?_
    refine qn_getI hX (pc := 81) fd_X6_readLine_56 dX6_readLine_81 k_x0 ?_
    refine qn_iconst hX (pc := 84) dX6_readLine_84 ?_
    refine qn_icmp_ne hX (pc := 85) (hR_m4.i 610 _ rfl) (by decide) 94 dX6_readLine_85 (by decide) (fun c5 => ?_) (fun c5 => ?_)
    · have h := ite_f h c5
      refine qn_aload_n hX (pc := 94) dX6_readLine_94 0 rfl rfl ?_
      obtain ⟨m6, e_m6, h⟩ := kb_e h
      refine qn_callVv hX (pc := 95) [] [] 0 dX6_readLine_95 gX6_readLine_X6_readToken rfl dd_X6_readToken ⟨rfl, rfl⟩ rfl rfl (by decide) k_x0 rfl rfl hR_m4 (k_X6_readToken (xl X) hT k_x0 e_m6) (fun r_v7 hR_m6 => ?_)
      refine qn_sub (ls' := [(0, .ref x0)]) [0] rfl ?_
      exact w_X6_readLine_98 hX hE  k_x0 hR_m6 h
    · have h := ite_t h c5
      refine qn_aload_n hX (pc := 88) dX6_readLine_88 0 rfl rfl ?_
      refine qn_iconst hX (pc := 89) dX6_readLine_89 ?_
      obtain ⟨v9, m8, e_m8, h⟩ := kb2_e h
      refine qn_callVi hX (pc := 90) [.int (iZ 1)] [.int (iZ 1)] 1 dX6_readLine_90 gX6_readLine_X6_failBy rfl dd_X6_failBy ⟨rfl, rfl⟩ rfl rfl (by decide) k_x0 rfl rfl hR_m4 (k_X6_failBy (xl X) hT k_x0 (by decide) e_m8) (fun r_v9 hR_m8 => ?_)
      exact qn_zret hX (pc := 93) dX6_readLine_93 hE hR_m8 r_v9 (Option.some.inj h)
set_option maxHeartbeats 4000000 in
set_option maxRecDepth 20000 in
theorem w_X6_readLine {X : qB} {N : Nat} (hX : qOk X cX6_readLine RX6 1 (some .boolean) wsX6_readLine 6 156) {r : Int} {nu : qM} (hE : xr X = some (.int (iZ r)) ∧ (in01 r → xΦ X) ∧ xμ X = nu) 
    {x0 : Nat} (k_x0 : gK (xG X) x0 = 7) {m0 : qM} (hR_m0 : qR (xG X) m0)
    (h : f_X6_readLine N (xG X)  x0 m0 = some (r, nu)) : qN X 1 0 [(0, .ref x0)] [] m0 := by
  have hT := hX.T
  unfold f_X6_readLine at h
  refine qn_aload_n hX (pc := 0) dX6_readLine_0 0 rfl rfl ?_
  obtain ⟨m1, e_m1, h⟩ := kb_e h
  refine qn_callVv hX (pc := 1) [] [] 0 dX6_readLine_1 gX6_readLine_X6_readToken rfl dd_X6_readToken ⟨rfl, rfl⟩ rfl rfl (by decide) k_x0 rfl rfl hR_m0 (k_X6_readToken (xl X) hT k_x0 e_m1) (fun r_v2 hR_m1 => ?_)
  refine qn_aload_n hX (pc := 4) dX6_readLine_4 0 rfl rfl ?_
  refine qn_aload_n hX (pc := 5) dX6_readLine_5 0 rfl rfl ?_
  refine qn_bipush hX (pc := 6) dX6_readLine_6 (by decide) ?_
  refine qn_iconst hX (pc := 8) dX6_readLine_8 ?_
  obtain ⟨v4, m3, e_m3, h⟩ := kb2_e h
  refine qn_callVi hX (pc := 9) [.int (iZ 8), .int (iZ 1)] [.int (iZ 1), .int (iZ 8)] 2 dX6_readLine_9 gX6_readLine_X6_wordIn rfl dd_X6_wordIn ⟨rfl, rfl⟩ rfl rfl (by decide) k_x0 rfl rfl hR_m1 (k_X6_wordIn (xl X) hT k_x0 (by decide) (by decide) e_m3) (fun r_v4 hR_m3 => ?_)
  obtain ⟨m5, e_m5, h⟩ := kp_e h
  refine qn_putI hX (pc := 12) fp_X6_readLine_45 dX6_readLine_12 k_x0 hR_m3 r_v4 e_m5 (fun hR_m5 => ?_) 
  refine qn_aload_n hX (pc := 15) dX6_readLine_15 0 rfl rfl ?_
  refine qn_getI hX (pc := 16) fd_X6_readLine_45 dX6_readLine_16 k_x0 ?_
  refine qn_iconst hX (pc := 19) dX6_readLine_19 ?_
  refine qn_icmp_ne hX (pc := 20) (hR_m5.i 608 _ rfl) (by decide) 29 dX6_readLine_20 (by decide) (fun c6 => ?_) (fun c6 => ?_)
  · have h := ite_f h c6
    refine qn_aload_n hX (pc := 29) dX6_readLine_29 0 rfl rfl ?_
    obtain ⟨v8, m7, e_m7, h⟩ := kb2_e h
    refine qn_callVi hX (pc := 30) [] [] 0 dX6_readLine_30 gX6_readLine_X6_readNumbers rfl dd_X6_readNumbers ⟨rfl, rfl⟩ rfl rfl (by decide) k_x0 rfl rfl hR_m5 (k_X6_readNumbers (xl X) hT k_x0 e_m7) (fun r_v8 hR_m7 => ?_)
    refine qn_if_ne hX (pc := 33) r_v8.i 38 dX6_readLine_33 (by decide) (fun c9 => ?_) (fun c9 => ?_)
    · have h := ite_f h c9
      refine qn_aload_n hX (pc := 38) dX6_readLine_38 0 rfl rfl ?_
      obtain ⟨m10, e_m10, h⟩ := kb_e h
      refine qn_callVv hX (pc := 39) [] [] 0 dX6_readLine_39 gX6_readLine_X6_readToken rfl dd_X6_readToken ⟨rfl, rfl⟩ rfl rfl (by decide) k_x0 rfl rfl hR_m7 (k_X6_readToken (xl X) hT k_x0 e_m10) (fun r_v11 hR_m10 => ?_)
      refine qn_aload_n hX (pc := 42) dX6_readLine_42 0 rfl rfl ?_
      refine qn_iconst hX (pc := 43) dX6_readLine_43 ?_
      obtain ⟨m12, e_m12, h⟩ := kp_e h
      refine qn_putI hX (pc := 44) fp_X6_readLine_56 dX6_readLine_44 k_x0 hR_m10 (show in32 0 by decide) e_m12 (fun hR_m12 => ?_) 
      refine qn_aload_n hX (pc := 47) dX6_readLine_47 0 rfl rfl ?_
      refine qn_getI hX (pc := 48) fd_X6_readLine_45 dX6_readLine_48 k_x0 ?_
      refine qn_if_eq hX (pc := 51) (hR_m12.i 608 _ rfl) 62 dX6_readLine_51 (by decide) (fun c13 => ?_) (fun c13 => ?_)
      · have h := ite_t h c13
        refine qn_sub (ls' := [(0, .ref x0)]) [0] rfl ?_
        exact w_X6_readLine_62 hX hE  k_x0 hR_m12 h
      · have h := ite_f h c13
        refine qn_aload_n hX (pc := 54) dX6_readLine_54 0 rfl rfl ?_
        refine qn_getI hX (pc := 55) fd_X6_readLine_45 dX6_readLine_55 k_x0 ?_
        refine qn_iconst hX (pc := 58) dX6_readLine_58 ?_
        refine qn_icmp_ne hX (pc := 59) (hR_m12.i 608 _ rfl) (by decide) 98 dX6_readLine_59 (by decide) (fun c14 => ?_) (fun c14 => ?_)
        · have h := ite_f h c14
          refine qn_sub (ls' := [(0, .ref x0)]) [0] rfl ?_
          exact w_X6_readLine_98 hX hE  k_x0 hR_m12 h
        · have h := ite_t h c14
          refine qn_sub (ls' := [(0, .ref x0)]) [0] rfl ?_
          exact w_X6_readLine_62 hX hE  k_x0 hR_m12 h
    · have h := ite_t h c9
      refine qn_iconst hX (pc := 36) dX6_readLine_36 ?_
      exact qn_zret hX (pc := 37) dX6_readLine_37 hE hR_m7 (by decide) (Option.some.inj h)
  · have h := ite_t h c6
    refine qn_aload_n hX (pc := 23) dX6_readLine_23 0 rfl rfl ?_
    refine qn_iconst hX (pc := 24) dX6_readLine_24 ?_
    obtain ⟨v16, m15, e_m15, h⟩ := kb2_e h
    refine qn_callVi hX (pc := 25) [.int (iZ 1)] [.int (iZ 1)] 1 dX6_readLine_25 gX6_readLine_X6_failBy rfl dd_X6_failBy ⟨rfl, rfl⟩ rfl rfl (by decide) k_x0 rfl rfl hR_m5 (k_X6_failBy (xl X) hT k_x0 (by decide) e_m15) (fun r_v16 hR_m15 => ?_)
    exact qn_zret hX (pc := 28) dX6_readLine_28 hE hR_m15 r_v16 (Option.some.inj h)
theorem k_X6_readLine (l : Launch) {G : qG} (hT : qT G) {N : Nat} {x0 : Nat} (k_x0 : gK G x0 = 7) {m0 : qM} {r : Int} {nu : qM} (h : f_X6_readLine N G x0 m0 = some (r, nu)) : qC l yX6_readLine wsX6_readLine 6 156 G [.ref x0] m0 (some (.int (iZ r))) (in01 r) nu := by
  refine qn_start (hy := by decide) hT (hw := rfl) (hn := Nat.le_of_ble_eq_true rfl) ?_
  intro X h1 h2 h3 h4 hX hR
  subst h4
  exact w_X6_readLine hX ⟨h1, fun q => h2 ▸ q, h3⟩ k_x0 hR h
theorem dd_X6_readLine : yX6_readLine.cls = RX6 ∧ yX6_readLine.cls ≠ "java/lang/invoke/MethodHandle" ∧ yX6_readLine.cls ≠ "java/lang/invoke/VarHandle" ∧ (parseMethodDescriptor yX6_readLine.desc).map (fun d => d.parameters.length) = some 0 := by decide +kernel
-- ProRataMarket$Tape.rewind
theorem hi_X6_rewind_6 : ∀ w ∈ wsX60, w ∈ wsX6_rewind := fun w h => List.mem_cons_of_mem _ (List.mem_append_right _ h)
theorem fp_X6_rewind_28 : qFp RX6 wsX6_rewind 28 6 2 0 602 .int := ⟨RX6, TX6, 12, _, tyX6, rfl, hi_X6_rewind_6, by decide, (by decide +kernel : Cond.fieldLink RX6 28 (TX6 2).1 (TX6 2).2.1 (TX6 2).2.2.1 ∈ wsX6_rewind), rfl, rfl, by decide, tyX6_ok, nmX6, rfl, by decide +kernel⟩
theorem fp_X6_rewind_31 : qFp RX6 wsX6_rewind 31 6 3 0 603 .int := ⟨RX6, TX6, 12, _, tyX6, rfl, hi_X6_rewind_6, by decide, (by decide +kernel : Cond.fieldLink RX6 31 (TX6 3).1 (TX6 3).2.1 (TX6 3).2.2.1 ∈ wsX6_rewind), rfl, rfl, by decide, tyX6_ok, nmX6, rfl, by decide +kernel⟩
theorem fp_X6_rewind_34 : qFp RX6 wsX6_rewind 34 6 7 0 607 .boolean := ⟨RX6, TX6, 12, _, tyX6, rfl, hi_X6_rewind_6, by decide, (by decide +kernel : Cond.fieldLink RX6 34 (TX6 7).1 (TX6 7).2.1 (TX6 7).2.2.1 ∈ wsX6_rewind), rfl, rfl, by decide, tyX6_ok, nmX6, rfl, by decide +kernel⟩
set_option maxHeartbeats 4000000 in
set_option maxRecDepth 20000 in
theorem w_X6_rewind {X : qB} {N : Nat} (hX : qOk X cX6_rewind RX6 2 none wsX6_rewind 1 24) {r : qM} (hE : xr X = none ∧ (True → xΦ X) ∧ xμ X = r) 
    {x0 : Nat} {x1 : Int} (k_x0 : gK (xG X) x0 = 7) (r_x1 : in32 x1) {m0 : qM} (hR_m0 : qR (xG X) m0)
    (h : f_X6_rewind N (xG X)  x0 x1 m0 = some r) : qN X 2 0 [(0, .ref x0), (1, .int (iZ x1))] [] m0 := by
  have hT := hX.T
  unfold f_X6_rewind at h
  refine qn_aload_n hX (pc := 0) dX6_rewind_0 0 rfl rfl ?_
  refine qn_iload_n hX (pc := 1) dX6_rewind_1 1 rfl rfl ?_
  refine qn_sipush hX (pc := 2) dX6_rewind_2 (by decide) ?_
  obtain ⟨v1, e_v1, h⟩ := kp_e h
  have r_v1 : in32 v1 := by rw [e_v1]; exact in32_min r_x1 (by decide)
  refine qn_min hX (pc := 5) r_x1 (by decide) dX6_rewind_5 (by decide +kernel) (by decide +kernel) (by decide +kernel) (by decide +kernel) ⟨rfl, rfl⟩ e_v1 ?_
  obtain ⟨m2, e_m2, h⟩ := kp_e h
  refine qn_putI hX (pc := 8) fp_X6_rewind_28 dX6_rewind_8 k_x0 hR_m0 r_v1 e_m2 (fun hR_m2 => ?_) 
  refine qn_aload_n hX (pc := 11) dX6_rewind_11 0 rfl rfl ?_
  refine qn_iconst hX (pc := 12) dX6_rewind_12 ?_
  obtain ⟨m3, e_m3, h⟩ := kp_e h
  refine qn_putI hX (pc := 13) fp_X6_rewind_31 dX6_rewind_13 k_x0 hR_m2 (show in32 0 by decide) e_m3 (fun hR_m3 => ?_) 
  refine qn_aload_n hX (pc := 16) dX6_rewind_16 0 rfl rfl ?_
  refine qn_iconst hX (pc := 17) dX6_rewind_17 ?_
  obtain ⟨m4, e_m4, h⟩ := kp_e h
  refine qn_putZ hX (pc := 18) fp_X6_rewind_34 dX6_rewind_18 k_x0 hR_m3 (show in01 1 by decide) (by decide) e_m4 (fun hR_m4 => ?_) 
  exact qn_vret hX (pc := 21) dX6_rewind_21 hE hR_m4 (Option.some.inj h)
theorem k_X6_rewind (l : Launch) {G : qG} (hT : qT G) {N : Nat} {x0 : Nat} {x1 : Int} (k_x0 : gK G x0 = 7) (r_x1 : in32 x1) {m0 : qM} {r : qM} (h : f_X6_rewind N G x0 x1 m0 = some r) : qC l yX6_rewind wsX6_rewind 1 24 G [.ref x0, .int (iZ x1)] m0 none True r := by
  refine qn_start (hy := by decide) hT (hw := rfl) (hn := Nat.le_of_ble_eq_true rfl) ?_
  intro X h1 h2 h3 h4 hX hR
  subst h4
  exact w_X6_rewind hX ⟨h1, fun q => h2 ▸ q, h3⟩ k_x0 r_x1 hR h
theorem dd_X6_rewind : yX6_rewind.cls = RX6 ∧ yX6_rewind.cls ≠ "java/lang/invoke/MethodHandle" ∧ yX6_rewind.cls ≠ "java/lang/invoke/VarHandle" ∧ (parseMethodDescriptor yX6_rewind.desc).map (fun d => d.parameters.length) = some 1 := by decide +kernel
-- ProRataMarket.ahead
theorem hi_X7_ahead_7 : ∀ w ∈ wsX70, w ∈ wsX7_ahead := fun w h => List.mem_cons_of_mem _ (List.mem_append_left _ (List.mem_append_left _ (List.mem_append_left _ (List.mem_append_right _ h))))
theorem fd_X7_ahead_10 : qFd RX7 wsX7_ahead 10 7 0 1 700 := ⟨RX7, TX7, 3, _, rfl, hi_X7_ahead_7, by decide, (by decide +kernel : Cond.fieldLink RX7 10 (TX7 0).1 (TX7 0).2.1 (TX7 0).2.2.1 ∈ wsX7_ahead), rfl, rfl, by decide⟩
theorem hi_X7_ahead_2 : ∀ w ∈ wsX20, w ∈ wsX7_ahead := fun w h => List.mem_cons_of_mem _ (List.mem_append_left _ (List.mem_append_left _ (List.mem_append_right _ h)))
theorem fd_X7_ahead_105 : qFd RX7 wsX7_ahead 105 2 0 1 200 := ⟨RX2, TX2, 12, _, rfl, hi_X7_ahead_2, by decide, (by decide +kernel : Cond.fieldLink RX7 105 (TX2 0).1 (TX2 0).2.1 (TX2 0).2.2.1 ∈ wsX7_ahead), rfl, rfl, by decide⟩
set_option maxHeartbeats 4000000 in
set_option maxRecDepth 20000 in
theorem w_X7_ahead {X : qB} {N : Nat} (hX : qOk X cX7_ahead RX7 4 (some .int) wsX7_ahead 2 46) {r : Int} {nu : qM} (hE : xr X = some (.int (iZ r)) ∧ (in32 r → xΦ X) ∧ xμ X = nu) 
    {x0 : Nat} {x1 : Int} {x2 : Int} (k_x0 : gK (xG X) x0 = 8) (r_x1 : in32 x1) (r_x2 : in32 x2) {m0 : qM} (hR_m0 : qR (xG X) m0)
    (h : f_X7_ahead N (xG X)  x0 x1 x2 m0 = some (r, nu)) : qN X 4 0 [(0, .ref x0), (1, .int (iZ x1)), (2, .int (iZ x2))] [] m0 := by
  have hT := hX.T
  unfold f_X7_ahead at h
  refine qn_aload_n hX (pc := 0) dX7_ahead_0 0 rfl rfl ?_
  refine qn_getR hX (pc := 1) fd_X7_ahead_10 dX7_ahead_1 k_x0 ?_
  refine qn_getR hX (pc := 4) fd_X7_ahead_105 dX7_ahead_4 (qr_700 hT k_x0) ?_
  refine qn_iload_n hX (pc := 7) dX7_ahead_7 1 rfl rfl ?_
  obtain ⟨v2, m1, e_m1, h⟩ := kb2_e h
  refine qn_callVq hX (pc := 8) [.int (iZ x1)] [.int (iZ x1)] 1 dX7_ahead_8 gX7_ahead_X0_find rfl dd_X0_find ⟨rfl, rfl⟩ rfl rfl (by decide) (qr_200 hT (qr_700 hT k_x0)) rfl rfl hR_m0 (k_X0_find (xl X) hT (qr_200 hT (qr_700 hT k_x0)) r_x1 e_m1) (fun r_v2 hR_m1 => ?_)
  rcases v2 with _ | o3
  · try dsimp only at h
    refine qn_astore_nN hX (pc := 11) (ls' := [(3, .null), (0, .ref x0), (1, .int (iZ x1)), (2, .int (iZ x2))]) dX7_ahead_11 rfl rfl rfl ?_
    refine qn_aload_nN hX (pc := 12) dX7_ahead_12 0 rfl rfl ?_
    refine qn_ifnullN hX (pc := 13) 25 dX7_ahead_13 (by decide) ?_
    refine qn_iconst hX (pc := 25) dX7_ahead_25 ?_
    exact qn_iret hX (pc := 26) dX7_ahead_26 hE hR_m1 (by decide) (Option.some.inj h)
  · try dsimp only at h
    have k_o3 := r_v2 o3 rfl
    refine qn_astore_n hX (pc := 11) (ls' := [(3, .ref o3), (0, .ref x0), (1, .int (iZ x1)), (2, .int (iZ x2))]) dX7_ahead_11 rfl rfl rfl ?_
    refine qn_aload_n hX (pc := 12) dX7_ahead_12 0 rfl rfl ?_
    refine qn_ifnull hX (pc := 13) dX7_ahead_13 ?_
    refine qn_iload_n hX (pc := 16) dX7_ahead_16 3 rfl rfl ?_
    refine qn_if_lt hX (pc := 17) r_x2 25 dX7_ahead_17 (by decide) (fun c4 => ?_) (fun c4 => ?_)
    · have h := ite_t h c4
      refine qn_iconst hX (pc := 25) dX7_ahead_25 ?_
      exact qn_iret hX (pc := 26) dX7_ahead_26 hE hR_m1 (by decide) (Option.some.inj h)
    · have h := ite_f h c4
      refine qn_iload_n hX (pc := 20) dX7_ahead_20 3 rfl rfl ?_
      refine qn_iconst hX (pc := 21) dX7_ahead_21 ?_
      refine qn_icmp_le hX (pc := 22) r_x2 (by decide) 27 dX7_ahead_22 (by decide) (fun c5 => ?_) (fun c5 => ?_)
      · have h := ite_f h c5
        refine qn_iload_n hX (pc := 27) dX7_ahead_27 3 rfl rfl ?_
        refine qn_if_ne hX (pc := 28) r_x2 45 dX7_ahead_28 (by decide) (fun c6 => ?_) (fun c6 => ?_)
        · have h := ite_f h c6
          refine qn_aload_n hX (pc := 45) dX7_ahead_45 1 rfl rfl ?_
          refine qn_getR hX (pc := 46) fd_X7_ahead_10 dX7_ahead_46 k_x0 ?_
          refine qn_getR hX (pc := 49) fd_X7_ahead_105 dX7_ahead_49 (qr_700 hT k_x0) ?_
          refine qn_aload_n hX (pc := 52) dX7_ahead_52 0 rfl rfl ?_
          obtain ⟨v8, m7, e_m7, h⟩ := kb2_e h
          refine qn_callVi hX (pc := 53) [.ref o3] [.ref o3] 1 dX7_ahead_53 gX7_ahead_X0_betterSizes rfl dd_X0_betterSizes ⟨rfl, rfl⟩ rfl rfl (by decide) (qr_200 hT (qr_700 hT k_x0)) rfl rfl hR_m1 (k_X0_betterSizes (xl X) hT (qr_200 hT (qr_700 hT k_x0)) k_o3 e_m7) (fun r_v8 hR_m7 => ?_)
          exact qn_iret hX (pc := 56) dX7_ahead_56 hE hR_m7 r_v8 (Option.some.inj h)
        · have h := ite_t h c6
          refine qn_aload_n hX (pc := 31) dX7_ahead_31 1 rfl rfl ?_
          refine qn_getR hX (pc := 32) fd_X7_ahead_10 dX7_ahead_32 k_x0 ?_
          refine qn_getR hX (pc := 35) fd_X7_ahead_105 dX7_ahead_35 (qr_700 hT k_x0) ?_
          refine qn_aload_n hX (pc := 38) dX7_ahead_38 0 rfl rfl ?_
          obtain ⟨v10, m9, e_m9, h⟩ := kb2_e h
          refine qn_callVi hX (pc := 39) [.ref o3] [.ref o3] 1 dX7_ahead_39 gX7_ahead_X0_earlierSizes rfl dd_X0_earlierSizes ⟨rfl, rfl⟩ rfl rfl (by decide) (qr_200 hT (qr_700 hT k_x0)) rfl rfl hR_m1 (k_X0_earlierSizes (xl X) hT (qr_200 hT (qr_700 hT k_x0)) k_o3 e_m9) (fun r_v10 hR_m9 => ?_)
          refine qn_goto hX (pc := 42) 56 dX7_ahead_42 (by decide) ?_
          exact qn_iret hX (pc := 56) dX7_ahead_56 hE hR_m9 r_v10 (Option.some.inj h)
      · have h := ite_t h c5
        refine qn_iconst hX (pc := 25) dX7_ahead_25 ?_
        exact qn_iret hX (pc := 26) dX7_ahead_26 hE hR_m1 (by decide) (Option.some.inj h)
theorem k_X7_ahead (l : Launch) {G : qG} (hT : qT G) {N : Nat} {x0 : Nat} {x1 : Int} {x2 : Int} (k_x0 : gK G x0 = 8) (r_x1 : in32 x1) (r_x2 : in32 x2) {m0 : qM} {r : Int} {nu : qM} (h : f_X7_ahead N G x0 x1 x2 m0 = some (r, nu)) : qC l yX7_ahead wsX7_ahead 2 46 G [.ref x0, .int (iZ x1), .int (iZ x2)] m0 (some (.int (iZ r))) (in32 r) nu := by
  refine qn_start (hy := by decide) hT (hw := rfl) (hn := Nat.le_of_ble_eq_true rfl) ?_
  intro X h1 h2 h3 h4 hX hR
  subst h4
  exact w_X7_ahead hX ⟨h1, fun q => h2 ▸ q, h3⟩ k_x0 r_x1 r_x2 hR h
theorem dd_X7_ahead : yX7_ahead.cls = RX7 ∧ yX7_ahead.cls ≠ "java/lang/invoke/MethodHandle" ∧ yX7_ahead.cls ≠ "java/lang/invoke/VarHandle" ∧ (parseMethodDescriptor yX7_ahead.desc).map (fun d => d.parameters.length) = some 2 := by decide +kernel
-- ProRataMarket.call
theorem hi_X7_call_7 : ∀ w ∈ wsX70, w ∈ wsX7_call := fun w h => List.mem_cons_of_mem _ (List.mem_append_left _ (List.mem_append_left _ (List.mem_append_right _ h)))
theorem fd_X7_call_10 : qFd RX7 wsX7_call 10 7 0 1 700 := ⟨RX7, TX7, 3, _, rfl, hi_X7_call_7, by decide, (by decide +kernel : Cond.fieldLink RX7 10 (TX7 0).1 (TX7 0).2.1 (TX7 0).2.2.1 ∈ wsX7_call), rfl, rfl, by decide⟩
theorem hi_X7_call_2 : ∀ w ∈ wsX20, w ∈ wsX7_call := fun w h => List.mem_cons_of_mem _ (List.mem_append_left _ (List.mem_append_right _ h))
theorem fd_X7_call_131 : qFd RX7 wsX7_call 131 2 7 0 207 := ⟨RX2, TX2, 12, _, rfl, hi_X7_call_2, by decide, (by decide +kernel : Cond.fieldLink RX7 131 (TX2 7).1 (TX2 7).2.1 (TX2 7).2.2.1 ∈ wsX7_call), rfl, rfl, by decide⟩
theorem fp_X7_call_131 : qFp RX7 wsX7_call 131 2 7 0 207 .boolean := ⟨RX2, TX2, 12, _, tyX2, rfl, hi_X7_call_2, by decide, (by decide +kernel : Cond.fieldLink RX7 131 (TX2 7).1 (TX2 7).2.1 (TX2 7).2.2.1 ∈ wsX7_call), rfl, rfl, by decide, tyX2_ok, nmX2, rfl, by decide +kernel⟩
theorem fd_X7_call_105 : qFd RX7 wsX7_call 105 2 0 1 200 := ⟨RX2, TX2, 12, _, rfl, hi_X7_call_2, by decide, (by decide +kernel : Cond.fieldLink RX7 105 (TX2 0).1 (TX2 0).2.1 (TX2 0).2.2.1 ∈ wsX7_call), rfl, rfl, by decide⟩
set_option maxHeartbeats 4000000 in
set_option maxRecDepth 20000 in
theorem w_X7_call {X : qB} {N : Nat} (hX : qOk X cX7_call RX7 1 (some .boolean) wsX7_call 1 21) {r : Int} {nu : qM} (hE : xr X = some (.int (iZ r)) ∧ (in01 r → xΦ X) ∧ xμ X = nu) 
    {x0 : Nat} (k_x0 : gK (xG X) x0 = 8) {m0 : qM} (hR_m0 : qR (xG X) m0)
    (h : f_X7_call N (xG X)  x0 m0 = some (r, nu)) : qN X 1 0 [(0, .ref x0)] [] m0 := by
  have hT := hX.T
  unfold f_X7_call at h
  refine qn_aload_n hX (pc := 0) dX7_call_0 0 rfl rfl ?_
  refine qn_getR hX (pc := 1) fd_X7_call_10 dX7_call_1 k_x0 ?_
  refine qn_getI hX (pc := 4) fd_X7_call_131 dX7_call_4 (qr_700 hT k_x0) ?_
  refine qn_if_eq hX (pc := 7) ((hR_m0.zz 207 _ rfl).i) 12 dX7_call_7 (by decide) (fun c1 => ?_) (fun c1 => ?_)
  · have h := ite_t h c1
    refine qn_aload_n hX (pc := 12) dX7_call_12 0 rfl rfl ?_
    refine qn_getR hX (pc := 13) fd_X7_call_10 dX7_call_13 k_x0 ?_
    refine qn_iconst hX (pc := 16) dX7_call_16 ?_
    obtain ⟨m2, e_m2, h⟩ := kp_e h
    refine qn_putZ hX (pc := 17) fp_X7_call_131 dX7_call_17 (qr_700 hT k_x0) hR_m0 (show in01 1 by decide) (by decide) e_m2 (fun hR_m2 => ?_) 
    refine qn_aload_n hX (pc := 20) dX7_call_20 0 rfl rfl ?_
    refine qn_getR hX (pc := 21) fd_X7_call_10 dX7_call_21 k_x0 ?_
    refine qn_getR hX (pc := 24) fd_X7_call_105 dX7_call_24 (qr_700 hT k_x0) ?_
    obtain ⟨m3, e_m3, h⟩ := kb_e h
    refine qn_callVv hX (pc := 27) [] [] 0 dX7_call_27 gX7_call_X0_lapseAll rfl dd_X0_lapseAll ⟨rfl, rfl⟩ rfl rfl (by decide) (qr_200 hT (qr_700 hT k_x0)) rfl rfl hR_m2 (k_X0_lapseAll (xl X) hT (qr_200 hT (qr_700 hT k_x0)) e_m3) (fun r_v4 hR_m3 => ?_)
    refine qn_iconst hX (pc := 30) dX7_call_30 ?_
    exact qn_zret hX (pc := 31) dX7_call_31 hE hR_m3 (by decide) (Option.some.inj h)
  · have h := ite_f h c1
    refine qn_iconst hX (pc := 10) dX7_call_10 ?_
    exact qn_zret hX (pc := 11) dX7_call_11 hE hR_m0 (by decide) (Option.some.inj h)
theorem k_X7_call (l : Launch) {G : qG} (hT : qT G) {N : Nat} {x0 : Nat} (k_x0 : gK G x0 = 8) {m0 : qM} {r : Int} {nu : qM} (h : f_X7_call N G x0 m0 = some (r, nu)) : qC l yX7_call wsX7_call 1 21 G [.ref x0] m0 (some (.int (iZ r))) (in01 r) nu := by
  refine qn_start (hy := by decide) hT (hw := rfl) (hn := Nat.le_of_ble_eq_true rfl) ?_
  intro X h1 h2 h3 h4 hX hR
  subst h4
  exact w_X7_call hX ⟨h1, fun q => h2 ▸ q, h3⟩ k_x0 hR h
theorem dd_X7_call : yX7_call.cls = RX7 ∧ yX7_call.cls ≠ "java/lang/invoke/MethodHandle" ∧ yX7_call.cls ≠ "java/lang/invoke/VarHandle" ∧ (parseMethodDescriptor yX7_call.desc).map (fun d => d.parameters.length) = some 0 := by decide +kernel
-- ProRataMarket.clears
theorem hi_X7_clears_7 : ∀ w ∈ wsX70, w ∈ wsX7_clears := fun w h => List.mem_cons_of_mem _ (List.mem_append_left _ (List.mem_append_left _ (List.mem_append_left _ (List.mem_append_left _ (List.mem_append_left _ (List.mem_append_right _ h))))))
theorem fd_X7_clears_10 : qFd RX7 wsX7_clears 10 7 0 1 700 := ⟨RX7, TX7, 3, _, rfl, hi_X7_clears_7, by decide, (by decide +kernel : Cond.fieldLink RX7 10 (TX7 0).1 (TX7 0).2.1 (TX7 0).2.2.1 ∈ wsX7_clears), rfl, rfl, by decide⟩
theorem hi_X7_clears_2 : ∀ w ∈ wsX20, w ∈ wsX7_clears := fun w h => List.mem_cons_of_mem _ (List.mem_append_left _ (List.mem_append_left _ (List.mem_append_left _ (List.mem_append_left _ (List.mem_append_right _ h)))))
theorem fd_X7_clears_131 : qFd RX7 wsX7_clears 131 2 7 0 207 := ⟨RX2, TX2, 12, _, rfl, hi_X7_clears_2, by decide, (by decide +kernel : Cond.fieldLink RX7 131 (TX2 7).1 (TX2 7).2.1 (TX2 7).2.2.1 ∈ wsX7_clears), rfl, rfl, by decide⟩
theorem fd_X7_clears_252 : qFd RX7 wsX7_clears 252 2 3 1 203 := ⟨RX2, TX2, 12, _, rfl, hi_X7_clears_2, by decide, (by decide +kernel : Cond.fieldLink RX7 252 (TX2 3).1 (TX2 3).2.1 (TX2 3).2.2.1 ∈ wsX7_clears), rfl, rfl, by decide⟩
theorem fd_X7_clears_105 : qFd RX7 wsX7_clears 105 2 0 1 200 := ⟨RX2, TX2, 12, _, rfl, hi_X7_clears_2, by decide, (by decide +kernel : Cond.fieldLink RX7 105 (TX2 0).1 (TX2 0).2.1 (TX2 0).2.2.1 ∈ wsX7_clears), rfl, rfl, by decide⟩
theorem fd_X7_clears_224 : qFd RX7 wsX7_clears 224 2 1 1 201 := ⟨RX2, TX2, 12, _, rfl, hi_X7_clears_2, by decide, (by decide +kernel : Cond.fieldLink RX7 224 (TX2 1).1 (TX2 1).2.1 (TX2 1).2.2.1 ∈ wsX7_clears), rfl, rfl, by decide⟩
theorem hi_X7_clears_3 : ∀ w ∈ wsX30, w ∈ wsX7_clears := fun w h => List.mem_cons_of_mem _ (List.mem_append_left _ (List.mem_append_left _ (List.mem_append_left _ (List.mem_append_right _ h))))
theorem fd_X7_clears_237 : qFd RX7 wsX7_clears 237 3 3 0 303 := ⟨RX3, TX3, 7, _, rfl, hi_X7_clears_3, by decide, (by decide +kernel : Cond.fieldLink RX7 237 (TX3 3).1 (TX3 3).2.1 (TX3 3).2.2.1 ∈ wsX7_clears), rfl, rfl, by decide⟩
theorem hi_X7_clears_1 : ∀ w ∈ wsX10, w ∈ wsX7_clears := fun w h => List.mem_cons_of_mem _ (List.mem_append_left _ (List.mem_append_left _ (List.mem_append_right _ h)))
theorem fd_X7_clears_262 : qFd RX7 wsX7_clears 262 1 0 0 100 := ⟨RX1, TX1, 3, _, rfl, hi_X7_clears_1, by decide, (by decide +kernel : Cond.fieldLink RX7 262 (TX1 0).1 (TX1 0).2.1 (TX1 0).2.2.1 ∈ wsX7_clears), rfl, rfl, by decide⟩
theorem fd_X7_clears_263 : qFd RX7 wsX7_clears 263 1 1 0 101 := ⟨RX1, TX1, 3, _, rfl, hi_X7_clears_1, by decide, (by decide +kernel : Cond.fieldLink RX7 263 (TX1 1).1 (TX1 1).2.1 (TX1 1).2.2.1 ∈ wsX7_clears), rfl, rfl, by decide⟩
theorem fd_X7_clears_266 : qFd RX7 wsX7_clears 266 1 2 0 102 := ⟨RX1, TX1, 3, _, rfl, hi_X7_clears_1, by decide, (by decide +kernel : Cond.fieldLink RX7 266 (TX1 2).1 (TX1 2).2.1 (TX1 2).2.2.1 ∈ wsX7_clears), rfl, rfl, by decide⟩
set_option maxHeartbeats 4000000 in
set_option maxRecDepth 20000 in
theorem w_X7_clears {X : qB} {N : Nat} (hX : qOk X cX7_clears RX7 3 (some .int) wsX7_clears 4 99) {r : Int} {nu : qM} (hE : xr X = some (.int (iZ r)) ∧ (in32 r → xΦ X) ∧ xμ X = nu) 
    {x0 : Nat} {x1 : Int} (k_x0 : gK (xG X) x0 = 8) (r_x1 : in32 x1) {m0 : qM} (hR_m0 : qR (xG X) m0)
    (h : f_X7_clears N (xG X)  x0 x1 m0 = some (r, nu)) : qN X 3 0 [(0, .ref x0), (1, .int (iZ x1))] [] m0 := by
  have hT := hX.T
  unfold f_X7_clears at h
  refine qn_iload_n hX (pc := 0) dX7_clears_0 1 rfl rfl ?_
  refine qn_if_lt hX (pc := 1) r_x1 9 dX7_clears_1 (by decide) (fun c1 => ?_) (fun c1 => ?_)
  · have h := ite_t h c1
    refine qn_iconst hX (pc := 9) dX7_clears_9 ?_
    exact qn_iret hX (pc := 10) dX7_clears_10 hE hR_m0 (by decide) (Option.some.inj h)
  · have h := ite_f h c1
    refine qn_iload_n hX (pc := 4) dX7_clears_4 1 rfl rfl ?_
    refine qn_iconst hX (pc := 5) dX7_clears_5 ?_
    refine qn_icmp_le hX (pc := 6) r_x1 (by decide) 11 dX7_clears_6 (by decide) (fun c2 => ?_) (fun c2 => ?_)
    · have h := ite_f h c2
      refine qn_aload_n hX (pc := 11) dX7_clears_11 0 rfl rfl ?_
      refine qn_getR hX (pc := 12) fd_X7_clears_10 dX7_clears_12 k_x0 ?_
      refine qn_getI hX (pc := 15) fd_X7_clears_131 dX7_clears_15 (qr_700 hT k_x0) ?_
      refine qn_if_ne hX (pc := 18) ((hR_m0.zz 207 _ rfl).i) 23 dX7_clears_18 (by decide) (fun c3 => ?_) (fun c3 => ?_)
      · have h := ite_f h c3
        refine qn_aload_n hX (pc := 23) dX7_clears_23 0 rfl rfl ?_
        refine qn_getR hX (pc := 24) fd_X7_clears_10 dX7_clears_24 k_x0 ?_
        refine qn_getR hX (pc := 27) fd_X7_clears_252 dX7_clears_27 (qr_700 hT k_x0) ?_
        refine qn_astore_n hX (pc := 30) (ls' := [(2, .ref (gR (xG X) 203 (gR (xG X) 700 x0))), (0, .ref x0), (1, .int (iZ x1))]) dX7_clears_30 rfl rfl rfl ?_
        refine qn_aload_n hX (pc := 31) dX7_clears_31 0 rfl rfl ?_
        refine qn_aload_n hX (pc := 32) dX7_clears_32 1 rfl rfl ?_
        refine qn_getR hX (pc := 33) fd_X7_clears_10 dX7_clears_33 k_x0 ?_
        refine qn_getR hX (pc := 36) fd_X7_clears_105 dX7_clears_36 (qr_700 hT k_x0) ?_
        refine qn_aload_n hX (pc := 39) dX7_clears_39 1 rfl rfl ?_
        refine qn_getR hX (pc := 40) fd_X7_clears_10 dX7_clears_40 k_x0 ?_
        refine qn_getR hX (pc := 43) fd_X7_clears_224 dX7_clears_43 (qr_700 hT k_x0) ?_
        refine qn_getI hX (pc := 46) fd_X7_clears_237 dX7_clears_46 (qr_201 hT (qr_700 hT k_x0)) ?_
        obtain ⟨m4, e_m4, h⟩ := kb_e h
        refine qn_callVv hX (pc := 49) [.ref (gR (xG X) 200 (gR (xG X) 700 x0)), .int (iZ (gI m0 303 (gR (xG X) 201 (gR (xG X) 700 x0))))] [.int (iZ (gI m0 303 (gR (xG X) 201 (gR (xG X) 700 x0)))), .ref (gR (xG X) 200 (gR (xG X) 700 x0))] 2 dX7_clears_49 gX7_clears_X1_seek rfl dd_X1_seek ⟨rfl, rfl⟩ rfl rfl (by decide) (qr_203 hT (qr_700 hT k_x0)) rfl rfl hR_m0 (k_X1_seek (xl X) hT (qr_203 hT (qr_700 hT k_x0)) (qr_200 hT (qr_700 hT k_x0)) (hR_m0.i 303 _ rfl) e_m4) (fun r_v5 hR_m4 => ?_)
        refine qn_iload_n hX (pc := 52) dX7_clears_52 2 rfl rfl ?_
        by_cases c6 : x1 = 0
        · have h := ite_t h c6
          refine qn_lsw hX (pc := 53) r_x1 80 dX7_clears_53 rfl (by rw [c6] <;> rfl) (by decide) ?_
          refine qn_aload_n hX (pc := 80) dX7_clears_80 0 rfl rfl ?_
          refine qn_getI hX (pc := 81) fd_X7_clears_262 dX7_clears_81 (qr_203 hT (qr_700 hT k_x0)) ?_
          exact qn_iret hX (pc := 84) dX7_clears_84 hE hR_m4 (hR_m4.i 100 _ rfl) (Option.some.inj h)
        have h := ite_f h c6
        by_cases c7 : x1 = 1
        · have h := ite_t h c7
          refine qn_lsw hX (pc := 53) r_x1 85 dX7_clears_53 rfl (by rw [c7] <;> rfl) (by decide) ?_
          refine qn_aload_n hX (pc := 85) dX7_clears_85 0 rfl rfl ?_
          refine qn_getI hX (pc := 86) fd_X7_clears_263 dX7_clears_86 (qr_203 hT (qr_700 hT k_x0)) ?_
          exact qn_iret hX (pc := 89) dX7_clears_89 hE hR_m4 (hR_m4.i 101 _ rfl) (Option.some.inj h)
        have h := ite_f h c7
        refine qn_lsw hX (pc := 53) r_x1 90 dX7_clears_53 rfl (by simp [Op.lookupswitch.offset, Ne.symm (Ne.intro c6), Ne.symm (Ne.intro c7), c6, c7]; rfl) (by decide) ?_
        refine qn_aload_n hX (pc := 90) dX7_clears_90 0 rfl rfl ?_
        refine qn_getI hX (pc := 91) fd_X7_clears_266 dX7_clears_91 (qr_203 hT (qr_700 hT k_x0)) ?_
        exact qn_iret hX (pc := 94) dX7_clears_94 hE hR_m4 (hR_m4.i 102 _ rfl) (Option.some.inj h)
      · have h := ite_t h c3
        refine qn_iconst hX (pc := 21) dX7_clears_21 ?_
        exact qn_iret hX (pc := 22) dX7_clears_22 hE hR_m0 (by decide) (Option.some.inj h)
    · have h := ite_t h c2
      refine qn_iconst hX (pc := 9) dX7_clears_9 ?_
      exact qn_iret hX (pc := 10) dX7_clears_10 hE hR_m0 (by decide) (Option.some.inj h)
theorem k_X7_clears (l : Launch) {G : qG} (hT : qT G) {N : Nat} {x0 : Nat} {x1 : Int} (k_x0 : gK G x0 = 8) (r_x1 : in32 x1) {m0 : qM} {r : Int} {nu : qM} (h : f_X7_clears N G x0 x1 m0 = some (r, nu)) : qC l yX7_clears wsX7_clears 4 99 G [.ref x0, .int (iZ x1)] m0 (some (.int (iZ r))) (in32 r) nu := by
  refine qn_start (hy := by decide) hT (hw := rfl) (hn := Nat.le_of_ble_eq_true rfl) ?_
  intro X h1 h2 h3 h4 hX hR
  subst h4
  exact w_X7_clears hX ⟨h1, fun q => h2 ▸ q, h3⟩ k_x0 r_x1 hR h
theorem dd_X7_clears : yX7_clears.cls = RX7 ∧ yX7_clears.cls ≠ "java/lang/invoke/MethodHandle" ∧ yX7_clears.cls ≠ "java/lang/invoke/VarHandle" ∧ (parseMethodDescriptor yX7_clears.desc).map (fun d => d.parameters.length) = some 1 := by decide +kernel
-- ProRataMarket.count
theorem hi_X7_count_7 : ∀ w ∈ wsX70, w ∈ wsX7_count := fun w h => List.mem_cons_of_mem _ (List.mem_append_left _ (List.mem_append_left _ (List.mem_append_left _ (List.mem_append_left _ (List.mem_append_right _ h)))))
theorem fd_X7_count_10 : qFd RX7 wsX7_count 10 7 0 1 700 := ⟨RX7, TX7, 3, _, rfl, hi_X7_count_7, by decide, (by decide +kernel : Cond.fieldLink RX7 10 (TX7 0).1 (TX7 0).2.1 (TX7 0).2.2.1 ∈ wsX7_count), rfl, rfl, by decide⟩
theorem hi_X7_count_2 : ∀ w ∈ wsX20, w ∈ wsX7_count := fun w h => List.mem_cons_of_mem _ (List.mem_append_left _ (List.mem_append_left _ (List.mem_append_left _ (List.mem_append_right _ h))))
theorem fd_X7_count_105 : qFd RX7 wsX7_count 105 2 0 1 200 := ⟨RX2, TX2, 12, _, rfl, hi_X7_count_2, by decide, (by decide +kernel : Cond.fieldLink RX7 105 (TX2 0).1 (TX2 0).2.1 (TX2 0).2.2.1 ∈ wsX7_count), rfl, rfl, by decide⟩
theorem hi_X7_count_0 : ∀ w ∈ wsX00, w ∈ wsX7_count := fun w h => List.mem_cons_of_mem _ (List.mem_append_left _ (List.mem_append_left _ (List.mem_append_right _ h)))
theorem fd_X7_count_280 : qFd RX7 wsX7_count 280 0 1 0 1 := ⟨RX0, TX0, 4, _, rfl, hi_X7_count_0, by decide, (by decide +kernel : Cond.fieldLink RX7 280 (TX0 1).1 (TX0 1).2.1 (TX0 1).2.2.1 ∈ wsX7_count), rfl, rfl, by decide⟩
theorem fd_X7_count_131 : qFd RX7 wsX7_count 131 2 7 0 207 := ⟨RX2, TX2, 12, _, rfl, hi_X7_count_2, by decide, (by decide +kernel : Cond.fieldLink RX7 131 (TX2 7).1 (TX2 7).2.1 (TX2 7).2.2.1 ∈ wsX7_count), rfl, rfl, by decide⟩
theorem fd_X7_count_224 : qFd RX7 wsX7_count 224 2 1 1 201 := ⟨RX2, TX2, 12, _, rfl, hi_X7_count_2, by decide, (by decide +kernel : Cond.fieldLink RX7 224 (TX2 1).1 (TX2 1).2.1 (TX2 1).2.2.1 ∈ wsX7_count), rfl, rfl, by decide⟩
theorem hi_X7_count_3 : ∀ w ∈ wsX30, w ∈ wsX7_count := fun w h => List.mem_cons_of_mem _ (List.mem_append_left _ (List.mem_append_right _ h))
theorem fd_X7_count_237 : qFd RX7 wsX7_count 237 3 3 0 303 := ⟨RX3, TX3, 7, _, rfl, hi_X7_count_3, by decide, (by decide +kernel : Cond.fieldLink RX7 237 (TX3 3).1 (TX3 3).2.1 (TX3 3).2.2.1 ∈ wsX7_count), rfl, rfl, by decide⟩
theorem fd_X7_count_127 : qFd RX7 wsX7_count 127 2 5 0 205 := ⟨RX2, TX2, 12, _, rfl, hi_X7_count_2, by decide, (by decide +kernel : Cond.fieldLink RX7 127 (TX2 5).1 (TX2 5).2.1 (TX2 5).2.2.1 ∈ wsX7_count), rfl, rfl, by decide⟩
theorem fd_X7_count_129 : qFd RX7 wsX7_count 129 2 6 0 206 := ⟨RX2, TX2, 12, _, rfl, hi_X7_count_2, by decide, (by decide +kernel : Cond.fieldLink RX7 129 (TX2 6).1 (TX2 6).2.1 (TX2 6).2.2.1 ∈ wsX7_count), rfl, rfl, by decide⟩
theorem fd_X7_count_283 : qFd RX7 wsX7_count 283 2 8 0 208 := ⟨RX2, TX2, 12, _, rfl, hi_X7_count_2, by decide, (by decide +kernel : Cond.fieldLink RX7 283 (TX2 8).1 (TX2 8).2.1 (TX2 8).2.2.1 ∈ wsX7_count), rfl, rfl, by decide⟩
theorem fd_X7_count_22 : qFd RX7 wsX7_count 22 7 2 1 702 := ⟨RX7, TX7, 3, _, rfl, hi_X7_count_7, by decide, (by decide +kernel : Cond.fieldLink RX7 22 (TX7 2).1 (TX7 2).2.1 (TX7 2).2.2.1 ∈ wsX7_count), rfl, rfl, by decide⟩
theorem hi_X7_count_6 : ∀ w ∈ wsX60, w ∈ wsX7_count := fun w h => List.mem_cons_of_mem _ (List.mem_append_right _ h)
theorem fd_X7_count_26 : qFd RX7 wsX7_count 26 6 1 0 601 := ⟨RX6, TX6, 12, _, rfl, hi_X7_count_6, by decide, (by decide +kernel : Cond.fieldLink RX7 26 (TX6 1).1 (TX6 1).2.1 (TX6 1).2.2.1 ∈ wsX7_count), rfl, rfl, by decide⟩
theorem fd_X7_count_269 : qFd RX7 wsX7_count 269 3 1 0 301 := ⟨RX3, TX3, 7, _, rfl, hi_X7_count_3, by decide, (by decide +kernel : Cond.fieldLink RX7 269 (TX3 1).1 (TX3 1).2.1 (TX3 1).2.2.1 ∈ wsX7_count), rfl, rfl, by decide⟩
theorem fd_X7_count_228 : qFd RX7 wsX7_count 228 3 4 0 304 := ⟨RX3, TX3, 7, _, rfl, hi_X7_count_3, by decide, (by decide +kernel : Cond.fieldLink RX7 228 (TX3 4).1 (TX3 4).2.1 (TX3 4).2.2.1 ∈ wsX7_count), rfl, rfl, by decide⟩
theorem fd_X7_count_286 : qFd RX7 wsX7_count 286 2 9 0 209 := ⟨RX2, TX2, 12, _, rfl, hi_X7_count_2, by decide, (by decide +kernel : Cond.fieldLink RX7 286 (TX2 9).1 (TX2 9).2.1 (TX2 9).2.2.1 ∈ wsX7_count), rfl, rfl, by decide⟩
theorem fd_X7_count_243 : qFd RX7 wsX7_count 243 2 11 0 211 := ⟨RX2, TX2, 12, _, rfl, hi_X7_count_2, by decide, (by decide +kernel : Cond.fieldLink RX7 243 (TX2 11).1 (TX2 11).2.1 (TX2 11).2.2.1 ∈ wsX7_count), rfl, rfl, by decide⟩
set_option maxHeartbeats 4000000 in
set_option maxRecDepth 20000 in
theorem w_X7_count {X : qB} {N : Nat} (hX : qOk X cX7_count RX7 2 (some .int) wsX7_count 0 0) {r : Int} {nu : qM} (hE : xr X = some (.int (iZ r)) ∧ (in32 r → xΦ X) ∧ xμ X = nu) 
    {x0 : Nat} {x1 : Int} (k_x0 : gK (xG X) x0 = 8) (r_x1 : in32 x1) {m0 : qM} (hR_m0 : qR (xG X) m0)
    (h : f_X7_count N (xG X)  x0 x1 m0 = some (r, nu)) : qN X 2 0 [(0, .ref x0), (1, .int (iZ x1))] [] m0 := by
  have hT := hX.T
  unfold f_X7_count at h
  refine qn_iload_n hX (pc := 0) dX7_count_0 1 rfl rfl ?_
  by_cases c1 : x1 = 0
  · have h := ite_t h c1
    refine qn_tswIn hX (pc := 1) r_x1 60 dX7_count_1 0 c1 (by decide) rfl (by decide) ?_
    refine qn_aload_n hX (pc := 60) dX7_count_60 0 rfl rfl ?_
    refine qn_getR hX (pc := 61) fd_X7_count_10 dX7_count_61 k_x0 ?_
    refine qn_getR hX (pc := 64) fd_X7_count_105 dX7_count_64 (qr_700 hT k_x0) ?_
    refine qn_getI hX (pc := 67) fd_X7_count_280 dX7_count_67 (qr_200 hT (qr_700 hT k_x0)) ?_
    exact qn_iret hX (pc := 70) dX7_count_70 hE hR_m0 (hR_m0.i 1 _ rfl) (Option.some.inj h)
  have h := ite_f h c1
  by_cases c2 : x1 = 1
  · have h := ite_t h c2
    refine qn_tswIn hX (pc := 1) r_x1 71 dX7_count_1 1 c2 (by decide) rfl (by decide) ?_
    refine qn_aload_n hX (pc := 71) dX7_count_71 0 rfl rfl ?_
    refine qn_getR hX (pc := 72) fd_X7_count_10 dX7_count_72 k_x0 ?_
    refine qn_getI hX (pc := 75) fd_X7_count_131 dX7_count_75 (qr_700 hT k_x0) ?_
    refine qn_if_eq hX (pc := 78) ((hR_m0.zz 207 _ rfl).i) 85 dX7_count_78 (by decide) (fun c3 => ?_) (fun c3 => ?_)
    · have h := ite_t h c3
      refine qn_iconst hX (pc := 85) dX7_count_85 ?_
      exact qn_iret hX (pc := 86) dX7_count_86 hE hR_m0 (by decide) (Option.some.inj h)
    · have h := ite_f h c3
      refine qn_iconst hX (pc := 81) dX7_count_81 ?_
      refine qn_goto hX (pc := 82) 86 dX7_count_82 (by decide) ?_
      exact qn_iret hX (pc := 86) dX7_count_86 hE hR_m0 (by decide) (Option.some.inj h)
  have h := ite_f h c2
  by_cases c4 : x1 = 2
  · have h := ite_t h c4
    refine qn_tswIn hX (pc := 1) r_x1 87 dX7_count_1 2 c4 (by decide) rfl (by decide) ?_
    refine qn_aload_n hX (pc := 87) dX7_count_87 0 rfl rfl ?_
    refine qn_getR hX (pc := 88) fd_X7_count_10 dX7_count_88 k_x0 ?_
    refine qn_getR hX (pc := 91) fd_X7_count_224 dX7_count_91 (qr_700 hT k_x0) ?_
    refine qn_getI hX (pc := 94) fd_X7_count_237 dX7_count_94 (qr_201 hT (qr_700 hT k_x0)) ?_
    exact qn_iret hX (pc := 97) dX7_count_97 hE hR_m0 (hR_m0.i 303 _ rfl) (Option.some.inj h)
  have h := ite_f h c4
  by_cases c5 : x1 = 3
  · have h := ite_t h c5
    refine qn_tswIn hX (pc := 1) r_x1 98 dX7_count_1 3 c5 (by decide) rfl (by decide) ?_
    refine qn_aload_n hX (pc := 98) dX7_count_98 0 rfl rfl ?_
    refine qn_getR hX (pc := 99) fd_X7_count_10 dX7_count_99 k_x0 ?_
    refine qn_getI hX (pc := 102) fd_X7_count_127 dX7_count_102 (qr_700 hT k_x0) ?_
    exact qn_iret hX (pc := 105) dX7_count_105 hE hR_m0 (hR_m0.i 205 _ rfl) (Option.some.inj h)
  have h := ite_f h c5
  by_cases c6 : x1 = 4
  · have h := ite_t h c6
    refine qn_tswIn hX (pc := 1) r_x1 106 dX7_count_1 4 c6 (by decide) rfl (by decide) ?_
    refine qn_aload_n hX (pc := 106) dX7_count_106 0 rfl rfl ?_
    refine qn_getR hX (pc := 107) fd_X7_count_10 dX7_count_107 k_x0 ?_
    refine qn_getI hX (pc := 110) fd_X7_count_129 dX7_count_110 (qr_700 hT k_x0) ?_
    exact qn_iret hX (pc := 113) dX7_count_113 hE hR_m0 (hR_m0.i 206 _ rfl) (Option.some.inj h)
  have h := ite_f h c6
  by_cases c7 : x1 = 5
  · have h := ite_t h c7
    refine qn_tswIn hX (pc := 1) r_x1 114 dX7_count_1 5 c7 (by decide) rfl (by decide) ?_
    refine qn_aload_n hX (pc := 114) dX7_count_114 0 rfl rfl ?_
    refine qn_getR hX (pc := 115) fd_X7_count_10 dX7_count_115 k_x0 ?_
    refine qn_getI hX (pc := 118) fd_X7_count_283 dX7_count_118 (qr_700 hT k_x0) ?_
    exact qn_iret hX (pc := 121) dX7_count_121 hE hR_m0 (hR_m0.i 208 _ rfl) (Option.some.inj h)
  have h := ite_f h c7
  by_cases c8 : x1 = 6
  · have h := ite_t h c8
    refine qn_tswIn hX (pc := 1) r_x1 122 dX7_count_1 6 c8 (by decide) rfl (by decide) ?_
    refine qn_aload_n hX (pc := 122) dX7_count_122 0 rfl rfl ?_
    refine qn_getR hX (pc := 123) fd_X7_count_22 dX7_count_123 k_x0 ?_
    refine qn_getI hX (pc := 126) fd_X7_count_26 dX7_count_126 (qr_702 hT k_x0) ?_
    exact qn_iret hX (pc := 129) dX7_count_129 hE hR_m0 (hR_m0.i 601 _ rfl) (Option.some.inj h)
  have h := ite_f h c8
  by_cases c9 : x1 = 7
  · have h := ite_t h c9
    refine qn_tswIn hX (pc := 1) r_x1 130 dX7_count_1 7 c9 (by decide) rfl (by decide) ?_
    refine qn_aload_n hX (pc := 130) dX7_count_130 0 rfl rfl ?_
    refine qn_getR hX (pc := 131) fd_X7_count_10 dX7_count_131 k_x0 ?_
    refine qn_getR hX (pc := 134) fd_X7_count_224 dX7_count_134 (qr_700 hT k_x0) ?_
    refine qn_getI hX (pc := 137) fd_X7_count_269 dX7_count_137 (qr_201 hT (qr_700 hT k_x0)) ?_
    exact qn_iret hX (pc := 140) dX7_count_140 hE hR_m0 (hR_m0.i 301 _ rfl) (Option.some.inj h)
  have h := ite_f h c9
  by_cases c10 : x1 = 8
  · have h := ite_t h c10
    refine qn_tswIn hX (pc := 1) r_x1 141 dX7_count_1 8 c10 (by decide) rfl (by decide) ?_
    refine qn_aload_n hX (pc := 141) dX7_count_141 0 rfl rfl ?_
    refine qn_getR hX (pc := 142) fd_X7_count_10 dX7_count_142 k_x0 ?_
    refine qn_getR hX (pc := 145) fd_X7_count_224 dX7_count_145 (qr_700 hT k_x0) ?_
    refine qn_getI hX (pc := 148) fd_X7_count_228 dX7_count_148 (qr_201 hT (qr_700 hT k_x0)) ?_
    exact qn_iret hX (pc := 151) dX7_count_151 hE hR_m0 (hR_m0.i 304 _ rfl) (Option.some.inj h)
  have h := ite_f h c10
  by_cases c11 : x1 = 9
  · have h := ite_t h c11
    refine qn_tswIn hX (pc := 1) r_x1 152 dX7_count_1 9 c11 (by decide) rfl (by decide) ?_
    refine qn_aload_n hX (pc := 152) dX7_count_152 0 rfl rfl ?_
    refine qn_getR hX (pc := 153) fd_X7_count_10 dX7_count_153 k_x0 ?_
    refine qn_getI hX (pc := 156) fd_X7_count_286 dX7_count_156 (qr_700 hT k_x0) ?_
    exact qn_iret hX (pc := 159) dX7_count_159 hE hR_m0 (hR_m0.i 209 _ rfl) (Option.some.inj h)
  have h := ite_f h c11
  by_cases c12 : x1 = 10
  · have h := ite_t h c12
    refine qn_tswIn hX (pc := 1) r_x1 160 dX7_count_1 10 c12 (by decide) rfl (by decide) ?_
    refine qn_aload_n hX (pc := 160) dX7_count_160 0 rfl rfl ?_
    refine qn_getR hX (pc := 161) fd_X7_count_10 dX7_count_161 k_x0 ?_
    refine qn_getI hX (pc := 164) fd_X7_count_243 dX7_count_164 (qr_700 hT k_x0) ?_
    exact qn_iret hX (pc := 167) dX7_count_167 hE hR_m0 (hR_m0.i 211 _ rfl) (Option.some.inj h)
  have h := ite_f h c12
  refine qn_tswOut hX (pc := 1) r_x1 168 dX7_count_1 (by omega) (by decide) ?_
  refine qn_iconst hX (pc := 168) dX7_count_168 ?_
  exact qn_iret hX (pc := 169) dX7_count_169 hE hR_m0 (by decide) (Option.some.inj h)
theorem k_X7_count (l : Launch) {G : qG} (hT : qT G) {N : Nat} {x0 : Nat} {x1 : Int} (k_x0 : gK G x0 = 8) (r_x1 : in32 x1) {m0 : qM} {r : Int} {nu : qM} (h : f_X7_count N G x0 x1 m0 = some (r, nu)) : qC l yX7_count wsX7_count 0 0 G [.ref x0, .int (iZ x1)] m0 (some (.int (iZ r))) (in32 r) nu := by
  refine qn_start (hy := by decide) hT (hw := rfl) (hn := Nat.le_of_ble_eq_true rfl) ?_
  intro X h1 h2 h3 h4 hX hR
  subst h4
  exact w_X7_count hX ⟨h1, fun q => h2 ▸ q, h3⟩ k_x0 r_x1 hR h
theorem dd_X7_count : yX7_count.cls = RX7 ∧ yX7_count.cls ≠ "java/lang/invoke/MethodHandle" ∧ yX7_count.cls ≠ "java/lang/invoke/VarHandle" ∧ (parseMethodDescriptor yX7_count.desc).map (fun d => d.parameters.length) = some 1 := by decide +kernel
-- ProRataMarket.cut
theorem hi_X7_cut_7 : ∀ w ∈ wsX70, w ∈ wsX7_cut := fun w h => List.mem_cons_of_mem _ (List.mem_append_left _ (List.mem_append_left _ (List.mem_append_left _ (List.mem_append_right _ h))))
theorem fd_X7_cut_10 : qFd RX7 wsX7_cut 10 7 0 1 700 := ⟨RX7, TX7, 3, _, rfl, hi_X7_cut_7, by decide, (by decide +kernel : Cond.fieldLink RX7 10 (TX7 0).1 (TX7 0).2.1 (TX7 0).2.2.1 ∈ wsX7_cut), rfl, rfl, by decide⟩
theorem hi_X7_cut_2 : ∀ w ∈ wsX20, w ∈ wsX7_cut := fun w h => List.mem_cons_of_mem _ (List.mem_append_left _ (List.mem_append_left _ (List.mem_append_right _ h)))
theorem fd_X7_cut_105 : qFd RX7 wsX7_cut 105 2 0 1 200 := ⟨RX2, TX2, 12, _, rfl, hi_X7_cut_2, by decide, (by decide +kernel : Cond.fieldLink RX7 105 (TX2 0).1 (TX2 0).2.1 (TX2 0).2.2.1 ∈ wsX7_cut), rfl, rfl, by decide⟩
theorem hi_X7_cut_4 : ∀ w ∈ wsX40, w ∈ wsX7_cut := fun w h => List.mem_cons_of_mem _ (List.mem_append_left _ (List.mem_append_right _ h))
theorem fd_X7_cut_115 : qFd RX7 wsX7_cut 115 4 4 0 404 := ⟨RX4, TX4, 6, _, rfl, hi_X7_cut_4, by decide, (by decide +kernel : Cond.fieldLink RX7 115 (TX4 4).1 (TX4 4).2.1 (TX4 4).2.2.1 ∈ wsX7_cut), rfl, rfl, by decide⟩
theorem fp_X7_cut_115 : qFp RX7 wsX7_cut 115 4 4 0 404 .int := ⟨RX4, TX4, 6, _, tyX4, rfl, hi_X7_cut_4, by decide, (by decide +kernel : Cond.fieldLink RX7 115 (TX4 4).1 (TX4 4).2.1 (TX4 4).2.2.1 ∈ wsX7_cut), rfl, rfl, by decide, tyX4_ok, nmX4, rfl, by decide +kernel⟩
set_option maxHeartbeats 4000000 in
set_option maxRecDepth 20000 in
theorem w_X7_cut {X : qB} {N : Nat} (hX : qOk X cX7_cut RX7 5 (some .int) wsX7_cut 1 22) {r : Int} {nu : qM} (hE : xr X = some (.int (iZ r)) ∧ (in32 r → xΦ X) ∧ xμ X = nu) 
    {x0 : Nat} {x1 : Int} {x2 : Int} (k_x0 : gK (xG X) x0 = 8) (r_x1 : in32 x1) (r_x2 : in32 x2) {m0 : qM} (hR_m0 : qR (xG X) m0)
    (h : f_X7_cut N (xG X)  x0 x1 x2 m0 = some (r, nu)) : qN X 5 0 [(0, .ref x0), (1, .int (iZ x1)), (2, .int (iZ x2))] [] m0 := by
  have hT := hX.T
  unfold f_X7_cut at h
  refine qn_aload_n hX (pc := 0) dX7_cut_0 0 rfl rfl ?_
  refine qn_getR hX (pc := 1) fd_X7_cut_10 dX7_cut_1 k_x0 ?_
  refine qn_getR hX (pc := 4) fd_X7_cut_105 dX7_cut_4 (qr_700 hT k_x0) ?_
  refine qn_iload_n hX (pc := 7) dX7_cut_7 1 rfl rfl ?_
  obtain ⟨v2, m1, e_m1, h⟩ := kb2_e h
  refine qn_callVq hX (pc := 8) [.int (iZ x1)] [.int (iZ x1)] 1 dX7_cut_8 gX7_cut_X0_find rfl dd_X0_find ⟨rfl, rfl⟩ rfl rfl (by decide) (qr_200 hT (qr_700 hT k_x0)) rfl rfl hR_m0 (k_X0_find (xl X) hT (qr_200 hT (qr_700 hT k_x0)) r_x1 e_m1) (fun r_v2 hR_m1 => ?_)
  rcases v2 with _ | o3
  · try dsimp only at h
    refine qn_astore_nN hX (pc := 11) (ls' := [(3, .null), (0, .ref x0), (1, .int (iZ x1)), (2, .int (iZ x2))]) dX7_cut_11 rfl rfl rfl ?_
    refine qn_aload_nN hX (pc := 12) dX7_cut_12 0 rfl rfl ?_
    refine qn_ifnullN hX (pc := 13) 29 dX7_cut_13 (by decide) ?_
    refine qn_iconst hX (pc := 29) dX7_cut_29 ?_
    exact qn_iret hX (pc := 30) dX7_cut_30 hE hR_m1 (by decide) (Option.some.inj h)
  · try dsimp only at h
    have k_o3 := r_v2 o3 rfl
    refine qn_astore_n hX (pc := 11) (ls' := [(3, .ref o3), (0, .ref x0), (1, .int (iZ x1)), (2, .int (iZ x2))]) dX7_cut_11 rfl rfl rfl ?_
    refine qn_aload_n hX (pc := 12) dX7_cut_12 0 rfl rfl ?_
    refine qn_ifnull hX (pc := 13) dX7_cut_13 ?_
    refine qn_iload_n hX (pc := 16) dX7_cut_16 3 rfl rfl ?_
    refine qn_iconst hX (pc := 17) dX7_cut_17 ?_
    refine qn_icmp_lt hX (pc := 18) r_x2 (by decide) 29 dX7_cut_18 (by decide) (fun c4 => ?_) (fun c4 => ?_)
    · have h := ite_t h c4
      refine qn_iconst hX (pc := 29) dX7_cut_29 ?_
      exact qn_iret hX (pc := 30) dX7_cut_30 hE hR_m1 (by decide) (Option.some.inj h)
    · have h := ite_f h c4
      refine qn_iload_n hX (pc := 21) dX7_cut_21 3 rfl rfl ?_
      refine qn_aload_n hX (pc := 22) dX7_cut_22 0 rfl rfl ?_
      refine qn_getI hX (pc := 23) fd_X7_cut_115 dX7_cut_23 k_o3 ?_
      refine qn_icmp_lt hX (pc := 26) r_x2 (hR_m1.i 404 _ rfl) 31 dX7_cut_26 (by decide) (fun c5 => ?_) (fun c5 => ?_)
      · have h := ite_t h c5
        refine qn_aload_n hX (pc := 31) dX7_cut_31 0 rfl rfl ?_
        refine qn_getI hX (pc := 32) fd_X7_cut_115 dX7_cut_32 k_o3 ?_
        refine qn_istore hX (pc := 35) (ls' := [(4, .int (iZ (gI m1 404 o3))), (3, .ref o3), (0, .ref x0), (1, .int (iZ x1)), (2, .int (iZ x2))]) dX7_cut_35 rfl rfl ?_
        refine qn_aload_n hX (pc := 37) dX7_cut_37 1 rfl rfl ?_
        refine qn_iload_n hX (pc := 38) dX7_cut_38 4 rfl rfl ?_
        obtain ⟨m6, e_m6, h⟩ := kp_e h
        refine qn_putI hX (pc := 39) fp_X7_cut_115 dX7_cut_39 k_o3 hR_m1 r_x2 e_m6 (fun hR_m6 => ?_) 
        refine qn_aload_n hX (pc := 42) dX7_cut_42 2 rfl rfl ?_
        refine qn_getR hX (pc := 43) fd_X7_cut_10 dX7_cut_43 k_x0 ?_
        refine qn_getR hX (pc := 46) fd_X7_cut_105 dX7_cut_46 (qr_700 hT k_x0) ?_
        refine qn_aload_n hX (pc := 49) dX7_cut_49 1 rfl rfl ?_
        obtain ⟨m7, e_m7, h⟩ := kb_e h
        refine qn_callVv hX (pc := 50) [.ref o3] [.ref o3] 1 dX7_cut_50 gX7_cut_X0_lapse rfl dd_X0_lapse ⟨rfl, rfl⟩ rfl rfl (by decide) (qr_200 hT (qr_700 hT k_x0)) rfl rfl hR_m6 (k_X0_lapse (xl X) hT (qr_200 hT (qr_700 hT k_x0)) k_o3 e_m7) (fun r_v8 hR_m7 => ?_)
        refine qn_iload hX (pc := 53) dX7_cut_53 0 rfl ?_
        exact qn_iret hX (pc := 55) dX7_cut_55 hE hR_m7 (hR_m1.i 404 _ rfl) (Option.some.inj h)
      · have h := ite_f h c5
        refine qn_iconst hX (pc := 29) dX7_cut_29 ?_
        exact qn_iret hX (pc := 30) dX7_cut_30 hE hR_m1 (by decide) (Option.some.inj h)
theorem k_X7_cut (l : Launch) {G : qG} (hT : qT G) {N : Nat} {x0 : Nat} {x1 : Int} {x2 : Int} (k_x0 : gK G x0 = 8) (r_x1 : in32 x1) (r_x2 : in32 x2) {m0 : qM} {r : Int} {nu : qM} (h : f_X7_cut N G x0 x1 x2 m0 = some (r, nu)) : qC l yX7_cut wsX7_cut 1 22 G [.ref x0, .int (iZ x1), .int (iZ x2)] m0 (some (.int (iZ r))) (in32 r) nu := by
  refine qn_start (hy := by decide) hT (hw := rfl) (hn := Nat.le_of_ble_eq_true rfl) ?_
  intro X h1 h2 h3 h4 hX hR
  subst h4
  exact w_X7_cut hX ⟨h1, fun q => h2 ▸ q, h3⟩ k_x0 r_x1 r_x2 hR h
theorem dd_X7_cut : yX7_cut.cls = RX7 ∧ yX7_cut.cls ≠ "java/lang/invoke/MethodHandle" ∧ yX7_cut.cls ≠ "java/lang/invoke/VarHandle" ∧ (parseMethodDescriptor yX7_cut.desc).map (fun d => d.parameters.length) = some 2 := by decide +kernel
-- ProRataMarket.off
theorem hi_X7_off_7 : ∀ w ∈ wsX70, w ∈ wsX7_off := fun w h => List.mem_cons_of_mem _ (List.mem_append_left _ (List.mem_append_left _ (List.mem_append_left _ (List.mem_append_right _ h))))
theorem fd_X7_off_10 : qFd RX7 wsX7_off 10 7 0 1 700 := ⟨RX7, TX7, 3, _, rfl, hi_X7_off_7, by decide, (by decide +kernel : Cond.fieldLink RX7 10 (TX7 0).1 (TX7 0).2.1 (TX7 0).2.2.1 ∈ wsX7_off), rfl, rfl, by decide⟩
theorem hi_X7_off_2 : ∀ w ∈ wsX20, w ∈ wsX7_off := fun w h => List.mem_cons_of_mem _ (List.mem_append_left _ (List.mem_append_left _ (List.mem_append_right _ h)))
theorem fd_X7_off_105 : qFd RX7 wsX7_off 105 2 0 1 200 := ⟨RX2, TX2, 12, _, rfl, hi_X7_off_2, by decide, (by decide +kernel : Cond.fieldLink RX7 105 (TX2 0).1 (TX2 0).2.1 (TX2 0).2.2.1 ∈ wsX7_off), rfl, rfl, by decide⟩
theorem hi_X7_off_4 : ∀ w ∈ wsX40, w ∈ wsX7_off := fun w h => List.mem_cons_of_mem _ (List.mem_append_left _ (List.mem_append_right _ h))
theorem fd_X7_off_115 : qFd RX7 wsX7_off 115 4 4 0 404 := ⟨RX4, TX4, 6, _, rfl, hi_X7_off_4, by decide, (by decide +kernel : Cond.fieldLink RX7 115 (TX4 4).1 (TX4 4).2.1 (TX4 4).2.2.1 ∈ wsX7_off), rfl, rfl, by decide⟩
theorem fp_X7_off_115 : qFp RX7 wsX7_off 115 4 4 0 404 .int := ⟨RX4, TX4, 6, _, tyX4, rfl, hi_X7_off_4, by decide, (by decide +kernel : Cond.fieldLink RX7 115 (TX4 4).1 (TX4 4).2.1 (TX4 4).2.2.1 ∈ wsX7_off), rfl, rfl, by decide, tyX4_ok, nmX4, rfl, by decide +kernel⟩
set_option maxHeartbeats 4000000 in
set_option maxRecDepth 20000 in
theorem w_X7_off {X : qB} {N : Nat} (hX : qOk X cX7_off RX7 4 (some .int) wsX7_off 2 44) {r : Int} {nu : qM} (hE : xr X = some (.int (iZ r)) ∧ (in32 r → xΦ X) ∧ xμ X = nu) 
    {x0 : Nat} {x1 : Int} (k_x0 : gK (xG X) x0 = 8) (r_x1 : in32 x1) {m0 : qM} (hR_m0 : qR (xG X) m0)
    (h : f_X7_off N (xG X)  x0 x1 m0 = some (r, nu)) : qN X 4 0 [(0, .ref x0), (1, .int (iZ x1))] [] m0 := by
  have hT := hX.T
  unfold f_X7_off at h
  refine qn_aload_n hX (pc := 0) dX7_off_0 0 rfl rfl ?_
  refine qn_getR hX (pc := 1) fd_X7_off_10 dX7_off_1 k_x0 ?_
  refine qn_getR hX (pc := 4) fd_X7_off_105 dX7_off_4 (qr_700 hT k_x0) ?_
  refine qn_iload_n hX (pc := 7) dX7_off_7 1 rfl rfl ?_
  obtain ⟨v2, m1, e_m1, h⟩ := kb2_e h
  refine qn_callVq hX (pc := 8) [.int (iZ x1)] [.int (iZ x1)] 1 dX7_off_8 gX7_off_X0_find rfl dd_X0_find ⟨rfl, rfl⟩ rfl rfl (by decide) (qr_200 hT (qr_700 hT k_x0)) rfl rfl hR_m0 (k_X0_find (xl X) hT (qr_200 hT (qr_700 hT k_x0)) r_x1 e_m1) (fun r_v2 hR_m1 => ?_)
  rcases v2 with _ | o3
  · try dsimp only at h
    refine qn_astore_nN hX (pc := 11) (ls' := [(2, .null), (0, .ref x0), (1, .int (iZ x1))]) dX7_off_11 rfl rfl rfl ?_
    refine qn_aload_nN hX (pc := 12) dX7_off_12 0 rfl rfl ?_
    refine qn_ifnonnullN hX (pc := 13) dX7_off_13 ?_
    refine qn_iconst hX (pc := 16) dX7_off_16 ?_
    exact qn_iret hX (pc := 17) dX7_off_17 hE hR_m1 (by decide) (Option.some.inj h)
  · try dsimp only at h
    have k_o3 := r_v2 o3 rfl
    refine qn_astore_n hX (pc := 11) (ls' := [(2, .ref o3), (0, .ref x0), (1, .int (iZ x1))]) dX7_off_11 rfl rfl rfl ?_
    refine qn_aload_n hX (pc := 12) dX7_off_12 0 rfl rfl ?_
    refine qn_ifnonnull hX (pc := 13) 18 dX7_off_13 (by decide) ?_
    refine qn_aload_n hX (pc := 18) dX7_off_18 0 rfl rfl ?_
    refine qn_getI hX (pc := 19) fd_X7_off_115 dX7_off_19 k_o3 ?_
    refine qn_istore_n hX (pc := 22) (ls' := [(3, .int (iZ (gI m1 404 o3))), (2, .ref o3), (0, .ref x0), (1, .int (iZ x1))]) dX7_off_22 rfl rfl rfl ?_
    refine qn_aload_n hX (pc := 23) dX7_off_23 1 rfl rfl ?_
    refine qn_iconst hX (pc := 24) dX7_off_24 ?_
    obtain ⟨m4, e_m4, h⟩ := kp_e h
    refine qn_putI hX (pc := 25) fp_X7_off_115 dX7_off_25 k_o3 hR_m1 (show in32 0 by decide) e_m4 (fun hR_m4 => ?_) 
    refine qn_aload_n hX (pc := 28) dX7_off_28 2 rfl rfl ?_
    refine qn_getR hX (pc := 29) fd_X7_off_10 dX7_off_29 k_x0 ?_
    refine qn_getR hX (pc := 32) fd_X7_off_105 dX7_off_32 (qr_700 hT k_x0) ?_
    obtain ⟨m5, e_m5, h⟩ := kb_e h
    refine qn_callVv hX (pc := 35) [] [] 0 dX7_off_35 gX7_off_X0_sweep rfl dd_X0_sweep ⟨rfl, rfl⟩ rfl rfl (by decide) (qr_200 hT (qr_700 hT k_x0)) rfl rfl hR_m4 (k_X0_sweep (xl X) hT (qr_200 hT (qr_700 hT k_x0)) e_m5) (fun r_v6 hR_m5 => ?_)
    refine qn_iload_n hX (pc := 38) dX7_off_38 0 rfl rfl ?_
    exact qn_iret hX (pc := 39) dX7_off_39 hE hR_m5 (hR_m1.i 404 _ rfl) (Option.some.inj h)
theorem k_X7_off (l : Launch) {G : qG} (hT : qT G) {N : Nat} {x0 : Nat} {x1 : Int} (k_x0 : gK G x0 = 8) (r_x1 : in32 x1) {m0 : qM} {r : Int} {nu : qM} (h : f_X7_off N G x0 x1 m0 = some (r, nu)) : qC l yX7_off wsX7_off 2 44 G [.ref x0, .int (iZ x1)] m0 (some (.int (iZ r))) (in32 r) nu := by
  refine qn_start (hy := by decide) hT (hw := rfl) (hn := Nat.le_of_ble_eq_true rfl) ?_
  intro X h1 h2 h3 h4 hX hR
  subst h4
  exact w_X7_off hX ⟨h1, fun q => h2 ▸ q, h3⟩ k_x0 r_x1 hR h
theorem dd_X7_off : yX7_off.cls = RX7 ∧ yX7_off.cls ≠ "java/lang/invoke/MethodHandle" ∧ yX7_off.cls ≠ "java/lang/invoke/VarHandle" ∧ (parseMethodDescriptor yX7_off.desc).map (fun d => d.parameters.length) = some 1 := by decide +kernel
-- ProRataMarket.grant
theorem hi_X7_grant_7 : ∀ w ∈ wsX70, w ∈ wsX7_grant := fun w h => List.mem_cons_of_mem _ (List.mem_append_left _ (List.mem_append_right _ h))
theorem fd_X7_grant_10 : qFd RX7 wsX7_grant 10 7 0 1 700 := ⟨RX7, TX7, 3, _, rfl, hi_X7_grant_7, by decide, (by decide +kernel : Cond.fieldLink RX7 10 (TX7 0).1 (TX7 0).2.1 (TX7 0).2.2.1 ∈ wsX7_grant), rfl, rfl, by decide⟩
theorem hi_X7_grant_2 : ∀ w ∈ wsX20, w ∈ wsX7_grant := fun w h => List.mem_cons_of_mem _ (List.mem_append_right _ h)
theorem fd_X7_grant_127 : qFd RX7 wsX7_grant 127 2 5 0 205 := ⟨RX2, TX2, 12, _, rfl, hi_X7_grant_2, by decide, (by decide +kernel : Cond.fieldLink RX7 127 (TX2 5).1 (TX2 5).2.1 (TX2 5).2.2.1 ∈ wsX7_grant), rfl, rfl, by decide⟩
theorem fp_X7_grant_127 : qFp RX7 wsX7_grant 127 2 5 0 205 .int := ⟨RX2, TX2, 12, _, tyX2, rfl, hi_X7_grant_2, by decide, (by decide +kernel : Cond.fieldLink RX7 127 (TX2 5).1 (TX2 5).2.1 (TX2 5).2.2.1 ∈ wsX7_grant), rfl, rfl, by decide, tyX2_ok, nmX2, rfl, by decide +kernel⟩
set_option maxHeartbeats 4000000 in
set_option maxRecDepth 20000 in
theorem w_X7_grant {X : qB} {N : Nat} (hX : qOk X cX7_grant RX7 3 (some .int) wsX7_grant 0 0) {r : Int} {nu : qM} (hE : xr X = some (.int (iZ r)) ∧ (in32 r → xΦ X) ∧ xμ X = nu) 
    {x0 : Nat} {x1 : Int} (k_x0 : gK (xG X) x0 = 8) (r_x1 : in32 x1) {m0 : qM} (hR_m0 : qR (xG X) m0)
    (h : f_X7_grant N (xG X)  x0 x1 m0 = some (r, nu)) : qN X 3 0 [(0, .ref x0), (1, .int (iZ x1))] [] m0 := by
  have hT := hX.T
  unfold f_X7_grant at h
  refine qn_iload_n hX (pc := 0) dX7_grant_0 1 rfl rfl ?_
  refine qn_if_lt hX (pc := 1) r_x1 11 dX7_grant_1 (by decide) (fun c1 => ?_) (fun c1 => ?_)
  · have h := ite_t h c1
    refine qn_iconst hX (pc := 11) dX7_grant_11 ?_
    exact qn_iret hX (pc := 12) dX7_grant_12 hE hR_m0 (by decide) (Option.some.inj h)
  · have h := ite_f h c1
    refine qn_iload_n hX (pc := 4) dX7_grant_4 1 rfl rfl ?_
    refine qn_sipush hX (pc := 5) dX7_grant_5 (by decide) ?_
    refine qn_icmp_le hX (pc := 8) r_x1 (by decide) 13 dX7_grant_8 (by decide) (fun c2 => ?_) (fun c2 => ?_)
    · have h := ite_f h c2
      refine qn_aload_n hX (pc := 13) dX7_grant_13 0 rfl rfl ?_
      refine qn_getR hX (pc := 14) fd_X7_grant_10 dX7_grant_14 k_x0 ?_
      refine qn_getI hX (pc := 17) fd_X7_grant_127 dX7_grant_17 (qr_700 hT k_x0) ?_
      refine qn_istore_n hX (pc := 20) (ls' := [(2, .int (iZ (gI m0 205 (gR (xG X) 700 x0)))), (0, .ref x0), (1, .int (iZ x1))]) dX7_grant_20 rfl rfl rfl ?_
      refine qn_aload_n hX (pc := 21) dX7_grant_21 1 rfl rfl ?_
      refine qn_getR hX (pc := 22) fd_X7_grant_10 dX7_grant_22 k_x0 ?_
      refine qn_iload_n hX (pc := 25) dX7_grant_25 2 rfl rfl ?_
      obtain ⟨m3, e_m3, h⟩ := kp_e h
      refine qn_putI hX (pc := 26) fp_X7_grant_127 dX7_grant_26 (qr_700 hT k_x0) hR_m0 r_x1 e_m3 (fun hR_m3 => ?_) 
      refine qn_iload_n hX (pc := 29) dX7_grant_29 0 rfl rfl ?_
      exact qn_iret hX (pc := 30) dX7_grant_30 hE hR_m3 (hR_m0.i 205 _ rfl) (Option.some.inj h)
    · have h := ite_t h c2
      refine qn_iconst hX (pc := 11) dX7_grant_11 ?_
      exact qn_iret hX (pc := 12) dX7_grant_12 hE hR_m0 (by decide) (Option.some.inj h)
theorem k_X7_grant (l : Launch) {G : qG} (hT : qT G) {N : Nat} {x0 : Nat} {x1 : Int} (k_x0 : gK G x0 = 8) (r_x1 : in32 x1) {m0 : qM} {r : Int} {nu : qM} (h : f_X7_grant N G x0 x1 m0 = some (r, nu)) : qC l yX7_grant wsX7_grant 0 0 G [.ref x0, .int (iZ x1)] m0 (some (.int (iZ r))) (in32 r) nu := by
  refine qn_start (hy := by decide) hT (hw := rfl) (hn := Nat.le_of_ble_eq_true rfl) ?_
  intro X h1 h2 h3 h4 hX hR
  subst h4
  exact w_X7_grant hX ⟨h1, fun q => h2 ▸ q, h3⟩ k_x0 r_x1 hR h
theorem dd_X7_grant : yX7_grant.cls = RX7 ∧ yX7_grant.cls ≠ "java/lang/invoke/MethodHandle" ∧ yX7_grant.cls ≠ "java/lang/invoke/VarHandle" ∧ (parseMethodDescriptor yX7_grant.desc).map (fun d => d.parameters.length) = some 1 := by decide +kernel
-- ProRataMarket.least
theorem hi_X7_least_7 : ∀ w ∈ wsX70, w ∈ wsX7_least := fun w h => List.mem_cons_of_mem _ (List.mem_append_left _ (List.mem_append_right _ h))
theorem fd_X7_least_10 : qFd RX7 wsX7_least 10 7 0 1 700 := ⟨RX7, TX7, 3, _, rfl, hi_X7_least_7, by decide, (by decide +kernel : Cond.fieldLink RX7 10 (TX7 0).1 (TX7 0).2.1 (TX7 0).2.2.1 ∈ wsX7_least), rfl, rfl, by decide⟩
theorem hi_X7_least_2 : ∀ w ∈ wsX20, w ∈ wsX7_least := fun w h => List.mem_cons_of_mem _ (List.mem_append_right _ h)
theorem fd_X7_least_129 : qFd RX7 wsX7_least 129 2 6 0 206 := ⟨RX2, TX2, 12, _, rfl, hi_X7_least_2, by decide, (by decide +kernel : Cond.fieldLink RX7 129 (TX2 6).1 (TX2 6).2.1 (TX2 6).2.2.1 ∈ wsX7_least), rfl, rfl, by decide⟩
theorem fp_X7_least_129 : qFp RX7 wsX7_least 129 2 6 0 206 .int := ⟨RX2, TX2, 12, _, tyX2, rfl, hi_X7_least_2, by decide, (by decide +kernel : Cond.fieldLink RX7 129 (TX2 6).1 (TX2 6).2.1 (TX2 6).2.2.1 ∈ wsX7_least), rfl, rfl, by decide, tyX2_ok, nmX2, rfl, by decide +kernel⟩
set_option maxHeartbeats 4000000 in
set_option maxRecDepth 20000 in
theorem w_X7_least {X : qB} {N : Nat} (hX : qOk X cX7_least RX7 3 (some .int) wsX7_least 0 0) {r : Int} {nu : qM} (hE : xr X = some (.int (iZ r)) ∧ (in32 r → xΦ X) ∧ xμ X = nu) 
    {x0 : Nat} {x1 : Int} (k_x0 : gK (xG X) x0 = 8) (r_x1 : in32 x1) {m0 : qM} (hR_m0 : qR (xG X) m0)
    (h : f_X7_least N (xG X)  x0 x1 m0 = some (r, nu)) : qN X 3 0 [(0, .ref x0), (1, .int (iZ x1))] [] m0 := by
  have hT := hX.T
  unfold f_X7_least at h
  refine qn_iload_n hX (pc := 0) dX7_least_0 1 rfl rfl ?_
  refine qn_iconst hX (pc := 1) dX7_least_1 ?_
  refine qn_icmp_lt hX (pc := 2) r_x1 (by decide) 11 dX7_least_2 (by decide) (fun c1 => ?_) (fun c1 => ?_)
  · have h := ite_t h c1
    refine qn_iconst hX (pc := 11) dX7_least_11 ?_
    exact qn_iret hX (pc := 12) dX7_least_12 hE hR_m0 (by decide) (Option.some.inj h)
  · have h := ite_f h c1
    refine qn_iload_n hX (pc := 5) dX7_least_5 1 rfl rfl ?_
    refine qn_bipush hX (pc := 6) dX7_least_6 (by decide) ?_
    refine qn_icmp_le hX (pc := 8) r_x1 (by decide) 13 dX7_least_8 (by decide) (fun c2 => ?_) (fun c2 => ?_)
    · have h := ite_f h c2
      refine qn_aload_n hX (pc := 13) dX7_least_13 0 rfl rfl ?_
      refine qn_getR hX (pc := 14) fd_X7_least_10 dX7_least_14 k_x0 ?_
      refine qn_getI hX (pc := 17) fd_X7_least_129 dX7_least_17 (qr_700 hT k_x0) ?_
      refine qn_istore_n hX (pc := 20) (ls' := [(2, .int (iZ (gI m0 206 (gR (xG X) 700 x0)))), (0, .ref x0), (1, .int (iZ x1))]) dX7_least_20 rfl rfl rfl ?_
      refine qn_aload_n hX (pc := 21) dX7_least_21 1 rfl rfl ?_
      refine qn_getR hX (pc := 22) fd_X7_least_10 dX7_least_22 k_x0 ?_
      refine qn_iload_n hX (pc := 25) dX7_least_25 2 rfl rfl ?_
      obtain ⟨m3, e_m3, h⟩ := kp_e h
      refine qn_putI hX (pc := 26) fp_X7_least_129 dX7_least_26 (qr_700 hT k_x0) hR_m0 r_x1 e_m3 (fun hR_m3 => ?_) 
      refine qn_iload_n hX (pc := 29) dX7_least_29 0 rfl rfl ?_
      exact qn_iret hX (pc := 30) dX7_least_30 hE hR_m3 (hR_m0.i 206 _ rfl) (Option.some.inj h)
    · have h := ite_t h c2
      refine qn_iconst hX (pc := 11) dX7_least_11 ?_
      exact qn_iret hX (pc := 12) dX7_least_12 hE hR_m0 (by decide) (Option.some.inj h)
theorem k_X7_least (l : Launch) {G : qG} (hT : qT G) {N : Nat} {x0 : Nat} {x1 : Int} (k_x0 : gK G x0 = 8) (r_x1 : in32 x1) {m0 : qM} {r : Int} {nu : qM} (h : f_X7_least N G x0 x1 m0 = some (r, nu)) : qC l yX7_least wsX7_least 0 0 G [.ref x0, .int (iZ x1)] m0 (some (.int (iZ r))) (in32 r) nu := by
  refine qn_start (hy := by decide) hT (hw := rfl) (hn := Nat.le_of_ble_eq_true rfl) ?_
  intro X h1 h2 h3 h4 hX hR
  subst h4
  exact w_X7_least hX ⟨h1, fun q => h2 ▸ q, h3⟩ k_x0 r_x1 hR h
theorem dd_X7_least : yX7_least.cls = RX7 ∧ yX7_least.cls ≠ "java/lang/invoke/MethodHandle" ∧ yX7_least.cls ≠ "java/lang/invoke/VarHandle" ∧ (parseMethodDescriptor yX7_least.desc).map (fun d => d.parameters.length) = some 1 := by decide +kernel
-- ProRataMarket.open
theorem hi_X7_open_7 : ∀ w ∈ wsX70, w ∈ wsX7_open := fun w h => List.mem_cons_of_mem _ (List.mem_append_left _ (List.mem_append_left _ (List.mem_append_left _ (List.mem_append_left _ (List.mem_append_left _ (List.mem_append_left _ (List.mem_append_right _ h)))))))
theorem fd_X7_open_10 : qFd RX7 wsX7_open 10 7 0 1 700 := ⟨RX7, TX7, 3, _, rfl, hi_X7_open_7, by decide, (by decide +kernel : Cond.fieldLink RX7 10 (TX7 0).1 (TX7 0).2.1 (TX7 0).2.2.1 ∈ wsX7_open), rfl, rfl, by decide⟩
theorem hi_X7_open_2 : ∀ w ∈ wsX20, w ∈ wsX7_open := fun w h => List.mem_cons_of_mem _ (List.mem_append_left _ (List.mem_append_left _ (List.mem_append_left _ (List.mem_append_left _ (List.mem_append_left _ (List.mem_append_right _ h))))))
theorem fd_X7_open_131 : qFd RX7 wsX7_open 131 2 7 0 207 := ⟨RX2, TX2, 12, _, rfl, hi_X7_open_2, by decide, (by decide +kernel : Cond.fieldLink RX7 131 (TX2 7).1 (TX2 7).2.1 (TX2 7).2.2.1 ∈ wsX7_open), rfl, rfl, by decide⟩
set_option maxHeartbeats 4000000 in
set_option maxRecDepth 20000 in
theorem w_X7_open {X : qB} {N : Nat} (hX : qOk X cX7_open RX7 1 (some .int) wsX7_open 5 120) {r : Int} {nu : qM} (hE : xr X = some (.int (iZ r)) ∧ (in32 r → xΦ X) ∧ xμ X = nu) 
    {x0 : Nat} (k_x0 : gK (xG X) x0 = 8) {m0 : qM} (hR_m0 : qR (xG X) m0)
    (h : f_X7_open N (xG X)  x0 m0 = some (r, nu)) : qN X 1 0 [(0, .ref x0)] [] m0 := by
  have hT := hX.T
  unfold f_X7_open at h
  refine qn_aload_n hX (pc := 0) dX7_open_0 0 rfl rfl ?_
  refine qn_getR hX (pc := 1) fd_X7_open_10 dX7_open_1 k_x0 ?_
  refine qn_getI hX (pc := 4) fd_X7_open_131 dX7_open_4 (qr_700 hT k_x0) ?_
  refine qn_if_eq hX (pc := 7) ((hR_m0.zz 207 _ rfl).i) 20 dX7_open_7 (by decide) (fun c1 => ?_) (fun c1 => ?_)
  · have h := ite_t h c1
    refine qn_iconst hX (pc := 20) dX7_open_20 ?_
    exact qn_iret hX (pc := 21) dX7_open_21 hE hR_m0 (by decide) (Option.some.inj h)
  · have h := ite_f h c1
    refine qn_aload_n hX (pc := 10) dX7_open_10 0 rfl rfl ?_
    refine qn_getR hX (pc := 11) fd_X7_open_10 dX7_open_11 k_x0 ?_
    obtain ⟨v3, m2, e_m2, h⟩ := kb2_e h
    refine qn_callVi hX (pc := 14) [] [] 0 dX7_open_14 gX7_open_X2_changeOver rfl dd_X2_changeOver ⟨rfl, rfl⟩ rfl rfl (by decide) (qr_700 hT k_x0) rfl rfl hR_m0 (k_X2_changeOver (xl X) hT (qr_700 hT k_x0) e_m2) (fun r_v3 hR_m2 => ?_)
    refine qn_goto hX (pc := 17) 21 dX7_open_17 (by decide) ?_
    exact qn_iret hX (pc := 21) dX7_open_21 hE hR_m2 r_v3 (Option.some.inj h)
theorem k_X7_open (l : Launch) {G : qG} (hT : qT G) {N : Nat} {x0 : Nat} (k_x0 : gK G x0 = 8) {m0 : qM} {r : Int} {nu : qM} (h : f_X7_open N G x0 m0 = some (r, nu)) : qC l yX7_open wsX7_open 5 120 G [.ref x0] m0 (some (.int (iZ r))) (in32 r) nu := by
  refine qn_start (hy := by decide) hT (hw := rfl) (hn := Nat.le_of_ble_eq_true rfl) ?_
  intro X h1 h2 h3 h4 hX hR
  subst h4
  exact w_X7_open hX ⟨h1, fun q => h2 ▸ q, h3⟩ k_x0 hR h
theorem dd_X7_open : yX7_open.cls = RX7 ∧ yX7_open.cls ≠ "java/lang/invoke/MethodHandle" ∧ yX7_open.cls ≠ "java/lang/invoke/VarHandle" ∧ (parseMethodDescriptor yX7_open.desc).map (fun d => d.parameters.length) = some 0 := by decide +kernel
-- ProRataMarket.doLine
theorem hi_X7_doLine_7 : ∀ w ∈ wsX70, w ∈ wsX7_doLine := fun w h => List.mem_cons_of_mem _ (List.mem_append_left _ (List.mem_append_left _ (List.mem_append_left _ (List.mem_append_left _ (List.mem_append_left _ (List.mem_append_left _ (List.mem_append_left _ (List.mem_append_right _ h))))))))
theorem fd_X7_doLine_10 : qFd RX7 wsX7_doLine 10 7 0 1 700 := ⟨RX7, TX7, 3, _, rfl, hi_X7_doLine_7, by decide, (by decide +kernel : Cond.fieldLink RX7 10 (TX7 0).1 (TX7 0).2.1 (TX7 0).2.2.1 ∈ wsX7_doLine), rfl, rfl, by decide⟩
theorem fd_X7_doLine_22 : qFd RX7 wsX7_doLine 22 7 2 1 702 := ⟨RX7, TX7, 3, _, rfl, hi_X7_doLine_7, by decide, (by decide +kernel : Cond.fieldLink RX7 22 (TX7 2).1 (TX7 2).2.1 (TX7 2).2.2.1 ∈ wsX7_doLine), rfl, rfl, by decide⟩
theorem hi_X7_doLine_6 : ∀ w ∈ wsX60, w ∈ wsX7_doLine := fun w h => List.mem_cons_of_mem _ (List.mem_append_left _ (List.mem_append_left _ (List.mem_append_left _ (List.mem_append_left _ (List.mem_append_left _ (List.mem_append_left _ (List.mem_append_right _ h)))))))
theorem fd_X7_doLine_59 : qFd RX7 wsX7_doLine 59 6 10 0 610 := ⟨RX6, TX6, 12, _, rfl, hi_X7_doLine_6, by decide, (by decide +kernel : Cond.fieldLink RX7 59 (TX6 10).1 (TX6 10).2.1 (TX6 10).2.2.1 ∈ wsX7_doLine), rfl, rfl, by decide⟩
set_option maxHeartbeats 4000000 in
set_option maxRecDepth 20000 in
theorem w_X7_doLine {X : qB} {N : Nat} (hX : qOk X cX7_doLine RX7 3 (some .boolean) wsX7_doLine 6 148) {r : Int} {nu : qM} (hE : xr X = some (.int (iZ r)) ∧ (in01 r → xΦ X) ∧ xμ X = nu) 
    {x0 : Nat} {x1 : Int} {x2 : Nat} (k_x0 : gK (xG X) x0 = 8) (r_x1 : in32 x1) (k_x2 : gK (xG X) x2 = 1003) {m0 : qM} (hR_m0 : qR (xG X) m0)
    (h : f_X7_doLine N (xG X)  x0 x1 x2 m0 = some (r, nu)) : qN X 3 0 [(0, .ref x0), (1, .int (iZ x1)), (2, .ref x2)] [] m0 := by
  have hT := hX.T
  unfold f_X7_doLine at h
  refine qn_iload_n hX (pc := 0) dX7_doLine_0 1 rfl rfl ?_
  by_cases c1 : x1 = 0
  · have h := ite_t h c1
    refine qn_tswIn hX (pc := 1) r_x1 44 dX7_doLine_1 0 c1 (by decide) rfl (by decide) ?_
    refine qn_aload_n hX (pc := 44) dX7_doLine_44 0 rfl rfl ?_
    refine qn_getR hX (pc := 45) fd_X7_doLine_10 dX7_doLine_45 k_x0 ?_
    refine qn_aload_n hX (pc := 48) dX7_doLine_48 2 rfl rfl ?_
    refine qn_iconst hX (pc := 49) dX7_doLine_49 ?_
    refine qn_iald hX (pc := 50) (v := gA m0 x2 0) 3 dX7_doLine_50 k_x2 (by decide) (by decide) rfl ?_
    refine qn_iconst hX (pc := 51) dX7_doLine_51 ?_
    refine qn_aload_n hX (pc := 52) dX7_doLine_52 2 rfl rfl ?_
    refine qn_iconst hX (pc := 53) dX7_doLine_53 ?_
    refine qn_iald hX (pc := 54) (v := gA m0 x2 2) 3 dX7_doLine_54 k_x2 (by decide) (by decide) rfl ?_
    refine qn_aload_n hX (pc := 55) dX7_doLine_55 2 rfl rfl ?_
    refine qn_iconst hX (pc := 56) dX7_doLine_56 ?_
    refine qn_iald hX (pc := 57) (v := gA m0 x2 1) 3 dX7_doLine_57 k_x2 (by decide) (by decide) rfl ?_
    refine qn_aload_n hX (pc := 58) dX7_doLine_58 0 rfl rfl ?_
    refine qn_getR hX (pc := 59) fd_X7_doLine_22 dX7_doLine_59 k_x0 ?_
    refine qn_getI hX (pc := 62) fd_X7_doLine_59 dX7_doLine_62 (qr_702 hT k_x0) ?_
    obtain ⟨v3, m2, e_m2, h⟩ := kb2_e h
    refine qn_callVi hX (pc := 65) [.int (iZ (gA m0 x2 0)), .int (iZ 0), .int (iZ (gA m0 x2 2)), .int (iZ (gA m0 x2 1)), .int (iZ (gI m0 610 (gR (xG X) 702 x0)))] [.int (iZ (gI m0 610 (gR (xG X) 702 x0))), .int (iZ (gA m0 x2 1)), .int (iZ (gA m0 x2 2)), .int (iZ 0), .int (iZ (gA m0 x2 0))] 5 dX7_doLine_65 gX7_doLine_X2_comeIn rfl dd_X2_comeIn ⟨rfl, rfl⟩ rfl rfl (by decide) (qr_700 hT k_x0) rfl rfl hR_m0 (k_X2_comeIn (xl X) hT (qr_700 hT k_x0) (hR_m0.a (n := 3) _ k_x2 (by decide)) (by decide) (hR_m0.a (n := 3) _ k_x2 (by decide)) (hR_m0.a (n := 3) _ k_x2 (by decide)) (hR_m0.i 610 _ rfl) e_m2) (fun r_v3 hR_m2 => ?_)
    refine qn_if_le hX (pc := 68) r_v3 75 dX7_doLine_68 (by decide) (fun c4 => ?_) (fun c4 => ?_)
    · have h := ite_f h c4
      refine qn_iconst hX (pc := 75) dX7_doLine_75 ?_
      exact qn_zret hX (pc := 76) dX7_doLine_76 hE hR_m2 (by decide) (Option.some.inj h)
    · have h := ite_t h c4
      refine qn_iconst hX (pc := 71) dX7_doLine_71 ?_
      refine qn_goto hX (pc := 72) 76 dX7_doLine_72 (by decide) ?_
      exact qn_zret hX (pc := 76) dX7_doLine_76 hE hR_m2 (by decide) (Option.some.inj h)
  have h := ite_f h c1
  by_cases c5 : x1 = 1
  · have h := ite_t h c5
    refine qn_tswIn hX (pc := 1) r_x1 77 dX7_doLine_1 1 c5 (by decide) rfl (by decide) ?_
    refine qn_aload_n hX (pc := 77) dX7_doLine_77 0 rfl rfl ?_
    refine qn_getR hX (pc := 78) fd_X7_doLine_10 dX7_doLine_78 k_x0 ?_
    refine qn_aload_n hX (pc := 81) dX7_doLine_81 2 rfl rfl ?_
    refine qn_iconst hX (pc := 82) dX7_doLine_82 ?_
    refine qn_iald hX (pc := 83) (v := gA m0 x2 0) 3 dX7_doLine_83 k_x2 (by decide) (by decide) rfl ?_
    refine qn_iconst hX (pc := 84) dX7_doLine_84 ?_
    refine qn_aload_n hX (pc := 85) dX7_doLine_85 2 rfl rfl ?_
    refine qn_iconst hX (pc := 86) dX7_doLine_86 ?_
    refine qn_iald hX (pc := 87) (v := gA m0 x2 2) 3 dX7_doLine_87 k_x2 (by decide) (by decide) rfl ?_
    refine qn_aload_n hX (pc := 88) dX7_doLine_88 2 rfl rfl ?_
    refine qn_iconst hX (pc := 89) dX7_doLine_89 ?_
    refine qn_iald hX (pc := 90) (v := gA m0 x2 1) 3 dX7_doLine_90 k_x2 (by decide) (by decide) rfl ?_
    refine qn_aload_n hX (pc := 91) dX7_doLine_91 0 rfl rfl ?_
    refine qn_getR hX (pc := 92) fd_X7_doLine_22 dX7_doLine_92 k_x0 ?_
    refine qn_getI hX (pc := 95) fd_X7_doLine_59 dX7_doLine_95 (qr_702 hT k_x0) ?_
    obtain ⟨v7, m6, e_m6, h⟩ := kb2_e h
    refine qn_callVi hX (pc := 98) [.int (iZ (gA m0 x2 0)), .int (iZ 1), .int (iZ (gA m0 x2 2)), .int (iZ (gA m0 x2 1)), .int (iZ (gI m0 610 (gR (xG X) 702 x0)))] [.int (iZ (gI m0 610 (gR (xG X) 702 x0))), .int (iZ (gA m0 x2 1)), .int (iZ (gA m0 x2 2)), .int (iZ 1), .int (iZ (gA m0 x2 0))] 5 dX7_doLine_98 gX7_doLine_X2_comeIn rfl dd_X2_comeIn ⟨rfl, rfl⟩ rfl rfl (by decide) (qr_700 hT k_x0) rfl rfl hR_m0 (k_X2_comeIn (xl X) hT (qr_700 hT k_x0) (hR_m0.a (n := 3) _ k_x2 (by decide)) (by decide) (hR_m0.a (n := 3) _ k_x2 (by decide)) (hR_m0.a (n := 3) _ k_x2 (by decide)) (hR_m0.i 610 _ rfl) e_m6) (fun r_v7 hR_m6 => ?_)
    refine qn_if_le hX (pc := 101) r_v7 108 dX7_doLine_101 (by decide) (fun c8 => ?_) (fun c8 => ?_)
    · have h := ite_f h c8
      refine qn_iconst hX (pc := 108) dX7_doLine_108 ?_
      exact qn_zret hX (pc := 109) dX7_doLine_109 hE hR_m6 (by decide) (Option.some.inj h)
    · have h := ite_t h c8
      refine qn_iconst hX (pc := 104) dX7_doLine_104 ?_
      refine qn_goto hX (pc := 105) 109 dX7_doLine_105 (by decide) ?_
      exact qn_zret hX (pc := 109) dX7_doLine_109 hE hR_m6 (by decide) (Option.some.inj h)
  have h := ite_f h c5
  by_cases c9 : x1 = 2
  · have h := ite_t h c9
    refine qn_tswIn hX (pc := 1) r_x1 110 dX7_doLine_1 2 c9 (by decide) rfl (by decide) ?_
    refine qn_aload_n hX (pc := 110) dX7_doLine_110 0 rfl rfl ?_
    refine qn_aload_n hX (pc := 111) dX7_doLine_111 2 rfl rfl ?_
    refine qn_iconst hX (pc := 112) dX7_doLine_112 ?_
    refine qn_iald hX (pc := 113) (v := gA m0 x2 0) 3 dX7_doLine_113 k_x2 (by decide) (by decide) rfl ?_
    obtain ⟨v11, m10, e_m10, h⟩ := kb2_e h
    refine qn_callVi hX (pc := 114) [.int (iZ (gA m0 x2 0))] [.int (iZ (gA m0 x2 0))] 1 dX7_doLine_114 gX7_doLine_X7_off rfl dd_X7_off ⟨rfl, rfl⟩ rfl rfl (by decide) k_x0 rfl rfl hR_m0 (k_X7_off (xl X) hT k_x0 (hR_m0.a (n := 3) _ k_x2 (by decide)) e_m10) (fun r_v11 hR_m10 => ?_)
    refine qn_iconst hX (pc := 117) dX7_doLine_117 ?_
    refine qn_icmp_eq hX (pc := 118) r_v11 (by decide) 125 dX7_doLine_118 (by decide) (fun c12 => ?_) (fun c12 => ?_)
    · have h := ite_t h c12
      refine qn_iconst hX (pc := 125) dX7_doLine_125 ?_
      exact qn_zret hX (pc := 126) dX7_doLine_126 hE hR_m10 (by decide) (Option.some.inj h)
    · have h := ite_f h c12
      refine qn_iconst hX (pc := 121) dX7_doLine_121 ?_
      refine qn_goto hX (pc := 122) 126 dX7_doLine_122 (by decide) ?_
      exact qn_zret hX (pc := 126) dX7_doLine_126 hE hR_m10 (by decide) (Option.some.inj h)
  have h := ite_f h c9
  by_cases c13 : x1 = 3
  · have h := ite_t h c13
    refine qn_tswIn hX (pc := 1) r_x1 127 dX7_doLine_1 3 c13 (by decide) rfl (by decide) ?_
    refine qn_aload_n hX (pc := 127) dX7_doLine_127 0 rfl rfl ?_
    refine qn_aload_n hX (pc := 128) dX7_doLine_128 2 rfl rfl ?_
    refine qn_iconst hX (pc := 129) dX7_doLine_129 ?_
    refine qn_iald hX (pc := 130) (v := gA m0 x2 0) 3 dX7_doLine_130 k_x2 (by decide) (by decide) rfl ?_
    refine qn_aload_n hX (pc := 131) dX7_doLine_131 2 rfl rfl ?_
    refine qn_iconst hX (pc := 132) dX7_doLine_132 ?_
    refine qn_iald hX (pc := 133) (v := gA m0 x2 1) 3 dX7_doLine_133 k_x2 (by decide) (by decide) rfl ?_
    obtain ⟨v15, m14, e_m14, h⟩ := kb2_e h
    refine qn_callVi hX (pc := 134) [.int (iZ (gA m0 x2 0)), .int (iZ (gA m0 x2 1))] [.int (iZ (gA m0 x2 1)), .int (iZ (gA m0 x2 0))] 2 dX7_doLine_134 gX7_doLine_X7_cut rfl dd_X7_cut ⟨rfl, rfl⟩ rfl rfl (by decide) k_x0 rfl rfl hR_m0 (k_X7_cut (xl X) hT k_x0 (hR_m0.a (n := 3) _ k_x2 (by decide)) (hR_m0.a (n := 3) _ k_x2 (by decide)) e_m14) (fun r_v15 hR_m14 => ?_)
    refine qn_iconst hX (pc := 137) dX7_doLine_137 ?_
    refine qn_icmp_eq hX (pc := 138) r_v15 (by decide) 145 dX7_doLine_138 (by decide) (fun c16 => ?_) (fun c16 => ?_)
    · have h := ite_t h c16
      refine qn_iconst hX (pc := 145) dX7_doLine_145 ?_
      exact qn_zret hX (pc := 146) dX7_doLine_146 hE hR_m14 (by decide) (Option.some.inj h)
    · have h := ite_f h c16
      refine qn_iconst hX (pc := 141) dX7_doLine_141 ?_
      refine qn_goto hX (pc := 142) 146 dX7_doLine_142 (by decide) ?_
      exact qn_zret hX (pc := 146) dX7_doLine_146 hE hR_m14 (by decide) (Option.some.inj h)
  have h := ite_f h c13
  by_cases c17 : x1 = 4
  · have h := ite_t h c17
    refine qn_tswIn hX (pc := 1) r_x1 147 dX7_doLine_1 4 c17 (by decide) rfl (by decide) ?_
    refine qn_aload_n hX (pc := 147) dX7_doLine_147 0 rfl rfl ?_
    refine qn_aload_n hX (pc := 148) dX7_doLine_148 2 rfl rfl ?_
    refine qn_iconst hX (pc := 149) dX7_doLine_149 ?_
    refine qn_iald hX (pc := 150) (v := gA m0 x2 0) 3 dX7_doLine_150 k_x2 (by decide) (by decide) rfl ?_
    obtain ⟨v19, m18, e_m18, h⟩ := kb2_e h
    refine qn_callVi hX (pc := 151) [.int (iZ (gA m0 x2 0))] [.int (iZ (gA m0 x2 0))] 1 dX7_doLine_151 gX7_doLine_X7_grant rfl dd_X7_grant ⟨rfl, rfl⟩ rfl rfl (by decide) k_x0 rfl rfl hR_m0 (k_X7_grant (xl X) hT k_x0 (hR_m0.a (n := 3) _ k_x2 (by decide)) e_m18) (fun r_v19 hR_m18 => ?_)
    refine qn_iconst hX (pc := 154) dX7_doLine_154 ?_
    refine qn_icmp_eq hX (pc := 155) r_v19 (by decide) 162 dX7_doLine_155 (by decide) (fun c20 => ?_) (fun c20 => ?_)
    · have h := ite_t h c20
      refine qn_iconst hX (pc := 162) dX7_doLine_162 ?_
      exact qn_zret hX (pc := 163) dX7_doLine_163 hE hR_m18 (by decide) (Option.some.inj h)
    · have h := ite_f h c20
      refine qn_iconst hX (pc := 158) dX7_doLine_158 ?_
      refine qn_goto hX (pc := 159) 163 dX7_doLine_159 (by decide) ?_
      exact qn_zret hX (pc := 163) dX7_doLine_163 hE hR_m18 (by decide) (Option.some.inj h)
  have h := ite_f h c17
  by_cases c21 : x1 = 5
  · have h := ite_t h c21
    refine qn_tswIn hX (pc := 1) r_x1 164 dX7_doLine_1 5 c21 (by decide) rfl (by decide) ?_
    refine qn_aload_n hX (pc := 164) dX7_doLine_164 0 rfl rfl ?_
    refine qn_aload_n hX (pc := 165) dX7_doLine_165 2 rfl rfl ?_
    refine qn_iconst hX (pc := 166) dX7_doLine_166 ?_
    refine qn_iald hX (pc := 167) (v := gA m0 x2 0) 3 dX7_doLine_167 k_x2 (by decide) (by decide) rfl ?_
    obtain ⟨v23, m22, e_m22, h⟩ := kb2_e h
    refine qn_callVi hX (pc := 168) [.int (iZ (gA m0 x2 0))] [.int (iZ (gA m0 x2 0))] 1 dX7_doLine_168 gX7_doLine_X7_least rfl dd_X7_least ⟨rfl, rfl⟩ rfl rfl (by decide) k_x0 rfl rfl hR_m0 (k_X7_least (xl X) hT k_x0 (hR_m0.a (n := 3) _ k_x2 (by decide)) e_m22) (fun r_v23 hR_m22 => ?_)
    refine qn_iconst hX (pc := 171) dX7_doLine_171 ?_
    refine qn_icmp_eq hX (pc := 172) r_v23 (by decide) 179 dX7_doLine_172 (by decide) (fun c24 => ?_) (fun c24 => ?_)
    · have h := ite_t h c24
      refine qn_iconst hX (pc := 179) dX7_doLine_179 ?_
      exact qn_zret hX (pc := 180) dX7_doLine_180 hE hR_m22 (by decide) (Option.some.inj h)
    · have h := ite_f h c24
      refine qn_iconst hX (pc := 175) dX7_doLine_175 ?_
      refine qn_goto hX (pc := 176) 180 dX7_doLine_176 (by decide) ?_
      exact qn_zret hX (pc := 180) dX7_doLine_180 hE hR_m22 (by decide) (Option.some.inj h)
  have h := ite_f h c21
  by_cases c25 : x1 = 6
  · have h := ite_t h c25
    refine qn_tswIn hX (pc := 1) r_x1 181 dX7_doLine_1 6 c25 (by decide) rfl (by decide) ?_
    refine qn_aload_n hX (pc := 181) dX7_doLine_181 0 rfl rfl ?_
    obtain ⟨v27, m26, e_m26, h⟩ := kb2_e h
    refine qn_callVi hX (pc := 182) [] [] 0 dX7_doLine_182 gX7_doLine_X7_call rfl dd_X7_call ⟨rfl, rfl⟩ rfl rfl (by decide) k_x0 rfl rfl hR_m0 (k_X7_call (xl X) hT k_x0 e_m26) (fun r_v27 hR_m26 => ?_)
    exact qn_zret hX (pc := 185) dX7_doLine_185 hE hR_m26 r_v27 (Option.some.inj h)
  have h := ite_f h c25
  refine qn_tswOut hX (pc := 1) r_x1 186 dX7_doLine_1 (by omega) (by decide) ?_
  refine qn_aload_n hX (pc := 186) dX7_doLine_186 0 rfl rfl ?_
  obtain ⟨v29, m28, e_m28, h⟩ := kb2_e h
  refine qn_callVi hX (pc := 187) [] [] 0 dX7_doLine_187 gX7_doLine_X7_open rfl dd_X7_open ⟨rfl, rfl⟩ rfl rfl (by decide) k_x0 rfl rfl hR_m0 (k_X7_open (xl X) hT k_x0 e_m28) (fun r_v29 hR_m28 => ?_)
  refine qn_iconst hX (pc := 190) dX7_doLine_190 ?_
  refine qn_icmp_eq hX (pc := 191) r_v29 (by decide) 198 dX7_doLine_191 (by decide) (fun c30 => ?_) (fun c30 => ?_)
  · have h := ite_t h c30
    refine qn_iconst hX (pc := 198) dX7_doLine_198 ?_
    exact qn_zret hX (pc := 199) dX7_doLine_199 hE hR_m28 (by decide) (Option.some.inj h)
  · have h := ite_f h c30
    refine qn_iconst hX (pc := 194) dX7_doLine_194 ?_
    refine qn_goto hX (pc := 195) 199 dX7_doLine_195 (by decide) ?_
    exact qn_zret hX (pc := 199) dX7_doLine_199 hE hR_m28 (by decide) (Option.some.inj h)
theorem k_X7_doLine (l : Launch) {G : qG} (hT : qT G) {N : Nat} {x0 : Nat} {x1 : Int} {x2 : Nat} (k_x0 : gK G x0 = 8) (r_x1 : in32 x1) (k_x2 : gK G x2 = 1003) {m0 : qM} {r : Int} {nu : qM} (h : f_X7_doLine N G x0 x1 x2 m0 = some (r, nu)) : qC l yX7_doLine wsX7_doLine 6 148 G [.ref x0, .int (iZ x1), .ref x2] m0 (some (.int (iZ r))) (in01 r) nu := by
  refine qn_start (hy := by decide) hT (hw := rfl) (hn := Nat.le_of_ble_eq_true rfl) ?_
  intro X h1 h2 h3 h4 hX hR
  subst h4
  exact w_X7_doLine hX ⟨h1, fun q => h2 ▸ q, h3⟩ k_x0 r_x1 k_x2 hR h
theorem dd_X7_doLine : yX7_doLine.cls = RX7 ∧ yX7_doLine.cls ≠ "java/lang/invoke/MethodHandle" ∧ yX7_doLine.cls ≠ "java/lang/invoke/VarHandle" ∧ (parseMethodDescriptor yX7_doLine.desc).map (fun d => d.parameters.length) = some 2 := by decide +kernel
