-- ProRataMarketModel.isWord
theorem hi_X8_isWord_8 : ∀ w ∈ wsX80, w ∈ wsX8_isWord := fun w h => List.mem_cons_of_mem _ (List.mem_append_right _ h)
theorem fd_X8_isWord_276 : qFd RX8 wsX8_isWord 276 8 24 0 824 := ⟨RX8, TX8, 32, _, rfl, hi_X8_isWord_8, by decide, (by decide +kernel : Cond.fieldLink RX8 276 (TX8 24).1 (TX8 24).2.1 (TX8 24).2.2.1 ∈ wsX8_isWord), rfl, rfl, by decide⟩
theorem fd_X8_isWord_282 : qFd RX8 wsX8_isWord 282 8 26 0 826 := ⟨RX8, TX8, 32, _, rfl, hi_X8_isWord_8, by decide, (by decide +kernel : Cond.fieldLink RX8 282 (TX8 26).1 (TX8 26).2.1 (TX8 26).2.2.1 ∈ wsX8_isWord), rfl, rfl, by decide⟩
theorem fd_X8_isWord_273 : qFd RX8 wsX8_isWord 273 8 25 0 825 := ⟨RX8, TX8, 32, _, rfl, hi_X8_isWord_8, by decide, (by decide +kernel : Cond.fieldLink RX8 273 (TX8 25).1 (TX8 25).2.1 (TX8 25).2.2.1 ∈ wsX8_isWord), rfl, rfl, by decide⟩
set_option maxHeartbeats 4000000 in
set_option maxRecDepth 20000 in
theorem w_X8_isWord_127 {X : qB} {N : Nat} (hX : qOk X cX8_isWord RX8 7 (some .boolean) wsX8_isWord 1 21) {r : Int} {nu : qM} (hE : xr X = some (.int (iZ r)) ∧ (in01 r → xΦ X) ∧ xμ X = nu) 
      {m0 : qM} (hR_m0 : qR (xG X) m0)
    (h : f_X8_isWord_127 N (xG X)   m0 = some (r, nu)) : qN X 7 127 [] [] m0 := by
  have hT := hX.T
  unfold f_X8_isWord_127 at h
  refine qn_iconst hX (pc := 127) dX8_isWord_127 ?_
  refine qn_goto hX (pc := 128) 132 dX8_isWord_128 (by decide) ?_
  exact qn_zret hX (pc := 132) dX8_isWord_132 hE hR_m0 (by decide) (Option.some.inj h)
set_option maxHeartbeats 4000000 in
set_option maxRecDepth 20000 in
theorem w_X8_isWord_106 {X : qB} {N : Nat} (hX : qOk X cX8_isWord RX8 7 (some .boolean) wsX8_isWord 1 21) {r : Int} {nu : qM} (hE : xr X = some (.int (iZ r)) ∧ (in01 r → xΦ X) ∧ xμ X = nu) 
    {x0 : Nat} {x5 : Int} {x6 : Int} (k_x0 : gK (xG X) x0 = 9) (r_x5 : in32 x5) (r_x6 : in32 x6) {m0 : qM} (hR_m0 : qR (xG X) m0)
    (h : f_X8_isWord_106 N (xG X)  x0 x5 x6 m0 = some (r, nu)) : qN X 7 106 [(0, .ref x0), (5, .int (iZ x5)), (6, .int (iZ x6))] [] m0 := by
  have hT := hX.T
  unfold f_X8_isWord_106 at h
  refine qn_iload hX (pc := 106) dX8_isWord_106 2 rfl ?_
  refine qn_iconst hX (pc := 108) dX8_isWord_108 ?_
  refine qn_icmp_lt hX (pc := 109) r_x6 (by decide) 127 dX8_isWord_109 (by decide) (fun c1 => ?_) (fun c1 => ?_)
  · have h := ite_t h c1
    refine qn_sub (ls' := []) [] rfl ?_
    exact w_X8_isWord_127 hX hE   hR_m0 h
  · have h := ite_f h c1
    refine qn_aload_n hX (pc := 112) dX8_isWord_112 0 rfl rfl ?_
    refine qn_aload_n hX (pc := 113) dX8_isWord_113 0 rfl rfl ?_
    refine qn_getI hX (pc := 114) fd_X8_isWord_276 dX8_isWord_114 k_x0 ?_
    refine qn_iconst hX (pc := 117) dX8_isWord_117 ?_
    obtain ⟨v2, e_v2, r_v2, h⟩ := ckI_e h
    refine qn_iadd hX (pc := 118) dX8_isWord_118 e_v2 ?_
    obtain ⟨v4, m3, e_m3, h⟩ := kb2_e h
    refine qn_callVi hX (pc := 119) [.int (iZ v2)] [.int (iZ v2)] 1 dX8_isWord_119 gX8_isWord_X8_see rfl dd_X8_see ⟨rfl, rfl⟩ rfl rfl (by decide) k_x0 rfl rfl hR_m0 (k_X8_see (xl X) hT k_x0 r_v2 e_m3) (fun r_v4 hR_m3 => ?_)
    refine qn_iload hX (pc := 122) dX8_isWord_122 1 rfl ?_
    refine qn_icmp_ne hX (pc := 124) r_v4 r_x5 131 dX8_isWord_124 (by decide) (fun c5 => ?_) (fun c5 => ?_)
    · have h := ite_f h c5
      refine qn_iconst hX (pc := 131) dX8_isWord_131 ?_
      exact qn_zret hX (pc := 132) dX8_isWord_132 hE hR_m3 (by decide) (Option.some.inj h)
    · have h := ite_t h c5
      refine qn_sub (ls' := []) [] rfl ?_
      exact w_X8_isWord_127 hX hE   hR_m3 h
set_option maxHeartbeats 4000000 in
set_option maxRecDepth 20000 in
theorem w_X8_isWord_19 {X : qB} {N : Nat} (hX : qOk X cX8_isWord RX8 7 (some .boolean) wsX8_isWord 1 21) {r : Int} {nu : qM} (hE : xr X = some (.int (iZ r)) ∧ (in01 r → xΦ X) ∧ xμ X = nu) 
    {x0 : Nat} {x1 : Int} {x2 : Int} {x3 : Int} {x4 : Int} {x5 : Int} {s0 : Int} (k_x0 : gK (xG X) x0 = 9) (r_x1 : in32 x1) (r_x2 : in32 x2) (r_x3 : in32 x3) (r_x4 : in32 x4) (r_x5 : in32 x5) (r_s0 : in32 s0) {m0 : qM} (hR_m0 : qR (xG X) m0)
    (h : f_X8_isWord_19 N (xG X)  x0 x1 x2 x3 x4 x5 s0 m0 = some (r, nu)) : qN X 7 19 [(0, .ref x0), (1, .int (iZ x1)), (2, .int (iZ x2)), (3, .int (iZ x3)), (4, .int (iZ x4)), (5, .int (iZ x5))] [.int (iZ s0)] m0 := by
  have hT := hX.T
  unfold f_X8_isWord_19 at h
  refine qn_istore hX (pc := 19) (ls' := [(6, .int (iZ s0)), (0, .ref x0), (1, .int (iZ x1)), (2, .int (iZ x2)), (3, .int (iZ x3)), (4, .int (iZ x4)), (5, .int (iZ x5))]) dX8_isWord_19 rfl rfl ?_
  refine qn_aload_n hX (pc := 21) dX8_isWord_21 1 rfl rfl ?_
  refine qn_getI hX (pc := 22) fd_X8_isWord_282 dX8_isWord_22 k_x0 ?_
  refine qn_iconst hX (pc := 25) dX8_isWord_25 ?_
  refine qn_icmp_ne hX (pc := 26) (hR_m0.i 826 _ rfl) (by decide) 43 dX8_isWord_26 (by decide) (fun c1 => ?_) (fun c1 => ?_)
  · have h := ite_f h c1
    refine qn_iconst hX (pc := 43) dX8_isWord_43 ?_
    exact qn_zret hX (pc := 44) dX8_isWord_44 hE hR_m0 (by decide) (Option.some.inj h)
  · have h := ite_t h c1
    refine qn_aload_n hX (pc := 29) dX8_isWord_29 1 rfl rfl ?_
    refine qn_getI hX (pc := 30) fd_X8_isWord_273 dX8_isWord_30 k_x0 ?_
    refine qn_aload_n hX (pc := 33) dX8_isWord_33 1 rfl rfl ?_
    refine qn_getI hX (pc := 34) fd_X8_isWord_276 dX8_isWord_34 k_x0 ?_
    obtain ⟨v2, e_v2, r_v2, h⟩ := ckI_e h
    refine qn_isub hX (pc := 37) dX8_isWord_37 e_v2 ?_
    refine qn_iload hX (pc := 38) dX8_isWord_38 0 rfl ?_
    refine qn_icmp_eq hX (pc := 40) r_v2 r_s0 45 dX8_isWord_40 (by decide) (fun c3 => ?_) (fun c3 => ?_)
    · have h := ite_t h c3
      refine qn_aload_n hX (pc := 45) dX8_isWord_45 1 rfl rfl ?_
      refine qn_aload_n hX (pc := 46) dX8_isWord_46 1 rfl rfl ?_
      refine qn_getI hX (pc := 47) fd_X8_isWord_276 dX8_isWord_47 k_x0 ?_
      obtain ⟨v5, m4, e_m4, h⟩ := kb2_e h
      refine qn_callVi hX (pc := 50) [.int (iZ (gI m0 824 x0))] [.int (iZ (gI m0 824 x0))] 1 dX8_isWord_50 gX8_isWord_X8_see rfl dd_X8_see ⟨rfl, rfl⟩ rfl rfl (by decide) k_x0 rfl rfl hR_m0 (k_X8_see (xl X) hT k_x0 (hR_m0.i 824 _ rfl) e_m4) (fun r_v5 hR_m4 => ?_)
      refine qn_iload_n hX (pc := 53) dX8_isWord_53 2 rfl rfl ?_
      refine qn_icmp_ne hX (pc := 54) r_v5 r_x1 131 dX8_isWord_54 (by decide) (fun c6 => ?_) (fun c6 => ?_)
      · have h := ite_f h c6
        refine qn_iconst hX (pc := 131) dX8_isWord_131 ?_
        exact qn_zret hX (pc := 132) dX8_isWord_132 hE hR_m4 (by decide) (Option.some.inj h)
      · have h := ite_t h c6
        refine qn_aload_n hX (pc := 57) dX8_isWord_57 1 rfl rfl ?_
        refine qn_aload_n hX (pc := 58) dX8_isWord_58 1 rfl rfl ?_
        refine qn_getI hX (pc := 59) fd_X8_isWord_276 dX8_isWord_59 k_x0 ?_
        refine qn_iconst hX (pc := 62) dX8_isWord_62 ?_
        obtain ⟨v7, e_v7, r_v7, h⟩ := ckI_e h
        refine qn_iadd hX (pc := 63) dX8_isWord_63 e_v7 ?_
        obtain ⟨v9, m8, e_m8, h⟩ := kb2_e h
        refine qn_callVi hX (pc := 64) [.int (iZ v7)] [.int (iZ v7)] 1 dX8_isWord_64 gX8_isWord_X8_see rfl dd_X8_see ⟨rfl, rfl⟩ rfl rfl (by decide) k_x0 rfl rfl hR_m4 (k_X8_see (xl X) hT k_x0 r_v7 e_m8) (fun r_v9 hR_m8 => ?_)
        refine qn_iload_n hX (pc := 67) dX8_isWord_67 3 rfl rfl ?_
        refine qn_icmp_ne hX (pc := 68) r_v9 r_x2 131 dX8_isWord_68 (by decide) (fun c10 => ?_) (fun c10 => ?_)
        · have h := ite_f h c10
          refine qn_iconst hX (pc := 131) dX8_isWord_131 ?_
          exact qn_zret hX (pc := 132) dX8_isWord_132 hE hR_m8 (by decide) (Option.some.inj h)
        · have h := ite_t h c10
          refine qn_aload_n hX (pc := 71) dX8_isWord_71 1 rfl rfl ?_
          refine qn_aload_n hX (pc := 72) dX8_isWord_72 1 rfl rfl ?_
          refine qn_getI hX (pc := 73) fd_X8_isWord_276 dX8_isWord_73 k_x0 ?_
          refine qn_iconst hX (pc := 76) dX8_isWord_76 ?_
          obtain ⟨v11, e_v11, r_v11, h⟩ := ckI_e h
          refine qn_iadd hX (pc := 77) dX8_isWord_77 e_v11 ?_
          obtain ⟨v13, m12, e_m12, h⟩ := kb2_e h
          refine qn_callVi hX (pc := 78) [.int (iZ v11)] [.int (iZ v11)] 1 dX8_isWord_78 gX8_isWord_X8_see rfl dd_X8_see ⟨rfl, rfl⟩ rfl rfl (by decide) k_x0 rfl rfl hR_m8 (k_X8_see (xl X) hT k_x0 r_v11 e_m12) (fun r_v13 hR_m12 => ?_)
          refine qn_iload_n hX (pc := 81) dX8_isWord_81 4 rfl rfl ?_
          refine qn_icmp_ne hX (pc := 82) r_v13 r_x3 131 dX8_isWord_82 (by decide) (fun c14 => ?_) (fun c14 => ?_)
          · have h := ite_f h c14
            refine qn_iconst hX (pc := 131) dX8_isWord_131 ?_
            exact qn_zret hX (pc := 132) dX8_isWord_132 hE hR_m12 (by decide) (Option.some.inj h)
          · have h := ite_t h c14
            refine qn_iload hX (pc := 85) dX8_isWord_85 0 rfl ?_
            refine qn_iconst hX (pc := 87) dX8_isWord_87 ?_
            refine qn_icmp_lt hX (pc := 88) r_s0 (by decide) 106 dX8_isWord_88 (by decide) (fun c15 => ?_) (fun c15 => ?_)
            · have h := ite_t h c15
              refine qn_sub (ls' := [(0, .ref x0), (5, .int (iZ x5)), (6, .int (iZ s0))]) [1, 6, 0] rfl ?_
              exact w_X8_isWord_106 hX hE  k_x0 r_x5 r_s0 hR_m12 h
            · have h := ite_f h c15
              refine qn_aload_n hX (pc := 91) dX8_isWord_91 1 rfl rfl ?_
              refine qn_aload_n hX (pc := 92) dX8_isWord_92 1 rfl rfl ?_
              refine qn_getI hX (pc := 93) fd_X8_isWord_276 dX8_isWord_93 k_x0 ?_
              refine qn_iconst hX (pc := 96) dX8_isWord_96 ?_
              obtain ⟨v16, e_v16, r_v16, h⟩ := ckI_e h
              refine qn_iadd hX (pc := 97) dX8_isWord_97 e_v16 ?_
              obtain ⟨v18, m17, e_m17, h⟩ := kb2_e h
              refine qn_callVi hX (pc := 98) [.int (iZ v16)] [.int (iZ v16)] 1 dX8_isWord_98 gX8_isWord_X8_see rfl dd_X8_see ⟨rfl, rfl⟩ rfl rfl (by decide) k_x0 rfl rfl hR_m12 (k_X8_see (xl X) hT k_x0 r_v16 e_m17) (fun r_v18 hR_m17 => ?_)
              refine qn_iload hX (pc := 101) dX8_isWord_101 5 rfl ?_
              refine qn_icmp_ne hX (pc := 103) r_v18 r_x4 131 dX8_isWord_103 (by decide) (fun c19 => ?_) (fun c19 => ?_)
              · have h := ite_f h c19
                refine qn_iconst hX (pc := 131) dX8_isWord_131 ?_
                exact qn_zret hX (pc := 132) dX8_isWord_132 hE hR_m17 (by decide) (Option.some.inj h)
              · have h := ite_t h c19
                refine qn_sub (ls' := [(0, .ref x0), (5, .int (iZ x5)), (6, .int (iZ s0))]) [1, 6, 0] rfl ?_
                exact w_X8_isWord_106 hX hE  k_x0 r_x5 r_s0 hR_m17 h
    · have h := ite_f h c3
      refine qn_iconst hX (pc := 43) dX8_isWord_43 ?_
      exact qn_zret hX (pc := 44) dX8_isWord_44 hE hR_m0 (by decide) (Option.some.inj h)
set_option maxHeartbeats 4000000 in
set_option maxRecDepth 20000 in
theorem w_X8_isWord {X : qB} {N : Nat} (hX : qOk X cX8_isWord RX8 7 (some .boolean) wsX8_isWord 1 21) {r : Int} {nu : qM} (hE : xr X = some (.int (iZ r)) ∧ (in01 r → xΦ X) ∧ xμ X = nu) 
    {x0 : Nat} {x1 : Int} {x2 : Int} {x3 : Int} {x4 : Int} {x5 : Int} (k_x0 : gK (xG X) x0 = 9) (r_x1 : in32 x1) (r_x2 : in32 x2) (r_x3 : in32 x3) (r_x4 : in32 x4) (r_x5 : in32 x5) {m0 : qM} (hR_m0 : qR (xG X) m0)
    (h : f_X8_isWord N (xG X)  x0 x1 x2 x3 x4 x5 m0 = some (r, nu)) : qN X 7 0 [(0, .ref x0), (1, .int (iZ x1)), (2, .int (iZ x2)), (3, .int (iZ x3)), (4, .int (iZ x4)), (5, .int (iZ x5))] [] m0 := by
  have hT := hX.T
  unfold f_X8_isWord at h
  refine qn_iload hX (pc := 0) dX8_isWord_0 5 rfl ?_
  refine qn_if_le hX (pc := 2) r_x5 9 dX8_isWord_2 (by decide) (fun c1 => ?_) (fun c1 => ?_)
  · have h := ite_f h c1
    refine qn_iload hX (pc := 9) dX8_isWord_9 4 rfl ?_
    refine qn_if_le hX (pc := 11) r_x4 18 dX8_isWord_11 (by decide) (fun c2 => ?_) (fun c2 => ?_)
    · have h := ite_f h c2
      refine qn_iconst hX (pc := 18) dX8_isWord_18 ?_
      refine qn_sub (ls' := [(0, .ref x0), (1, .int (iZ x1)), (2, .int (iZ x2)), (3, .int (iZ x3)), (4, .int (iZ x4)), (5, .int (iZ x5))]) [0, 1, 2, 3, 4, 5] rfl ?_
      exact w_X8_isWord_19 hX hE  k_x0 r_x1 r_x2 r_x3 r_x4 r_x5 (by decide) hR_m0 h
    · have h := ite_t h c2
      refine qn_iconst hX (pc := 14) dX8_isWord_14 ?_
      refine qn_goto hX (pc := 15) 19 dX8_isWord_15 (by decide) ?_
      refine qn_sub (ls' := [(0, .ref x0), (1, .int (iZ x1)), (2, .int (iZ x2)), (3, .int (iZ x3)), (4, .int (iZ x4)), (5, .int (iZ x5))]) [0, 1, 2, 3, 4, 5] rfl ?_
      exact w_X8_isWord_19 hX hE  k_x0 r_x1 r_x2 r_x3 r_x4 r_x5 (by decide) hR_m0 h
  · have h := ite_t h c1
    refine qn_iconst hX (pc := 5) dX8_isWord_5 ?_
    refine qn_goto hX (pc := 6) 19 dX8_isWord_6 (by decide) ?_
    refine qn_sub (ls' := [(0, .ref x0), (1, .int (iZ x1)), (2, .int (iZ x2)), (3, .int (iZ x3)), (4, .int (iZ x4)), (5, .int (iZ x5))]) [0, 1, 2, 3, 4, 5] rfl ?_
    exact w_X8_isWord_19 hX hE  k_x0 r_x1 r_x2 r_x3 r_x4 r_x5 (by decide) hR_m0 h
theorem k_X8_isWord (l : Launch) {G : qG} (hT : qT G) {N : Nat} {x0 : Nat} {x1 : Int} {x2 : Int} {x3 : Int} {x4 : Int} {x5 : Int} (k_x0 : gK G x0 = 9) (r_x1 : in32 x1) (r_x2 : in32 x2) (r_x3 : in32 x3) (r_x4 : in32 x4) (r_x5 : in32 x5) {m0 : qM} {r : Int} {nu : qM} (h : f_X8_isWord N G x0 x1 x2 x3 x4 x5 m0 = some (r, nu)) : qC l yX8_isWord wsX8_isWord 1 21 G [.ref x0, .int (iZ x1), .int (iZ x2), .int (iZ x3), .int (iZ x4), .int (iZ x5)] m0 (some (.int (iZ r))) (in01 r) nu := by
  refine qn_start (hy := by decide) hT (hw := rfl) (hn := Nat.le_of_ble_eq_true rfl) ?_
  intro X h1 h2 h3 h4 hX hR
  subst h4
  exact w_X8_isWord hX ⟨h1, fun q => h2 ▸ q, h3⟩ k_x0 r_x1 r_x2 r_x3 r_x4 r_x5 hR h
theorem dd_X8_isWord : yX8_isWord.cls = RX8 ∧ yX8_isWord.cls ≠ "java/lang/invoke/MethodHandle" ∧ yX8_isWord.cls ≠ "java/lang/invoke/VarHandle" ∧ (parseMethodDescriptor yX8_isWord.desc).map (fun d => d.parameters.length) = some 5 := by decide +kernel
-- ProRataMarketModel.kindHere
set_option maxHeartbeats 4000000 in
set_option maxRecDepth 20000 in
theorem w_X8_kindHere {X : qB} {N : Nat} (hX : qOk X cX8_kindHere RX8 1 (some .int) wsX8_kindHere 2 47) {r : Int} {nu : qM} (hE : xr X = some (.int (iZ r)) ∧ (in32 r → xΦ X) ∧ xμ X = nu) 
    {x0 : Nat} (k_x0 : gK (xG X) x0 = 9) {m0 : qM} (hR_m0 : qR (xG X) m0)
    (h : f_X8_kindHere N (xG X)  x0 m0 = some (r, nu)) : qN X 1 0 [(0, .ref x0)] [] m0 := by
  have hT := hX.T
  unfold f_X8_kindHere at h
  refine qn_aload_n hX (pc := 0) dX8_kindHere_0 0 rfl rfl ?_
  refine qn_bipush hX (pc := 1) dX8_kindHere_1 (by decide) ?_
  refine qn_bipush hX (pc := 3) dX8_kindHere_3 (by decide) ?_
  refine qn_bipush hX (pc := 5) dX8_kindHere_5 (by decide) ?_
  refine qn_iconst hX (pc := 7) dX8_kindHere_7 ?_
  refine qn_iconst hX (pc := 8) dX8_kindHere_8 ?_
  obtain ⟨v2, m1, e_m1, h⟩ := kb2_e h
  refine qn_callVi hX (pc := 9) [.int (iZ 98), .int (iZ 117), .int (iZ 121), .int (iZ 0), .int (iZ 0)] [.int (iZ 0), .int (iZ 0), .int (iZ 121), .int (iZ 117), .int (iZ 98)] 5 dX8_kindHere_9 gX8_kindHere_X8_isWord rfl dd_X8_isWord ⟨rfl, rfl⟩ rfl rfl (by decide) k_x0 rfl rfl hR_m0 (k_X8_isWord (xl X) hT k_x0 (by decide) (by decide) (by decide) (by decide) (by decide) e_m1) (fun r_v2 hR_m1 => ?_)
  refine qn_if_eq hX (pc := 12) r_v2.i 17 dX8_kindHere_12 (by decide) (fun c3 => ?_) (fun c3 => ?_)
  · have h := ite_t h c3
    refine qn_aload_n hX (pc := 17) dX8_kindHere_17 0 rfl rfl ?_
    refine qn_bipush hX (pc := 18) dX8_kindHere_18 (by decide) ?_
    refine qn_bipush hX (pc := 20) dX8_kindHere_20 (by decide) ?_
    refine qn_bipush hX (pc := 22) dX8_kindHere_22 (by decide) ?_
    refine qn_bipush hX (pc := 24) dX8_kindHere_24 (by decide) ?_
    refine qn_iconst hX (pc := 26) dX8_kindHere_26 ?_
    obtain ⟨v5, m4, e_m4, h⟩ := kb2_e h
    refine qn_callVi hX (pc := 27) [.int (iZ 115), .int (iZ 101), .int (iZ 108), .int (iZ 108), .int (iZ 0)] [.int (iZ 0), .int (iZ 108), .int (iZ 108), .int (iZ 101), .int (iZ 115)] 5 dX8_kindHere_27 gX8_kindHere_X8_isWord rfl dd_X8_isWord ⟨rfl, rfl⟩ rfl rfl (by decide) k_x0 rfl rfl hR_m1 (k_X8_isWord (xl X) hT k_x0 (by decide) (by decide) (by decide) (by decide) (by decide) e_m4) (fun r_v5 hR_m4 => ?_)
    refine qn_if_eq hX (pc := 30) r_v5.i 35 dX8_kindHere_30 (by decide) (fun c6 => ?_) (fun c6 => ?_)
    · have h := ite_t h c6
      refine qn_aload_n hX (pc := 35) dX8_kindHere_35 0 rfl rfl ?_
      refine qn_bipush hX (pc := 36) dX8_kindHere_36 (by decide) ?_
      refine qn_bipush hX (pc := 38) dX8_kindHere_38 (by decide) ?_
      refine qn_bipush hX (pc := 40) dX8_kindHere_40 (by decide) ?_
      refine qn_iconst hX (pc := 42) dX8_kindHere_42 ?_
      refine qn_iconst hX (pc := 43) dX8_kindHere_43 ?_
      obtain ⟨v8, m7, e_m7, h⟩ := kb2_e h
      refine qn_callVi hX (pc := 44) [.int (iZ 111), .int (iZ 102), .int (iZ 102), .int (iZ 0), .int (iZ 0)] [.int (iZ 0), .int (iZ 0), .int (iZ 102), .int (iZ 102), .int (iZ 111)] 5 dX8_kindHere_44 gX8_kindHere_X8_isWord rfl dd_X8_isWord ⟨rfl, rfl⟩ rfl rfl (by decide) k_x0 rfl rfl hR_m4 (k_X8_isWord (xl X) hT k_x0 (by decide) (by decide) (by decide) (by decide) (by decide) e_m7) (fun r_v8 hR_m7 => ?_)
      refine qn_if_eq hX (pc := 47) r_v8.i 52 dX8_kindHere_47 (by decide) (fun c9 => ?_) (fun c9 => ?_)
      · have h := ite_t h c9
        refine qn_aload_n hX (pc := 52) dX8_kindHere_52 0 rfl rfl ?_
        refine qn_bipush hX (pc := 53) dX8_kindHere_53 (by decide) ?_
        refine qn_bipush hX (pc := 55) dX8_kindHere_55 (by decide) ?_
        refine qn_bipush hX (pc := 57) dX8_kindHere_57 (by decide) ?_
        refine qn_iconst hX (pc := 59) dX8_kindHere_59 ?_
        refine qn_iconst hX (pc := 60) dX8_kindHere_60 ?_
        obtain ⟨v11, m10, e_m10, h⟩ := kb2_e h
        refine qn_callVi hX (pc := 61) [.int (iZ 99), .int (iZ 117), .int (iZ 116), .int (iZ 0), .int (iZ 0)] [.int (iZ 0), .int (iZ 0), .int (iZ 116), .int (iZ 117), .int (iZ 99)] 5 dX8_kindHere_61 gX8_kindHere_X8_isWord rfl dd_X8_isWord ⟨rfl, rfl⟩ rfl rfl (by decide) k_x0 rfl rfl hR_m7 (k_X8_isWord (xl X) hT k_x0 (by decide) (by decide) (by decide) (by decide) (by decide) e_m10) (fun r_v11 hR_m10 => ?_)
        refine qn_if_eq hX (pc := 64) r_v11.i 69 dX8_kindHere_64 (by decide) (fun c12 => ?_) (fun c12 => ?_)
        · have h := ite_t h c12
          refine qn_aload_n hX (pc := 69) dX8_kindHere_69 0 rfl rfl ?_
          refine qn_bipush hX (pc := 70) dX8_kindHere_70 (by decide) ?_
          refine qn_bipush hX (pc := 72) dX8_kindHere_72 (by decide) ?_
          refine qn_bipush hX (pc := 74) dX8_kindHere_74 (by decide) ?_
          refine qn_bipush hX (pc := 76) dX8_kindHere_76 (by decide) ?_
          refine qn_bipush hX (pc := 78) dX8_kindHere_78 (by decide) ?_
          obtain ⟨v14, m13, e_m13, h⟩ := kb2_e h
          refine qn_callVi hX (pc := 80) [.int (iZ 103), .int (iZ 114), .int (iZ 97), .int (iZ 110), .int (iZ 116)] [.int (iZ 116), .int (iZ 110), .int (iZ 97), .int (iZ 114), .int (iZ 103)] 5 dX8_kindHere_80 gX8_kindHere_X8_isWord rfl dd_X8_isWord ⟨rfl, rfl⟩ rfl rfl (by decide) k_x0 rfl rfl hR_m10 (k_X8_isWord (xl X) hT k_x0 (by decide) (by decide) (by decide) (by decide) (by decide) e_m13) (fun r_v14 hR_m13 => ?_)
          refine qn_if_eq hX (pc := 83) r_v14.i 88 dX8_kindHere_83 (by decide) (fun c15 => ?_) (fun c15 => ?_)
          · have h := ite_t h c15
            refine qn_aload_n hX (pc := 88) dX8_kindHere_88 0 rfl rfl ?_
            refine qn_bipush hX (pc := 89) dX8_kindHere_89 (by decide) ?_
            refine qn_bipush hX (pc := 91) dX8_kindHere_91 (by decide) ?_
            refine qn_bipush hX (pc := 93) dX8_kindHere_93 (by decide) ?_
            refine qn_bipush hX (pc := 95) dX8_kindHere_95 (by decide) ?_
            refine qn_bipush hX (pc := 97) dX8_kindHere_97 (by decide) ?_
            obtain ⟨v17, m16, e_m16, h⟩ := kb2_e h
            refine qn_callVi hX (pc := 99) [.int (iZ 108), .int (iZ 101), .int (iZ 97), .int (iZ 115), .int (iZ 116)] [.int (iZ 116), .int (iZ 115), .int (iZ 97), .int (iZ 101), .int (iZ 108)] 5 dX8_kindHere_99 gX8_kindHere_X8_isWord rfl dd_X8_isWord ⟨rfl, rfl⟩ rfl rfl (by decide) k_x0 rfl rfl hR_m13 (k_X8_isWord (xl X) hT k_x0 (by decide) (by decide) (by decide) (by decide) (by decide) e_m16) (fun r_v17 hR_m16 => ?_)
            refine qn_if_eq hX (pc := 102) r_v17.i 107 dX8_kindHere_102 (by decide) (fun c18 => ?_) (fun c18 => ?_)
            · have h := ite_t h c18
              refine qn_aload_n hX (pc := 107) dX8_kindHere_107 0 rfl rfl ?_
              refine qn_bipush hX (pc := 108) dX8_kindHere_108 (by decide) ?_
              refine qn_bipush hX (pc := 110) dX8_kindHere_110 (by decide) ?_
              refine qn_bipush hX (pc := 112) dX8_kindHere_112 (by decide) ?_
              refine qn_bipush hX (pc := 114) dX8_kindHere_114 (by decide) ?_
              refine qn_iconst hX (pc := 116) dX8_kindHere_116 ?_
              obtain ⟨v20, m19, e_m19, h⟩ := kb2_e h
              refine qn_callVi hX (pc := 117) [.int (iZ 99), .int (iZ 97), .int (iZ 108), .int (iZ 108), .int (iZ 0)] [.int (iZ 0), .int (iZ 108), .int (iZ 108), .int (iZ 97), .int (iZ 99)] 5 dX8_kindHere_117 gX8_kindHere_X8_isWord rfl dd_X8_isWord ⟨rfl, rfl⟩ rfl rfl (by decide) k_x0 rfl rfl hR_m16 (k_X8_isWord (xl X) hT k_x0 (by decide) (by decide) (by decide) (by decide) (by decide) e_m19) (fun r_v20 hR_m19 => ?_)
              refine qn_if_eq hX (pc := 120) r_v20.i 126 dX8_kindHere_120 (by decide) (fun c21 => ?_) (fun c21 => ?_)
              · have h := ite_t h c21
                refine qn_aload_n hX (pc := 126) dX8_kindHere_126 0 rfl rfl ?_
                refine qn_bipush hX (pc := 127) dX8_kindHere_127 (by decide) ?_
                refine qn_bipush hX (pc := 129) dX8_kindHere_129 (by decide) ?_
                refine qn_bipush hX (pc := 131) dX8_kindHere_131 (by decide) ?_
                refine qn_bipush hX (pc := 133) dX8_kindHere_133 (by decide) ?_
                refine qn_iconst hX (pc := 135) dX8_kindHere_135 ?_
                obtain ⟨v23, m22, e_m22, h⟩ := kb2_e h
                refine qn_callVi hX (pc := 136) [.int (iZ 111), .int (iZ 112), .int (iZ 101), .int (iZ 110), .int (iZ 0)] [.int (iZ 0), .int (iZ 110), .int (iZ 101), .int (iZ 112), .int (iZ 111)] 5 dX8_kindHere_136 gX8_kindHere_X8_isWord rfl dd_X8_isWord ⟨rfl, rfl⟩ rfl rfl (by decide) k_x0 rfl rfl hR_m19 (k_X8_isWord (xl X) hT k_x0 (by decide) (by decide) (by decide) (by decide) (by decide) e_m22) (fun r_v23 hR_m22 => ?_)
                refine qn_if_eq hX (pc := 139) r_v23.i 147 dX8_kindHere_139 (by decide) (fun c24 => ?_) (fun c24 => ?_)
                · have h := ite_t h c24
                  refine qn_iconst hX (pc := 147) dX8_kindHere_147 ?_
                  exact qn_iret hX (pc := 148) dX8_kindHere_148 hE hR_m22 (by decide) (Option.some.inj h)
                · have h := ite_f h c24
                  refine qn_bipush hX (pc := 142) dX8_kindHere_142 (by decide) ?_
                  refine qn_goto hX (pc := 144) 148 dX8_kindHere_144 (by decide) ?_
                  exact qn_iret hX (pc := 148) dX8_kindHere_148 hE hR_m22 (by decide) (Option.some.inj h)
              · have h := ite_f h c21
                refine qn_bipush hX (pc := 123) dX8_kindHere_123 (by decide) ?_
                exact qn_iret hX (pc := 125) dX8_kindHere_125 hE hR_m19 (by decide) (Option.some.inj h)
            · have h := ite_f h c18
              refine qn_iconst hX (pc := 105) dX8_kindHere_105 ?_
              exact qn_iret hX (pc := 106) dX8_kindHere_106 hE hR_m16 (by decide) (Option.some.inj h)
          · have h := ite_f h c15
            refine qn_iconst hX (pc := 86) dX8_kindHere_86 ?_
            exact qn_iret hX (pc := 87) dX8_kindHere_87 hE hR_m13 (by decide) (Option.some.inj h)
        · have h := ite_f h c12
          refine qn_iconst hX (pc := 67) dX8_kindHere_67 ?_
          exact qn_iret hX (pc := 68) dX8_kindHere_68 hE hR_m10 (by decide) (Option.some.inj h)
      · have h := ite_f h c9
        refine qn_iconst hX (pc := 50) dX8_kindHere_50 ?_
        exact qn_iret hX (pc := 51) dX8_kindHere_51 hE hR_m7 (by decide) (Option.some.inj h)
    · have h := ite_f h c6
      refine qn_iconst hX (pc := 33) dX8_kindHere_33 ?_
      exact qn_iret hX (pc := 34) dX8_kindHere_34 hE hR_m4 (by decide) (Option.some.inj h)
  · have h := ite_f h c3
    refine qn_iconst hX (pc := 15) dX8_kindHere_15 ?_
    exact qn_iret hX (pc := 16) dX8_kindHere_16 hE hR_m1 (by decide) (Option.some.inj h)
theorem k_X8_kindHere (l : Launch) {G : qG} (hT : qT G) {N : Nat} {x0 : Nat} (k_x0 : gK G x0 = 9) {m0 : qM} {r : Int} {nu : qM} (h : f_X8_kindHere N G x0 m0 = some (r, nu)) : qC l yX8_kindHere wsX8_kindHere 2 47 G [.ref x0] m0 (some (.int (iZ r))) (in32 r) nu := by
  refine qn_start (hy := by decide) hT (hw := rfl) (hn := Nat.le_of_ble_eq_true rfl) ?_
  intro X h1 h2 h3 h4 hX hR
  subst h4
  exact w_X8_kindHere hX ⟨h1, fun q => h2 ▸ q, h3⟩ k_x0 hR h
theorem dd_X8_kindHere : yX8_kindHere.cls = RX8 ∧ yX8_kindHere.cls ≠ "java/lang/invoke/MethodHandle" ∧ yX8_kindHere.cls ≠ "java/lang/invoke/VarHandle" ∧ (parseMethodDescriptor yX8_kindHere.desc).map (fun d => d.parameters.length) = some 0 := by decide +kernel
-- ProRataMarketModel.laidInAll
theorem hi_X8_laidInAll_8 : ∀ w ∈ wsX80, w ∈ wsX8_laidInAll := fun w h => List.mem_cons_of_mem _ (List.mem_append_right _ h)
theorem fd_X8_laidInAll_68 : qFd RX8 wsX8_laidInAll 68 8 5 0 805 := ⟨RX8, TX8, 32, _, rfl, hi_X8_laidInAll_8, by decide, (by decide +kernel : Cond.fieldLink RX8 68 (TX8 5).1 (TX8 5).2.1 (TX8 5).2.2.1 ∈ wsX8_laidInAll), rfl, rfl, by decide⟩
theorem fd_X8_laidInAll_26 : qFd RX8 wsX8_laidInAll 26 8 7 1 807 := ⟨RX8, TX8, 32, _, rfl, hi_X8_laidInAll_8, by decide, (by decide +kernel : Cond.fieldLink RX8 26 (TX8 7).1 (TX8 7).2.1 (TX8 7).2.2.1 ∈ wsX8_laidInAll), rfl, rfl, by decide⟩
set_option maxHeartbeats 4000000 in
set_option maxRecDepth 20000 in
theorem w_X8_laidInAll_4 {X : qB} {N : Nat} (hX : qOk X cX8_laidInAll RX8 3 (some .int) wsX8_laidInAll 0 0) {r : Int} {nu : qM} (hE : xr X = some (.int (iZ r)) ∧ (in32 r → xΦ X) ∧ xμ X = nu) {k4 : (Nat → Int → Int → qM → Option (Int × qM))} (hk4 : ∀ (x0 : Nat) (x1 : Int) (x2 : Int) (m0 : qM), gK (xG X) x0 = 9 → in32 x1 → in32 x2 → qR (xG X) m0 → k4 x0 x1 x2 m0 = some (r, nu) → qN X 3 4 [(0, .ref x0), (1, .int (iZ x1)), (2, .int (iZ x2))] [] m0)
    {x0 : Nat} {x1 : Int} {x2 : Int} (k_x0 : gK (xG X) x0 = 9) (r_x1 : in32 x1) (r_x2 : in32 x2) {m0 : qM} (hR_m0 : qR (xG X) m0)
    (h : f_X8_laidInAll_4 N (xG X) k4 x0 x1 x2 m0 = some (r, nu)) : qN X 3 4 [(0, .ref x0), (1, .int (iZ x1)), (2, .int (iZ x2))] [] m0 := by
  have hT := hX.T
  unfold f_X8_laidInAll_4 at h
  refine qn_iload_n hX (pc := 4) dX8_laidInAll_4 2 rfl rfl ?_
  refine qn_aload_n hX (pc := 5) dX8_laidInAll_5 0 rfl rfl ?_
  refine qn_getI hX (pc := 6) fd_X8_laidInAll_68 dX8_laidInAll_6 k_x0 ?_
  refine qn_icmp_ge hX (pc := 9) r_x2 (hR_m0.i 805 _ rfl) 27 dX8_laidInAll_9 (by decide) (fun c1 => ?_) (fun c1 => ?_)
  · have h := ite_f h c1
    refine qn_iload_n hX (pc := 27) dX8_laidInAll_27 1 rfl rfl ?_
    exact qn_iret hX (pc := 28) dX8_laidInAll_28 hE hR_m0 r_x1 (Option.some.inj h)
  · have h := ite_t h c1
    refine qn_iload_n hX (pc := 12) dX8_laidInAll_12 1 rfl rfl ?_
    refine qn_aload_n hX (pc := 13) dX8_laidInAll_13 0 rfl rfl ?_
    refine qn_getR hX (pc := 14) fd_X8_laidInAll_26 dX8_laidInAll_14 k_x0 ?_
    refine qn_iload_n hX (pc := 17) dX8_laidInAll_17 2 rfl rfl ?_
    obtain ⟨v2, e_v2, b_v2, h⟩ := rdA_e h
    have r_v2 : in32 v2 := by rw [e_v2]; exact hR_m0.a (n := 70) _ (qr_807 hT k_x0) (by decide)
    refine qn_iald hX (pc := 18) 70 dX8_laidInAll_18 (qr_807 hT k_x0) (by decide) b_v2 e_v2 ?_
    obtain ⟨v3, e_v3, r_v3, h⟩ := ckI_e h
    refine qn_iadd hX (pc := 19) dX8_laidInAll_19 e_v3 ?_
    refine qn_istore_n hX (pc := 20) (ls' := [(1, .int (iZ v3)), (0, .ref x0), (2, .int (iZ x2))]) dX8_laidInAll_20 rfl rfl rfl ?_
    obtain ⟨v4, e_v4, r_v4, h⟩ := ckI_e h
    refine qn_iinc hX (pc := 21) (ls' := [(2, .int (iZ v4)), (1, .int (iZ v3)), (0, .ref x0)]) dX8_laidInAll_21 2 rfl e_v4 rfl rfl ?_
    refine qn_goto hX (pc := 24) 4 dX8_laidInAll_24 (by decide) ?_
    refine qn_sub (ls' := [(0, .ref x0), (1, .int (iZ v3)), (2, .int (iZ v4))]) [2, 1, 0] rfl ?_
    exact hk4 x0 v3 v4 m0 k_x0 r_v3 r_v4 hR_m0 h
set_option maxHeartbeats 4000000 in
set_option maxRecDepth 20000 in
theorem w_X8_laidInAll_L4 {X : qB} {N : Nat} (hX : qOk X cX8_laidInAll RX8 3 (some .int) wsX8_laidInAll 0 0) {r : Int} {nu : qM} (hE : xr X = some (.int (iZ r)) ∧ (in32 r → xΦ X) ∧ xμ X = nu) 
    {x0 : Nat} {x1 : Int} {x2 : Int} (k_x0 : gK (xG X) x0 = 9) (r_x1 : in32 x1) (r_x2 : in32 x2) {m0 : qM} (hR_m0 : qR (xG X) m0)
    (h : f_X8_laidInAll_L4 N (xG X)  x0 x1 x2 m0 = some (r, nu)) : qN X 3 4 [(0, .ref x0), (1, .int (iZ x1)), (2, .int (iZ x2))] [] m0 := by
  unfold f_X8_laidInAll_L4 at h
  exact qLoop_w (σ := Nat × Int × Int × qM) (P := fun p => gK (xG X) p.1 = 9 ∧ in32 p.2.1 ∧ in32 p.2.2.1 ∧ qR (xG X) p.2.2.2) (Q := fun p => qN X 3 4 [(0, .ref p.1), (1, .int (iZ p.2.1)), (2, .int (iZ p.2.2.1))] [] p.2.2.2) (fun k hrec p hp hh => w_X8_laidInAll_4 hX hE (fun x0 x1 x2 m0 q0 q1 q2 hRm hh => hrec (x0, x1, x2, m0) ⟨q0, q1, q2, hRm⟩ hh) hp.1 hp.2.1 hp.2.2.1 hp.2.2.2 hh) N (x0, x1, x2, m0) ⟨k_x0, r_x1, r_x2, hR_m0⟩ h
set_option maxHeartbeats 4000000 in
set_option maxRecDepth 20000 in
theorem w_X8_laidInAll {X : qB} {N : Nat} (hX : qOk X cX8_laidInAll RX8 3 (some .int) wsX8_laidInAll 0 0) {r : Int} {nu : qM} (hE : xr X = some (.int (iZ r)) ∧ (in32 r → xΦ X) ∧ xμ X = nu) 
    {x0 : Nat} (k_x0 : gK (xG X) x0 = 9) {m0 : qM} (hR_m0 : qR (xG X) m0)
    (h : f_X8_laidInAll N (xG X)  x0 m0 = some (r, nu)) : qN X 3 0 [(0, .ref x0)] [] m0 := by
  have hT := hX.T
  unfold f_X8_laidInAll at h
  refine qn_iconst hX (pc := 0) dX8_laidInAll_0 ?_
  refine qn_istore_n hX (pc := 1) (ls' := [(1, .int (iZ 0)), (0, .ref x0)]) dX8_laidInAll_1 rfl rfl rfl ?_
  refine qn_iconst hX (pc := 2) dX8_laidInAll_2 ?_
  refine qn_istore_n hX (pc := 3) (ls' := [(2, .int (iZ 0)), (1, .int (iZ 0)), (0, .ref x0)]) dX8_laidInAll_3 rfl rfl rfl ?_
  refine qn_sub (ls' := [(0, .ref x0), (1, .int (iZ 0)), (2, .int (iZ 0))]) [2, 1, 0] rfl ?_
  exact w_X8_laidInAll_L4 hX hE  k_x0 (by decide) (by decide) hR_m0 h
theorem k_X8_laidInAll (l : Launch) {G : qG} (hT : qT G) {N : Nat} {x0 : Nat} (k_x0 : gK G x0 = 9) {m0 : qM} {r : Int} {nu : qM} (h : f_X8_laidInAll N G x0 m0 = some (r, nu)) : qC l yX8_laidInAll wsX8_laidInAll 0 0 G [.ref x0] m0 (some (.int (iZ r))) (in32 r) nu := by
  refine qn_start (hy := by decide) hT (hw := rfl) (hn := Nat.le_of_ble_eq_true rfl) ?_
  intro X h1 h2 h3 h4 hX hR
  subst h4
  exact w_X8_laidInAll hX ⟨h1, fun q => h2 ▸ q, h3⟩ k_x0 hR h
theorem dd_X8_laidInAll : yX8_laidInAll.cls = RX8 ∧ yX8_laidInAll.cls ≠ "java/lang/invoke/MethodHandle" ∧ yX8_laidInAll.cls ≠ "java/lang/invoke/VarHandle" ∧ (parseMethodDescriptor yX8_laidInAll.desc).map (fun d => d.parameters.length) = some 0 := by decide +kernel
-- ProRataMarketModel.laysFor
theorem hi_X8_laysFor_8 : ∀ w ∈ wsX80, w ∈ wsX8_laysFor := fun w h => List.mem_cons_of_mem _ (List.mem_append_right _ h)
theorem fd_X8_laysFor_23 : qFd RX8 wsX8_laysFor 23 8 6 1 806 := ⟨RX8, TX8, 32, _, rfl, hi_X8_laysFor_8, by decide, (by decide +kernel : Cond.fieldLink RX8 23 (TX8 6).1 (TX8 6).2.1 (TX8 6).2.2.1 ∈ wsX8_laysFor), rfl, rfl, by decide⟩
set_option maxHeartbeats 4000000 in
set_option maxRecDepth 20000 in
theorem w_X8_laysFor_30 {X : qB} {N : Nat} (hX : qOk X cX8_laysFor RX8 4 (some .int) wsX8_laysFor 3 68) {r : Int} {nu : qM} (hE : xr X = some (.int (iZ r)) ∧ (in32 r → xΦ X) ∧ xμ X = nu) {k30 : (Nat → Int → Int → qM → Option (Int × qM))} (hk30 : ∀ (x0 : Nat) (x2 : Int) (x3 : Int) (m0 : qM), gK (xG X) x0 = 9 → in32 x2 → in32 x3 → qR (xG X) m0 → k30 x0 x2 x3 m0 = some (r, nu) → qN X 4 30 [(0, .ref x0), (2, .int (iZ x2)), (3, .int (iZ x3))] [] m0)
    {x0 : Nat} {x2 : Int} {x3 : Int} (k_x0 : gK (xG X) x0 = 9) (r_x2 : in32 x2) (r_x3 : in32 x3) {m0 : qM} (hR_m0 : qR (xG X) m0)
    (h : f_X8_laysFor_30 N (xG X) k30 x0 x2 x3 m0 = some (r, nu)) : qN X 4 30 [(0, .ref x0), (2, .int (iZ x2)), (3, .int (iZ x3))] [] m0 := by
  have hT := hX.T
  unfold f_X8_laysFor_30 at h
  refine qn_aload_n hX (pc := 30) dX8_laysFor_30 0 rfl rfl ?_
  refine qn_getR hX (pc := 31) fd_X8_laysFor_23 dX8_laysFor_31 k_x0 ?_
  refine qn_iload_n hX (pc := 34) dX8_laysFor_34 2 rfl rfl ?_
  obtain ⟨v1, e_v1, b_v1, h⟩ := rdA_e h
  have r_v1 : in32 v1 := by rw [e_v1]; exact hR_m0.a (n := 70) _ (qr_806 hT k_x0) (by decide)
  refine qn_iald hX (pc := 35) 70 dX8_laysFor_35 (qr_806 hT k_x0) (by decide) b_v1 e_v1 ?_
  refine qn_iload_n hX (pc := 36) dX8_laysFor_36 1 rfl rfl ?_
  refine qn_icmp_eq hX (pc := 37) r_v1 r_x2 46 dX8_laysFor_37 (by decide) (fun c2 => ?_) (fun c2 => ?_)
  · have h := ite_t h c2
    refine qn_iload_n hX (pc := 46) dX8_laysFor_46 2 rfl rfl ?_
    exact qn_iret hX (pc := 47) dX8_laysFor_47 hE hR_m0 r_x3 (Option.some.inj h)
  · have h := ite_f h c2
    obtain ⟨v3, e_v3, r_v3, h⟩ := ckI_e h
    refine qn_iinc hX (pc := 40) (ls' := [(3, .int (iZ v3)), (0, .ref x0), (2, .int (iZ x2))]) dX8_laysFor_40 2 rfl e_v3 rfl rfl ?_
    refine qn_goto hX (pc := 43) 30 dX8_laysFor_43 (by decide) ?_
    refine qn_sub (ls' := [(0, .ref x0), (2, .int (iZ x2)), (3, .int (iZ v3))]) [1, 2, 0] rfl ?_
    exact hk30 x0 x2 v3 m0 k_x0 r_x2 r_v3 hR_m0 h
set_option maxHeartbeats 4000000 in
set_option maxRecDepth 20000 in
theorem w_X8_laysFor_L30 {X : qB} {N : Nat} (hX : qOk X cX8_laysFor RX8 4 (some .int) wsX8_laysFor 3 68) {r : Int} {nu : qM} (hE : xr X = some (.int (iZ r)) ∧ (in32 r → xΦ X) ∧ xμ X = nu) 
    {x0 : Nat} {x2 : Int} {x3 : Int} (k_x0 : gK (xG X) x0 = 9) (r_x2 : in32 x2) (r_x3 : in32 x3) {m0 : qM} (hR_m0 : qR (xG X) m0)
    (h : f_X8_laysFor_L30 N (xG X)  x0 x2 x3 m0 = some (r, nu)) : qN X 4 30 [(0, .ref x0), (2, .int (iZ x2)), (3, .int (iZ x3))] [] m0 := by
  unfold f_X8_laysFor_L30 at h
  exact qLoop_w (σ := Nat × Int × Int × qM) (P := fun p => gK (xG X) p.1 = 9 ∧ in32 p.2.1 ∧ in32 p.2.2.1 ∧ qR (xG X) p.2.2.2) (Q := fun p => qN X 4 30 [(0, .ref p.1), (2, .int (iZ p.2.1)), (3, .int (iZ p.2.2.1))] [] p.2.2.2) (fun k hrec p hp hh => w_X8_laysFor_30 hX hE (fun x0 x2 x3 m0 q0 q1 q2 hRm hh => hrec (x0, x2, x3, m0) ⟨q0, q1, q2, hRm⟩ hh) hp.1 hp.2.1 hp.2.2.1 hp.2.2.2 hh) N (x0, x2, x3, m0) ⟨k_x0, r_x2, r_x3, hR_m0⟩ h
set_option maxHeartbeats 4000000 in
set_option maxRecDepth 20000 in
theorem w_X8_laysFor {X : qB} {N : Nat} (hX : qOk X cX8_laysFor RX8 4 (some .int) wsX8_laysFor 3 68) {r : Int} {nu : qM} (hE : xr X = some (.int (iZ r)) ∧ (in32 r → xΦ X) ∧ xμ X = nu) 
    {x0 : Nat} {x1 : Int} (k_x0 : gK (xG X) x0 = 9) (r_x1 : in32 x1) {m0 : qM} (hR_m0 : qR (xG X) m0)
    (h : f_X8_laysFor N (xG X)  x0 x1 m0 = some (r, nu)) : qN X 4 0 [(0, .ref x0), (1, .int (iZ x1))] [] m0 := by
  have hT := hX.T
  unfold f_X8_laysFor at h
  refine qn_aload_n hX (pc := 0) dX8_laysFor_0 0 rfl rfl ?_
  refine qn_iload_n hX (pc := 1) dX8_laysFor_1 1 rfl rfl ?_
  obtain ⟨v2, m1, e_m1, h⟩ := kb2_e h
  refine qn_callVi hX (pc := 2) [.int (iZ x1)] [.int (iZ x1)] 1 dX8_laysFor_2 gX8_laysFor_X8_placeOf rfl dd_X8_placeOf ⟨rfl, rfl⟩ rfl rfl (by decide) k_x0 rfl rfl hR_m0 (k_X8_placeOf (xl X) hT k_x0 r_x1 e_m1) (fun r_v2 hR_m1 => ?_)
  refine qn_istore_n hX (pc := 5) (ls' := [(2, .int (iZ v2)), (0, .ref x0), (1, .int (iZ x1))]) dX8_laysFor_5 rfl rfl rfl ?_
  refine qn_iload_n hX (pc := 6) dX8_laysFor_6 0 rfl rfl ?_
  refine qn_if_ge hX (pc := 7) r_v2 12 dX8_laysFor_7 (by decide) (fun c3 => ?_) (fun c3 => ?_)
  · have h := ite_f h c3
    refine qn_aload_n hX (pc := 12) dX8_laysFor_12 1 rfl rfl ?_
    refine qn_aload_n hX (pc := 13) dX8_laysFor_13 1 rfl rfl ?_
    refine qn_iload_n hX (pc := 14) dX8_laysFor_14 0 rfl rfl ?_
    refine qn_iconst hX (pc := 15) dX8_laysFor_15 ?_
    obtain ⟨v5, m4, e_m4, h⟩ := kb2_e h
    refine qn_callVi hX (pc := 16) [.int (iZ v2), .int (iZ 2)] [.int (iZ 2), .int (iZ v2)] 2 dX8_laysFor_16 gX8_laysFor_X8_ofOrder rfl dd_X8_ofOrder ⟨rfl, rfl⟩ rfl rfl (by decide) k_x0 rfl rfl hR_m1 (k_X8_ofOrder (xl X) hT k_x0 r_v2 (by decide) e_m4) (fun r_v5 hR_m4 => ?_)
    refine qn_aload_n hX (pc := 19) dX8_laysFor_19 1 rfl rfl ?_
    refine qn_iload_n hX (pc := 20) dX8_laysFor_20 0 rfl rfl ?_
    refine qn_iconst hX (pc := 21) dX8_laysFor_21 ?_
    obtain ⟨v7, m6, e_m6, h⟩ := kb2_e h
    refine qn_callVi hX (pc := 22) [.int (iZ v2), .int (iZ 3)] [.int (iZ 3), .int (iZ v2)] 2 dX8_laysFor_22 gX8_laysFor_X8_ofOrder rfl dd_X8_ofOrder ⟨rfl, rfl⟩ rfl rfl (by decide) k_x0 rfl rfl hR_m4 (k_X8_ofOrder (xl X) hT k_x0 r_v2 (by decide) e_m6) (fun r_v7 hR_m6 => ?_)
    obtain ⟨m8, e_m8, h⟩ := kb_e h
    refine qn_callVv hX (pc := 25) [.int (iZ v5), .int (iZ v7)] [.int (iZ v7), .int (iZ v5)] 2 dX8_laysFor_25 gX8_laysFor_X8_lays rfl dd_X8_lays ⟨rfl, rfl⟩ rfl rfl (by decide) k_x0 rfl rfl hR_m6 (k_X8_lays (xl X) hT k_x0 r_v5 r_v7 e_m8) (fun r_v9 hR_m8 => ?_)
    refine qn_iconst hX (pc := 28) dX8_laysFor_28 ?_
    refine qn_istore_n hX (pc := 29) (ls' := [(3, .int (iZ 0)), (2, .int (iZ v2)), (0, .ref x0), (1, .int (iZ x1))]) dX8_laysFor_29 rfl rfl rfl ?_
    refine qn_sub (ls' := [(0, .ref x0), (2, .int (iZ v2)), (3, .int (iZ 0))]) [2, 1, 0] rfl ?_
    exact w_X8_laysFor_L30 hX hE  k_x0 r_v2 (by decide) hR_m8 h
  · have h := ite_t h c3
    refine qn_iconst hX (pc := 10) dX8_laysFor_10 ?_
    exact qn_iret hX (pc := 11) dX8_laysFor_11 hE hR_m1 (by decide) (Option.some.inj h)
theorem k_X8_laysFor (l : Launch) {G : qG} (hT : qT G) {N : Nat} {x0 : Nat} {x1 : Int} (k_x0 : gK G x0 = 9) (r_x1 : in32 x1) {m0 : qM} {r : Int} {nu : qM} (h : f_X8_laysFor N G x0 x1 m0 = some (r, nu)) : qC l yX8_laysFor wsX8_laysFor 3 68 G [.ref x0, .int (iZ x1)] m0 (some (.int (iZ r))) (in32 r) nu := by
  refine qn_start (hy := by decide) hT (hw := rfl) (hn := Nat.le_of_ble_eq_true rfl) ?_
  intro X h1 h2 h3 h4 hX hR
  subst h4
  exact w_X8_laysFor hX ⟨h1, fun q => h2 ▸ q, h3⟩ k_x0 r_x1 hR h
theorem dd_X8_laysFor : yX8_laysFor.cls = RX8 ∧ yX8_laysFor.cls ≠ "java/lang/invoke/MethodHandle" ∧ yX8_laysFor.cls ≠ "java/lang/invoke/VarHandle" ∧ (parseMethodDescriptor yX8_laysFor.desc).map (fun d => d.parameters.length) = some 1 := by decide +kernel
-- ProRataMarketModel.least
theorem hi_X8_least_8 : ∀ w ∈ wsX80, w ∈ wsX8_least := fun w h => List.mem_cons_of_mem _ (List.mem_append_right _ h)
theorem fp_X8_least_45 : qFp RX8 wsX8_least 45 8 4 0 804 .int := ⟨RX8, TX8, 32, _, tyX8, rfl, hi_X8_least_8, by decide, (by decide +kernel : Cond.fieldLink RX8 45 (TX8 4).1 (TX8 4).2.1 (TX8 4).2.2.1 ∈ wsX8_least), rfl, rfl, by decide, tyX8_ok, nmX8, rfl, by decide +kernel⟩
set_option maxHeartbeats 4000000 in
set_option maxRecDepth 20000 in
theorem w_X8_least {X : qB} {N : Nat} (hX : qOk X cX8_least RX8 2 (some .int) wsX8_least 2 50) {r : Int} {nu : qM} (hE : xr X = some (.int (iZ r)) ∧ (in32 r → xΦ X) ∧ xμ X = nu) 
    {x0 : Nat} {x1 : Int} (k_x0 : gK (xG X) x0 = 9) (r_x1 : in32 x1) {m0 : qM} (hR_m0 : qR (xG X) m0)
    (h : f_X8_least N (xG X)  x0 x1 m0 = some (r, nu)) : qN X 2 0 [(0, .ref x0), (1, .int (iZ x1))] [] m0 := by
  have hT := hX.T
  unfold f_X8_least at h
  refine qn_aload_n hX (pc := 0) dX8_least_0 0 rfl rfl ?_
  refine qn_iconst hX (pc := 1) dX8_least_1 ?_
  obtain ⟨m1, e_m1, h⟩ := kp_e h
  refine qn_putI hX (pc := 2) fp_X8_least_45 dX8_least_2 k_x0 hR_m0 (show in32 0 by decide) e_m1 (fun hR_m1 => ?_) 
  refine qn_aload_n hX (pc := 5) dX8_least_5 0 rfl rfl ?_
  refine qn_iconst hX (pc := 6) dX8_least_6 ?_
  refine qn_iload_n hX (pc := 7) dX8_least_7 1 rfl rfl ?_
  refine qn_iconst hX (pc := 8) dX8_least_8 ?_
  refine qn_bipush hX (pc := 9) dX8_least_9 (by decide) ?_
  obtain ⟨v3, m2, e_m2, h⟩ := kb2_e h
  refine qn_callVi hX (pc := 11) [.int (iZ 1), .int (iZ x1), .int (iZ 1), .int (iZ 50)] [.int (iZ 50), .int (iZ 1), .int (iZ x1), .int (iZ 1)] 4 dX8_least_11 gX8_least_X8_sets rfl dd_X8_sets ⟨rfl, rfl⟩ rfl rfl (by decide) k_x0 rfl rfl hR_m1 (k_X8_sets (xl X) hT k_x0 (by decide) r_x1 (by decide) (by decide) e_m2) (fun r_v3 hR_m2 => ?_)
  exact qn_iret hX (pc := 14) dX8_least_14 hE hR_m2 r_v3 (Option.some.inj h)
theorem k_X8_least (l : Launch) {G : qG} (hT : qT G) {N : Nat} {x0 : Nat} {x1 : Int} (k_x0 : gK G x0 = 9) (r_x1 : in32 x1) {m0 : qM} {r : Int} {nu : qM} (h : f_X8_least N G x0 x1 m0 = some (r, nu)) : qC l yX8_least wsX8_least 2 50 G [.ref x0, .int (iZ x1)] m0 (some (.int (iZ r))) (in32 r) nu := by
  refine qn_start (hy := by decide) hT (hw := rfl) (hn := Nat.le_of_ble_eq_true rfl) ?_
  intro X h1 h2 h3 h4 hX hR
  subst h4
  exact w_X8_least hX ⟨h1, fun q => h2 ▸ q, h3⟩ k_x0 r_x1 hR h
theorem dd_X8_least : yX8_least.cls = RX8 ∧ yX8_least.cls ≠ "java/lang/invoke/MethodHandle" ∧ yX8_least.cls ≠ "java/lang/invoke/VarHandle" ∧ (parseMethodDescriptor yX8_least.desc).map (fun d => d.parameters.length) = some 1 := by decide +kernel
-- ProRataMarketModel.priceBehind
theorem hi_X8_priceBehind_8 : ∀ w ∈ wsX80, w ∈ wsX8_priceBehind := fun w h => List.mem_cons_of_mem _ (List.mem_append_right _ h)
theorem fd_X8_priceBehind_7 : qFd RX8 wsX8_priceBehind 7 8 0 1 800 := ⟨RX8, TX8, 32, _, rfl, hi_X8_priceBehind_8, by decide, (by decide +kernel : Cond.fieldLink RX8 7 (TX8 0).1 (TX8 0).2.1 (TX8 0).2.2.1 ∈ wsX8_priceBehind), rfl, rfl, by decide⟩
set_option maxHeartbeats 4000000 in
set_option maxRecDepth 20000 in
theorem w_X8_priceBehind_73 {X : qB} {N : Nat} (hX : qOk X cX8_priceBehind RX8 6 (some .int) wsX8_priceBehind 1 22) {r : Int} {nu : qM} (hE : xr X = some (.int (iZ r)) ∧ (in32 r → xΦ X) ∧ xμ X = nu) {k5 : (Nat → Int → Int → Int → Int → qM → Option (Int × qM))} (hk5 : ∀ (x0 : Nat) (x1 : Int) (x2 : Int) (x3 : Int) (x4 : Int) (m0 : qM), gK (xG X) x0 = 9 → in32 x1 → in32 x2 → in32 x3 → in32 x4 → qR (xG X) m0 → k5 x0 x1 x2 x3 x4 m0 = some (r, nu) → qN X 6 5 [(0, .ref x0), (1, .int (iZ x1)), (2, .int (iZ x2)), (3, .int (iZ x3)), (4, .int (iZ x4))] [] m0)
    {x0 : Nat} {x1 : Int} {x2 : Int} {x3 : Int} {x4 : Int} (k_x0 : gK (xG X) x0 = 9) (r_x1 : in32 x1) (r_x2 : in32 x2) (r_x3 : in32 x3) (r_x4 : in32 x4) {m0 : qM} (hR_m0 : qR (xG X) m0)
    (h : f_X8_priceBehind_73 N (xG X) k5 x0 x1 x2 x3 x4 m0 = some (r, nu)) : qN X 6 73 [(0, .ref x0), (1, .int (iZ x1)), (2, .int (iZ x2)), (3, .int (iZ x3)), (4, .int (iZ x4))] [] m0 := by
  have hT := hX.T
  unfold f_X8_priceBehind_73 at h
  obtain ⟨v1, e_v1, r_v1, h⟩ := ckI_e h
  refine qn_iinc hX (pc := 73) (ls' := [(4, .int (iZ v1)), (0, .ref x0), (1, .int (iZ x1)), (2, .int (iZ x2)), (3, .int (iZ x3))]) dX8_priceBehind_73 4 rfl e_v1 rfl rfl ?_
  refine qn_goto hX (pc := 76) 5 dX8_priceBehind_76 (by decide) ?_
  refine qn_sub (ls' := [(0, .ref x0), (1, .int (iZ x1)), (2, .int (iZ x2)), (3, .int (iZ x3)), (4, .int (iZ v1))]) [1, 2, 3, 4, 0] rfl ?_
  exact hk5 x0 x1 x2 x3 v1 m0 k_x0 r_x1 r_x2 r_x3 r_v1 hR_m0 h
set_option maxHeartbeats 4000000 in
set_option maxRecDepth 20000 in
theorem w_X8_priceBehind_70 {X : qB} {N : Nat} (hX : qOk X cX8_priceBehind RX8 6 (some .int) wsX8_priceBehind 1 22) {r : Int} {nu : qM} (hE : xr X = some (.int (iZ r)) ∧ (in32 r → xΦ X) ∧ xμ X = nu) {k5 : (Nat → Int → Int → Int → Int → qM → Option (Int × qM))} (hk5 : ∀ (x0 : Nat) (x1 : Int) (x2 : Int) (x3 : Int) (x4 : Int) (m0 : qM), gK (xG X) x0 = 9 → in32 x1 → in32 x2 → in32 x3 → in32 x4 → qR (xG X) m0 → k5 x0 x1 x2 x3 x4 m0 = some (r, nu) → qN X 6 5 [(0, .ref x0), (1, .int (iZ x1)), (2, .int (iZ x2)), (3, .int (iZ x3)), (4, .int (iZ x4))] [] m0)
    {x0 : Nat} {x1 : Int} {x2 : Int} {x4 : Int} {x5 : Int} (k_x0 : gK (xG X) x0 = 9) (r_x1 : in32 x1) (r_x2 : in32 x2) (r_x4 : in32 x4) (r_x5 : in32 x5) {m0 : qM} (hR_m0 : qR (xG X) m0)
    (h : f_X8_priceBehind_70 N (xG X) k5 x0 x1 x2 x4 x5 m0 = some (r, nu)) : qN X 6 70 [(0, .ref x0), (1, .int (iZ x1)), (2, .int (iZ x2)), (4, .int (iZ x4)), (5, .int (iZ x5))] [] m0 := by
  have hT := hX.T
  unfold f_X8_priceBehind_70 at h
  refine qn_iload hX (pc := 70) dX8_priceBehind_70 4 rfl ?_
  refine qn_istore_n hX (pc := 72) (ls' := [(3, .int (iZ x5)), (0, .ref x0), (1, .int (iZ x1)), (2, .int (iZ x2)), (4, .int (iZ x4)), (5, .int (iZ x5))]) dX8_priceBehind_72 rfl rfl rfl ?_
  refine qn_sub (ls' := [(0, .ref x0), (1, .int (iZ x1)), (2, .int (iZ x2)), (3, .int (iZ x5)), (4, .int (iZ x4))]) [1, 2, 3, 0, 4] rfl ?_
  exact w_X8_priceBehind_73 hX hE hk5 k_x0 r_x1 r_x2 r_x5 r_x4 hR_m0 h
set_option maxHeartbeats 4000000 in
set_option maxRecDepth 20000 in
theorem w_X8_priceBehind_56 {X : qB} {N : Nat} (hX : qOk X cX8_priceBehind RX8 6 (some .int) wsX8_priceBehind 1 22) {r : Int} {nu : qM} (hE : xr X = some (.int (iZ r)) ∧ (in32 r → xΦ X) ∧ xμ X = nu) {k5 : (Nat → Int → Int → Int → Int → qM → Option (Int × qM))} (hk5 : ∀ (x0 : Nat) (x1 : Int) (x2 : Int) (x3 : Int) (x4 : Int) (m0 : qM), gK (xG X) x0 = 9 → in32 x1 → in32 x2 → in32 x3 → in32 x4 → qR (xG X) m0 → k5 x0 x1 x2 x3 x4 m0 = some (r, nu) → qN X 6 5 [(0, .ref x0), (1, .int (iZ x1)), (2, .int (iZ x2)), (3, .int (iZ x3)), (4, .int (iZ x4))] [] m0)
    {x0 : Nat} {x1 : Int} {x2 : Int} {x3 : Int} {x4 : Int} {x5 : Int} (k_x0 : gK (xG X) x0 = 9) (r_x1 : in32 x1) (r_x2 : in32 x2) (r_x3 : in32 x3) (r_x4 : in32 x4) (r_x5 : in32 x5) {m0 : qM} (hR_m0 : qR (xG X) m0)
    (h : f_X8_priceBehind_56 N (xG X) k5 x0 x1 x2 x3 x4 x5 m0 = some (r, nu)) : qN X 6 56 [(0, .ref x0), (1, .int (iZ x1)), (2, .int (iZ x2)), (3, .int (iZ x3)), (4, .int (iZ x4)), (5, .int (iZ x5))] [] m0 := by
  have hT := hX.T
  unfold f_X8_priceBehind_56 at h
  refine qn_iload_n hX (pc := 56) dX8_priceBehind_56 3 rfl rfl ?_
  refine qn_if_eq hX (pc := 57) r_x3 70 dX8_priceBehind_57 (by decide) (fun c1 => ?_) (fun c1 => ?_)
  · have h := ite_t h c1
    refine qn_sub (ls' := [(0, .ref x0), (1, .int (iZ x1)), (2, .int (iZ x2)), (4, .int (iZ x4)), (5, .int (iZ x5))]) [0, 1, 2, 4, 5] rfl ?_
    exact w_X8_priceBehind_70 hX hE hk5 k_x0 r_x1 r_x2 r_x4 r_x5 hR_m0 h
  · have h := ite_f h c1
    refine qn_iload_n hX (pc := 60) dX8_priceBehind_60 1 rfl rfl ?_
    refine qn_iload hX (pc := 61) dX8_priceBehind_61 5 rfl ?_
    refine qn_iload_n hX (pc := 63) dX8_priceBehind_63 3 rfl rfl ?_
    obtain ⟨v3, m2, e_m2, h⟩ := kb2_e h
    refine qn_callSi hX (pc := 64) [.int (iZ x1), .int (iZ x5), .int (iZ x3)] [.int (iZ x3), .int (iZ x5), .int (iZ x1)] 3 dX8_priceBehind_64 gX8_priceBehind_X8_isBetter rfl dd_X8_isBetter ⟨rfl, rfl⟩ rfl rfl rfl hR_m0 (k_X8_isBetter (xl X) hT r_x1 r_x5 r_x3 e_m2) (fun r_v3 hR_m2 => ?_)
    refine qn_if_eq hX (pc := 67) r_v3.i 73 dX8_priceBehind_67 (by decide) (fun c4 => ?_) (fun c4 => ?_)
    · have h := ite_t h c4
      refine qn_sub (ls' := [(0, .ref x0), (1, .int (iZ x1)), (2, .int (iZ x2)), (3, .int (iZ x3)), (4, .int (iZ x4))]) [0, 1, 2, 3, 4] rfl ?_
      exact w_X8_priceBehind_73 hX hE hk5 k_x0 r_x1 r_x2 r_x3 r_x4 hR_m2 h
    · have h := ite_f h c4
      refine qn_sub (ls' := [(0, .ref x0), (1, .int (iZ x1)), (2, .int (iZ x2)), (4, .int (iZ x4)), (5, .int (iZ x5))]) [0, 1, 2, 4, 5] rfl ?_
      exact w_X8_priceBehind_70 hX hE hk5 k_x0 r_x1 r_x2 r_x4 r_x5 hR_m2 h
set_option maxHeartbeats 4000000 in
set_option maxRecDepth 20000 in
theorem w_X8_priceBehind_5 {X : qB} {N : Nat} (hX : qOk X cX8_priceBehind RX8 6 (some .int) wsX8_priceBehind 1 22) {r : Int} {nu : qM} (hE : xr X = some (.int (iZ r)) ∧ (in32 r → xΦ X) ∧ xμ X = nu) {k5 : (Nat → Int → Int → Int → Int → qM → Option (Int × qM))} (hk5 : ∀ (x0 : Nat) (x1 : Int) (x2 : Int) (x3 : Int) (x4 : Int) (m0 : qM), gK (xG X) x0 = 9 → in32 x1 → in32 x2 → in32 x3 → in32 x4 → qR (xG X) m0 → k5 x0 x1 x2 x3 x4 m0 = some (r, nu) → qN X 6 5 [(0, .ref x0), (1, .int (iZ x1)), (2, .int (iZ x2)), (3, .int (iZ x3)), (4, .int (iZ x4))] [] m0)
    {x0 : Nat} {x1 : Int} {x2 : Int} {x3 : Int} {x4 : Int} (k_x0 : gK (xG X) x0 = 9) (r_x1 : in32 x1) (r_x2 : in32 x2) (r_x3 : in32 x3) (r_x4 : in32 x4) {m0 : qM} (hR_m0 : qR (xG X) m0)
    (h : f_X8_priceBehind_5 N (xG X) k5 x0 x1 x2 x3 x4 m0 = some (r, nu)) : qN X 6 5 [(0, .ref x0), (1, .int (iZ x1)), (2, .int (iZ x2)), (3, .int (iZ x3)), (4, .int (iZ x4))] [] m0 := by
  have hT := hX.T
  unfold f_X8_priceBehind_5 at h
  refine qn_iload hX (pc := 5) dX8_priceBehind_5 4 rfl ?_
  refine qn_aload_n hX (pc := 7) dX8_priceBehind_7 0 rfl rfl ?_
  refine qn_getR hX (pc := 8) fd_X8_priceBehind_7 dX8_priceBehind_8 k_x0 ?_
  refine qn_iconst hX (pc := 11) dX8_priceBehind_11 ?_
  refine qn_iald hX (pc := 12) (v := gA m0 (gR (xG X) 800 x0) 5) 684 dX8_priceBehind_12 (qr_800 hT k_x0) (by decide) (by decide) rfl ?_
  refine qn_icmp_ge hX (pc := 13) r_x4 (hR_m0.a (n := 684) _ (qr_800 hT k_x0) (by decide)) 79 dX8_priceBehind_13 (by decide) (fun c1 => ?_) (fun c1 => ?_)
  · have h := ite_f h c1
    refine qn_iload_n hX (pc := 79) dX8_priceBehind_79 3 rfl rfl ?_
    exact qn_iret hX (pc := 80) dX8_priceBehind_80 hE hR_m0 r_x3 (Option.some.inj h)
  · have h := ite_t h c1
    refine qn_aload_n hX (pc := 16) dX8_priceBehind_16 0 rfl rfl ?_
    refine qn_iload hX (pc := 17) dX8_priceBehind_17 4 rfl ?_
    refine qn_iconst hX (pc := 19) dX8_priceBehind_19 ?_
    obtain ⟨v3, m2, e_m2, h⟩ := kb2_e h
    refine qn_callVi hX (pc := 20) [.int (iZ x4), .int (iZ 2)] [.int (iZ 2), .int (iZ x4)] 2 dX8_priceBehind_20 gX8_priceBehind_X8_ofOrder rfl dd_X8_ofOrder ⟨rfl, rfl⟩ rfl rfl (by decide) k_x0 rfl rfl hR_m0 (k_X8_ofOrder (xl X) hT k_x0 r_x4 (by decide) e_m2) (fun r_v3 hR_m2 => ?_)
    refine qn_iload_n hX (pc := 23) dX8_priceBehind_23 1 rfl rfl ?_
    refine qn_icmp_eq hX (pc := 24) r_v3 r_x1 30 dX8_priceBehind_24 (by decide) (fun c4 => ?_) (fun c4 => ?_)
    · have h := ite_t h c4
      refine qn_aload_n hX (pc := 30) dX8_priceBehind_30 0 rfl rfl ?_
      refine qn_iload hX (pc := 31) dX8_priceBehind_31 4 rfl ?_
      refine qn_iconst hX (pc := 33) dX8_priceBehind_33 ?_
      obtain ⟨v6, m5, e_m5, h⟩ := kb2_e h
      refine qn_callVi hX (pc := 34) [.int (iZ x4), .int (iZ 3)] [.int (iZ 3), .int (iZ x4)] 2 dX8_priceBehind_34 gX8_priceBehind_X8_ofOrder rfl dd_X8_ofOrder ⟨rfl, rfl⟩ rfl rfl (by decide) k_x0 rfl rfl hR_m2 (k_X8_ofOrder (xl X) hT k_x0 r_x4 (by decide) e_m5) (fun r_v6 hR_m5 => ?_)
      refine qn_istore hX (pc := 37) (ls' := [(5, .int (iZ v6)), (0, .ref x0), (1, .int (iZ x1)), (2, .int (iZ x2)), (3, .int (iZ x3)), (4, .int (iZ x4))]) dX8_priceBehind_37 rfl rfl ?_
      refine qn_iload_n hX (pc := 39) dX8_priceBehind_39 3 rfl rfl ?_
      refine qn_if_eq hX (pc := 40) r_x2 56 dX8_priceBehind_40 (by decide) (fun c7 => ?_) (fun c7 => ?_)
      · have h := ite_t h c7
        refine qn_sub (ls' := [(0, .ref x0), (1, .int (iZ x1)), (2, .int (iZ x2)), (3, .int (iZ x3)), (4, .int (iZ x4)), (5, .int (iZ v6))]) [1, 2, 3, 4, 5, 0] rfl ?_
        exact w_X8_priceBehind_56 hX hE hk5 k_x0 r_x1 r_x2 r_x3 r_x4 r_v6 hR_m5 h
      · have h := ite_f h c7
        refine qn_iload_n hX (pc := 43) dX8_priceBehind_43 2 rfl rfl ?_
        refine qn_iload_n hX (pc := 44) dX8_priceBehind_44 3 rfl rfl ?_
        refine qn_iload hX (pc := 45) dX8_priceBehind_45 0 rfl ?_
        obtain ⟨v9, m8, e_m8, h⟩ := kb2_e h
        refine qn_callSi hX (pc := 47) [.int (iZ x1), .int (iZ x2), .int (iZ v6)] [.int (iZ v6), .int (iZ x2), .int (iZ x1)] 3 dX8_priceBehind_47 gX8_priceBehind_X8_isBetter rfl dd_X8_isBetter ⟨rfl, rfl⟩ rfl rfl rfl hR_m5 (k_X8_isBetter (xl X) hT r_x1 r_x2 r_v6 e_m8) (fun r_v9 hR_m8 => ?_)
        refine qn_if_ne hX (pc := 50) r_v9.i 56 dX8_priceBehind_50 (by decide) (fun c10 => ?_) (fun c10 => ?_)
        · have h := ite_f h c10
          refine qn_sub (ls' := [(0, .ref x0), (1, .int (iZ x1)), (2, .int (iZ x2)), (3, .int (iZ x3)), (4, .int (iZ x4)), (5, .int (iZ v6))]) [1, 2, 3, 4, 5, 0] rfl ?_
          exact w_X8_priceBehind_56 hX hE hk5 k_x0 r_x1 r_x2 r_x3 r_x4 r_v6 hR_m8 h
        · have h := ite_t h c10
          refine qn_goto hX (pc := 53) 73 dX8_priceBehind_53 (by decide) ?_
          refine qn_sub (ls' := [(0, .ref x0), (1, .int (iZ x1)), (2, .int (iZ x2)), (3, .int (iZ x3)), (4, .int (iZ x4))]) [1, 2, 3, 4, 5] rfl ?_
          exact w_X8_priceBehind_73 hX hE hk5 k_x0 r_x1 r_x2 r_x3 r_x4 hR_m8 h
    · have h := ite_f h c4
      refine qn_goto hX (pc := 27) 73 dX8_priceBehind_27 (by decide) ?_
      refine qn_sub (ls' := [(0, .ref x0), (1, .int (iZ x1)), (2, .int (iZ x2)), (3, .int (iZ x3)), (4, .int (iZ x4))]) [0, 1, 2, 3, 4] rfl ?_
      exact w_X8_priceBehind_73 hX hE hk5 k_x0 r_x1 r_x2 r_x3 r_x4 hR_m2 h
set_option maxHeartbeats 4000000 in
set_option maxRecDepth 20000 in
theorem w_X8_priceBehind_L5 {X : qB} {N : Nat} (hX : qOk X cX8_priceBehind RX8 6 (some .int) wsX8_priceBehind 1 22) {r : Int} {nu : qM} (hE : xr X = some (.int (iZ r)) ∧ (in32 r → xΦ X) ∧ xμ X = nu) 
    {x0 : Nat} {x1 : Int} {x2 : Int} {x3 : Int} {x4 : Int} (k_x0 : gK (xG X) x0 = 9) (r_x1 : in32 x1) (r_x2 : in32 x2) (r_x3 : in32 x3) (r_x4 : in32 x4) {m0 : qM} (hR_m0 : qR (xG X) m0)
    (h : f_X8_priceBehind_L5 N (xG X)  x0 x1 x2 x3 x4 m0 = some (r, nu)) : qN X 6 5 [(0, .ref x0), (1, .int (iZ x1)), (2, .int (iZ x2)), (3, .int (iZ x3)), (4, .int (iZ x4))] [] m0 := by
  unfold f_X8_priceBehind_L5 at h
  exact qLoop_w (σ := Nat × Int × Int × Int × Int × qM) (P := fun p => gK (xG X) p.1 = 9 ∧ in32 p.2.1 ∧ in32 p.2.2.1 ∧ in32 p.2.2.2.1 ∧ in32 p.2.2.2.2.1 ∧ qR (xG X) p.2.2.2.2.2) (Q := fun p => qN X 6 5 [(0, .ref p.1), (1, .int (iZ p.2.1)), (2, .int (iZ p.2.2.1)), (3, .int (iZ p.2.2.2.1)), (4, .int (iZ p.2.2.2.2.1))] [] p.2.2.2.2.2) (fun k hrec p hp hh => w_X8_priceBehind_5 hX hE (fun x0 x1 x2 x3 x4 m0 q0 q1 q2 q3 q4 hRm hh => hrec (x0, x1, x2, x3, x4, m0) ⟨q0, q1, q2, q3, q4, hRm⟩ hh) hp.1 hp.2.1 hp.2.2.1 hp.2.2.2.1 hp.2.2.2.2.1 hp.2.2.2.2.2 hh) N (x0, x1, x2, x3, x4, m0) ⟨k_x0, r_x1, r_x2, r_x3, r_x4, hR_m0⟩ h
set_option maxHeartbeats 4000000 in
set_option maxRecDepth 20000 in
theorem w_X8_priceBehind {X : qB} {N : Nat} (hX : qOk X cX8_priceBehind RX8 6 (some .int) wsX8_priceBehind 1 22) {r : Int} {nu : qM} (hE : xr X = some (.int (iZ r)) ∧ (in32 r → xΦ X) ∧ xμ X = nu) 
    {x0 : Nat} {x1 : Int} {x2 : Int} (k_x0 : gK (xG X) x0 = 9) (r_x1 : in32 x1) (r_x2 : in32 x2) {m0 : qM} (hR_m0 : qR (xG X) m0)
    (h : f_X8_priceBehind N (xG X)  x0 x1 x2 m0 = some (r, nu)) : qN X 6 0 [(0, .ref x0), (1, .int (iZ x1)), (2, .int (iZ x2))] [] m0 := by
  have hT := hX.T
  unfold f_X8_priceBehind at h
  refine qn_iconst hX (pc := 0) dX8_priceBehind_0 ?_
  refine qn_istore_n hX (pc := 1) (ls' := [(3, .int (iZ 0)), (0, .ref x0), (1, .int (iZ x1)), (2, .int (iZ x2))]) dX8_priceBehind_1 rfl rfl rfl ?_
  refine qn_iconst hX (pc := 2) dX8_priceBehind_2 ?_
  refine qn_istore hX (pc := 3) (ls' := [(4, .int (iZ 0)), (3, .int (iZ 0)), (0, .ref x0), (1, .int (iZ x1)), (2, .int (iZ x2))]) dX8_priceBehind_3 rfl rfl ?_
  refine qn_sub (ls' := [(0, .ref x0), (1, .int (iZ x1)), (2, .int (iZ x2)), (3, .int (iZ 0)), (4, .int (iZ 0))]) [2, 3, 4, 1, 0] rfl ?_
  exact w_X8_priceBehind_L5 hX hE  k_x0 r_x1 r_x2 (by decide) (by decide) hR_m0 h
theorem k_X8_priceBehind (l : Launch) {G : qG} (hT : qT G) {N : Nat} {x0 : Nat} {x1 : Int} {x2 : Int} (k_x0 : gK G x0 = 9) (r_x1 : in32 x1) (r_x2 : in32 x2) {m0 : qM} {r : Int} {nu : qM} (h : f_X8_priceBehind N G x0 x1 x2 m0 = some (r, nu)) : qC l yX8_priceBehind wsX8_priceBehind 1 22 G [.ref x0, .int (iZ x1), .int (iZ x2)] m0 (some (.int (iZ r))) (in32 r) nu := by
  refine qn_start (hy := by decide) hT (hw := rfl) (hn := Nat.le_of_ble_eq_true rfl) ?_
  intro X h1 h2 h3 h4 hX hR
  subst h4
  exact w_X8_priceBehind hX ⟨h1, fun q => h2 ▸ q, h3⟩ k_x0 r_x1 r_x2 hR h
theorem dd_X8_priceBehind : yX8_priceBehind.cls = RX8 ∧ yX8_priceBehind.cls ≠ "java/lang/invoke/MethodHandle" ∧ yX8_priceBehind.cls ≠ "java/lang/invoke/VarHandle" ∧ (parseMethodDescriptor yX8_priceBehind.desc).map (fun d => d.parameters.length) = some 2 := by decide +kernel
-- ProRataMarketModel.ordersAt
theorem hi_X8_ordersAt_8 : ∀ w ∈ wsX80, w ∈ wsX8_ordersAt := fun w h => List.mem_cons_of_mem _ (List.mem_append_right _ h)
theorem fd_X8_ordersAt_7 : qFd RX8 wsX8_ordersAt 7 8 0 1 800 := ⟨RX8, TX8, 32, _, rfl, hi_X8_ordersAt_8, by decide, (by decide +kernel : Cond.fieldLink RX8 7 (TX8 0).1 (TX8 0).2.1 (TX8 0).2.2.1 ∈ wsX8_ordersAt), rfl, rfl, by decide⟩
set_option maxHeartbeats 4000000 in
set_option maxRecDepth 20000 in
theorem w_X8_ordersAt_30 {X : qB} {N : Nat} (hX : qOk X cX8_ordersAt RX8 5 (some .int) wsX8_ordersAt 2 45) {r : Int} {nu : qM} (hE : xr X = some (.int (iZ r)) ∧ (in32 r → xΦ X) ∧ xμ X = nu) {k5 : (Nat → Int → Int → Int → Int → qM → Option (Int × qM))} (hk5 : ∀ (x0 : Nat) (x1 : Int) (x2 : Int) (x3 : Int) (x4 : Int) (m0 : qM), gK (xG X) x0 = 9 → in32 x1 → in32 x2 → in32 x3 → in32 x4 → qR (xG X) m0 → k5 x0 x1 x2 x3 x4 m0 = some (r, nu) → qN X 5 5 [(0, .ref x0), (1, .int (iZ x1)), (2, .int (iZ x2)), (3, .int (iZ x3)), (4, .int (iZ x4))] [] m0)
    {x0 : Nat} {x1 : Int} {x2 : Int} {x3 : Int} {x4 : Int} (k_x0 : gK (xG X) x0 = 9) (r_x1 : in32 x1) (r_x2 : in32 x2) (r_x3 : in32 x3) (r_x4 : in32 x4) {m0 : qM} (hR_m0 : qR (xG X) m0)
    (h : f_X8_ordersAt_30 N (xG X) k5 x0 x1 x2 x3 x4 m0 = some (r, nu)) : qN X 5 30 [(0, .ref x0), (1, .int (iZ x1)), (2, .int (iZ x2)), (3, .int (iZ x3)), (4, .int (iZ x4))] [] m0 := by
  have hT := hX.T
  unfold f_X8_ordersAt_30 at h
  obtain ⟨v1, e_v1, r_v1, h⟩ := ckI_e h
  refine qn_iinc hX (pc := 30) (ls' := [(4, .int (iZ v1)), (0, .ref x0), (1, .int (iZ x1)), (2, .int (iZ x2)), (3, .int (iZ x3))]) dX8_ordersAt_30 4 rfl e_v1 rfl rfl ?_
  refine qn_goto hX (pc := 33) 5 dX8_ordersAt_33 (by decide) ?_
  refine qn_sub (ls' := [(0, .ref x0), (1, .int (iZ x1)), (2, .int (iZ x2)), (3, .int (iZ x3)), (4, .int (iZ v1))]) [1, 2, 3, 4, 0] rfl ?_
  exact hk5 x0 x1 x2 x3 v1 m0 k_x0 r_x1 r_x2 r_x3 r_v1 hR_m0 h
set_option maxHeartbeats 4000000 in
set_option maxRecDepth 20000 in
theorem w_X8_ordersAt_5 {X : qB} {N : Nat} (hX : qOk X cX8_ordersAt RX8 5 (some .int) wsX8_ordersAt 2 45) {r : Int} {nu : qM} (hE : xr X = some (.int (iZ r)) ∧ (in32 r → xΦ X) ∧ xμ X = nu) {k5 : (Nat → Int → Int → Int → Int → qM → Option (Int × qM))} (hk5 : ∀ (x0 : Nat) (x1 : Int) (x2 : Int) (x3 : Int) (x4 : Int) (m0 : qM), gK (xG X) x0 = 9 → in32 x1 → in32 x2 → in32 x3 → in32 x4 → qR (xG X) m0 → k5 x0 x1 x2 x3 x4 m0 = some (r, nu) → qN X 5 5 [(0, .ref x0), (1, .int (iZ x1)), (2, .int (iZ x2)), (3, .int (iZ x3)), (4, .int (iZ x4))] [] m0)
    {x0 : Nat} {x1 : Int} {x2 : Int} {x3 : Int} {x4 : Int} (k_x0 : gK (xG X) x0 = 9) (r_x1 : in32 x1) (r_x2 : in32 x2) (r_x3 : in32 x3) (r_x4 : in32 x4) {m0 : qM} (hR_m0 : qR (xG X) m0)
    (h : f_X8_ordersAt_5 N (xG X) k5 x0 x1 x2 x3 x4 m0 = some (r, nu)) : qN X 5 5 [(0, .ref x0), (1, .int (iZ x1)), (2, .int (iZ x2)), (3, .int (iZ x3)), (4, .int (iZ x4))] [] m0 := by
  have hT := hX.T
  unfold f_X8_ordersAt_5 at h
  refine qn_iload hX (pc := 5) dX8_ordersAt_5 4 rfl ?_
  refine qn_aload_n hX (pc := 7) dX8_ordersAt_7 0 rfl rfl ?_
  refine qn_getR hX (pc := 8) fd_X8_ordersAt_7 dX8_ordersAt_8 k_x0 ?_
  refine qn_iconst hX (pc := 11) dX8_ordersAt_11 ?_
  refine qn_iald hX (pc := 12) (v := gA m0 (gR (xG X) 800 x0) 5) 684 dX8_ordersAt_12 (qr_800 hT k_x0) (by decide) (by decide) rfl ?_
  refine qn_icmp_ge hX (pc := 13) r_x4 (hR_m0.a (n := 684) _ (qr_800 hT k_x0) (by decide)) 36 dX8_ordersAt_13 (by decide) (fun c1 => ?_) (fun c1 => ?_)
  · have h := ite_f h c1
    refine qn_iload_n hX (pc := 36) dX8_ordersAt_36 3 rfl rfl ?_
    exact qn_iret hX (pc := 37) dX8_ordersAt_37 hE hR_m0 r_x3 (Option.some.inj h)
  · have h := ite_t h c1
    refine qn_aload_n hX (pc := 16) dX8_ordersAt_16 0 rfl rfl ?_
    refine qn_iload hX (pc := 17) dX8_ordersAt_17 4 rfl ?_
    refine qn_iload_n hX (pc := 19) dX8_ordersAt_19 1 rfl rfl ?_
    refine qn_iload_n hX (pc := 20) dX8_ordersAt_20 2 rfl rfl ?_
    obtain ⟨v3, m2, e_m2, h⟩ := kb2_e h
    refine qn_callVi hX (pc := 21) [.int (iZ x4), .int (iZ x1), .int (iZ x2)] [.int (iZ x2), .int (iZ x1), .int (iZ x4)] 3 dX8_ordersAt_21 gX8_ordersAt_X8_isAt rfl dd_X8_isAt ⟨rfl, rfl⟩ rfl rfl (by decide) k_x0 rfl rfl hR_m0 (k_X8_isAt (xl X) hT k_x0 r_x4 r_x1 r_x2 e_m2) (fun r_v3 hR_m2 => ?_)
    refine qn_if_eq hX (pc := 24) r_v3.i 30 dX8_ordersAt_24 (by decide) (fun c4 => ?_) (fun c4 => ?_)
    · have h := ite_t h c4
      refine qn_sub (ls' := [(0, .ref x0), (1, .int (iZ x1)), (2, .int (iZ x2)), (3, .int (iZ x3)), (4, .int (iZ x4))]) [0, 1, 2, 3, 4] rfl ?_
      exact w_X8_ordersAt_30 hX hE hk5 k_x0 r_x1 r_x2 r_x3 r_x4 hR_m2 h
    · have h := ite_f h c4
      obtain ⟨v5, e_v5, r_v5, h⟩ := ckI_e h
      refine qn_iinc hX (pc := 27) (ls' := [(3, .int (iZ v5)), (0, .ref x0), (1, .int (iZ x1)), (2, .int (iZ x2)), (4, .int (iZ x4))]) dX8_ordersAt_27 3 rfl e_v5 rfl rfl ?_
      refine qn_sub (ls' := [(0, .ref x0), (1, .int (iZ x1)), (2, .int (iZ x2)), (3, .int (iZ v5)), (4, .int (iZ x4))]) [1, 2, 3, 0, 4] rfl ?_
      exact w_X8_ordersAt_30 hX hE hk5 k_x0 r_x1 r_x2 r_v5 r_x4 hR_m2 h
set_option maxHeartbeats 4000000 in
set_option maxRecDepth 20000 in
theorem w_X8_ordersAt_L5 {X : qB} {N : Nat} (hX : qOk X cX8_ordersAt RX8 5 (some .int) wsX8_ordersAt 2 45) {r : Int} {nu : qM} (hE : xr X = some (.int (iZ r)) ∧ (in32 r → xΦ X) ∧ xμ X = nu) 
    {x0 : Nat} {x1 : Int} {x2 : Int} {x3 : Int} {x4 : Int} (k_x0 : gK (xG X) x0 = 9) (r_x1 : in32 x1) (r_x2 : in32 x2) (r_x3 : in32 x3) (r_x4 : in32 x4) {m0 : qM} (hR_m0 : qR (xG X) m0)
    (h : f_X8_ordersAt_L5 N (xG X)  x0 x1 x2 x3 x4 m0 = some (r, nu)) : qN X 5 5 [(0, .ref x0), (1, .int (iZ x1)), (2, .int (iZ x2)), (3, .int (iZ x3)), (4, .int (iZ x4))] [] m0 := by
  unfold f_X8_ordersAt_L5 at h
  exact qLoop_w (σ := Nat × Int × Int × Int × Int × qM) (P := fun p => gK (xG X) p.1 = 9 ∧ in32 p.2.1 ∧ in32 p.2.2.1 ∧ in32 p.2.2.2.1 ∧ in32 p.2.2.2.2.1 ∧ qR (xG X) p.2.2.2.2.2) (Q := fun p => qN X 5 5 [(0, .ref p.1), (1, .int (iZ p.2.1)), (2, .int (iZ p.2.2.1)), (3, .int (iZ p.2.2.2.1)), (4, .int (iZ p.2.2.2.2.1))] [] p.2.2.2.2.2) (fun k hrec p hp hh => w_X8_ordersAt_5 hX hE (fun x0 x1 x2 x3 x4 m0 q0 q1 q2 q3 q4 hRm hh => hrec (x0, x1, x2, x3, x4, m0) ⟨q0, q1, q2, q3, q4, hRm⟩ hh) hp.1 hp.2.1 hp.2.2.1 hp.2.2.2.1 hp.2.2.2.2.1 hp.2.2.2.2.2 hh) N (x0, x1, x2, x3, x4, m0) ⟨k_x0, r_x1, r_x2, r_x3, r_x4, hR_m0⟩ h
set_option maxHeartbeats 4000000 in
set_option maxRecDepth 20000 in
theorem w_X8_ordersAt {X : qB} {N : Nat} (hX : qOk X cX8_ordersAt RX8 5 (some .int) wsX8_ordersAt 2 45) {r : Int} {nu : qM} (hE : xr X = some (.int (iZ r)) ∧ (in32 r → xΦ X) ∧ xμ X = nu) 
    {x0 : Nat} {x1 : Int} {x2 : Int} (k_x0 : gK (xG X) x0 = 9) (r_x1 : in32 x1) (r_x2 : in32 x2) {m0 : qM} (hR_m0 : qR (xG X) m0)
    (h : f_X8_ordersAt N (xG X)  x0 x1 x2 m0 = some (r, nu)) : qN X 5 0 [(0, .ref x0), (1, .int (iZ x1)), (2, .int (iZ x2))] [] m0 := by
  have hT := hX.T
  unfold f_X8_ordersAt at h
  refine qn_iconst hX (pc := 0) dX8_ordersAt_0 ?_
  refine qn_istore_n hX (pc := 1) (ls' := [(3, .int (iZ 0)), (0, .ref x0), (1, .int (iZ x1)), (2, .int (iZ x2))]) dX8_ordersAt_1 rfl rfl rfl ?_
  refine qn_iconst hX (pc := 2) dX8_ordersAt_2 ?_
  refine qn_istore hX (pc := 3) (ls' := [(4, .int (iZ 0)), (3, .int (iZ 0)), (0, .ref x0), (1, .int (iZ x1)), (2, .int (iZ x2))]) dX8_ordersAt_3 rfl rfl ?_
  refine qn_sub (ls' := [(0, .ref x0), (1, .int (iZ x1)), (2, .int (iZ x2)), (3, .int (iZ 0)), (4, .int (iZ 0))]) [2, 3, 4, 1, 0] rfl ?_
  exact w_X8_ordersAt_L5 hX hE  k_x0 r_x1 r_x2 (by decide) (by decide) hR_m0 h
theorem k_X8_ordersAt (l : Launch) {G : qG} (hT : qT G) {N : Nat} {x0 : Nat} {x1 : Int} {x2 : Int} (k_x0 : gK G x0 = 9) (r_x1 : in32 x1) (r_x2 : in32 x2) {m0 : qM} {r : Int} {nu : qM} (h : f_X8_ordersAt N G x0 x1 x2 m0 = some (r, nu)) : qC l yX8_ordersAt wsX8_ordersAt 2 45 G [.ref x0, .int (iZ x1), .int (iZ x2)] m0 (some (.int (iZ r))) (in32 r) nu := by
  refine qn_start (hy := by decide) hT (hw := rfl) (hn := Nat.le_of_ble_eq_true rfl) ?_
  intro X h1 h2 h3 h4 hX hR
  subst h4
  exact w_X8_ordersAt hX ⟨h1, fun q => h2 ▸ q, h3⟩ k_x0 r_x1 r_x2 hR h
theorem dd_X8_ordersAt : yX8_ordersAt.cls = RX8 ∧ yX8_ordersAt.cls ≠ "java/lang/invoke/MethodHandle" ∧ yX8_ordersAt.cls ≠ "java/lang/invoke/VarHandle" ∧ (parseMethodDescriptor yX8_ordersAt.desc).map (fun d => d.parameters.length) = some 2 := by decide +kernel
-- ProRataMarketModel.level
theorem hi_X8_level_8 : ∀ w ∈ wsX80, w ∈ wsX8_level := fun w h => List.mem_cons_of_mem _ (List.mem_append_right _ h)
theorem fp_X8_level_45 : qFp RX8 wsX8_level 45 8 4 0 804 .int := ⟨RX8, TX8, 32, _, tyX8, rfl, hi_X8_level_8, by decide, (by decide +kernel : Cond.fieldLink RX8 45 (TX8 4).1 (TX8 4).2.1 (TX8 4).2.2.1 ∈ wsX8_level), rfl, rfl, by decide, tyX8_ok, nmX8, rfl, by decide +kernel⟩
set_option maxHeartbeats 4000000 in
set_option maxRecDepth 20000 in
theorem w_X8_level_45 {X : qB} {N : Nat} (hX : qOk X cX8_level RX8 6 (some .int) wsX8_level 3 69) {r : Int} {nu : qM} (hE : xr X = some (.int (iZ r)) ∧ (in32 r → xΦ X) ∧ xμ X = nu) {k45 : (Nat → Int → Int → Int → Int → Int → qM → Option (Int × qM))} (hk45 : ∀ (x0 : Nat) (x1 : Int) (x2 : Int) (x3 : Int) (x4 : Int) (x5 : Int) (m0 : qM), gK (xG X) x0 = 9 → in32 x1 → in32 x2 → in32 x3 → in32 x4 → in32 x5 → qR (xG X) m0 → k45 x0 x1 x2 x3 x4 x5 m0 = some (r, nu) → qN X 6 45 [(0, .ref x0), (1, .int (iZ x1)), (2, .int (iZ x2)), (3, .int (iZ x3)), (4, .int (iZ x4)), (5, .int (iZ x5))] [] m0)
    {x0 : Nat} {x1 : Int} {x2 : Int} {x3 : Int} {x4 : Int} {x5 : Int} (k_x0 : gK (xG X) x0 = 9) (r_x1 : in32 x1) (r_x2 : in32 x2) (r_x3 : in32 x3) (r_x4 : in32 x4) (r_x5 : in32 x5) {m0 : qM} (hR_m0 : qR (xG X) m0)
    (h : f_X8_level_45 N (xG X) k45 x0 x1 x2 x3 x4 x5 m0 = some (r, nu)) : qN X 6 45 [(0, .ref x0), (1, .int (iZ x1)), (2, .int (iZ x2)), (3, .int (iZ x3)), (4, .int (iZ x4)), (5, .int (iZ x5))] [] m0 := by
  have hT := hX.T
  unfold f_X8_level_45 at h
  refine qn_iload hX (pc := 45) dX8_level_45 5 rfl ?_
  refine qn_if_le hX (pc := 47) r_x5 103 dX8_level_47 (by decide) (fun c1 => ?_) (fun c1 => ?_)
  · have h := ite_f h c1
    refine qn_iload_n hX (pc := 103) dX8_level_103 2 rfl rfl ?_
    refine qn_iconst hX (pc := 104) dX8_level_104 ?_
    refine qn_icmp_ne hX (pc := 105) r_x2 (by decide) 113 dX8_level_105 (by decide) (fun c2 => ?_) (fun c2 => ?_)
    · have h := ite_f h c2
      refine qn_iconst hX (pc := 113) dX8_level_113 ?_
      exact qn_iret hX (pc := 114) dX8_level_114 hE hR_m0 (by decide) (Option.some.inj h)
    · have h := ite_t h c2
      refine qn_iload hX (pc := 108) dX8_level_108 4 rfl ?_
      refine qn_goto hX (pc := 110) 114 dX8_level_110 (by decide) ?_
      exact qn_iret hX (pc := 114) dX8_level_114 hE hR_m0 r_x4 (Option.some.inj h)
  · have h := ite_t h c1
    refine qn_iload hX (pc := 50) dX8_level_50 4 rfl ?_
    refine qn_iload_n hX (pc := 52) dX8_level_52 2 rfl rfl ?_
    refine qn_icmp_ne hX (pc := 53) r_x4 r_x2 88 dX8_level_53 (by decide) (fun c3 => ?_) (fun c3 => ?_)
    · have h := ite_f h c3
      obtain ⟨v4, e_v4, r_v4, h⟩ := ckI_e h
      refine qn_iinc hX (pc := 88) (ls' := [(4, .int (iZ v4)), (0, .ref x0), (1, .int (iZ x1)), (2, .int (iZ x2)), (3, .int (iZ x3)), (5, .int (iZ x5))]) dX8_level_88 4 rfl e_v4 rfl rfl ?_
      refine qn_aload_n hX (pc := 91) dX8_level_91 1 rfl rfl ?_
      refine qn_iload_n hX (pc := 92) dX8_level_92 2 rfl rfl ?_
      refine qn_iload hX (pc := 93) dX8_level_93 5 rfl ?_
      obtain ⟨v6, m5, e_m5, h⟩ := kb2_e h
      refine qn_callVi hX (pc := 95) [.int (iZ x1), .int (iZ x5)] [.int (iZ x5), .int (iZ x1)] 2 dX8_level_95 gX8_level_X8_priceBehind rfl dd_X8_priceBehind ⟨rfl, rfl⟩ rfl rfl (by decide) k_x0 rfl rfl hR_m0 (k_X8_priceBehind (xl X) hT k_x0 r_x1 r_x5 e_m5) (fun r_v6 hR_m5 => ?_)
      refine qn_istore hX (pc := 98) (ls' := [(5, .int (iZ v6)), (4, .int (iZ v4)), (0, .ref x0), (1, .int (iZ x1)), (2, .int (iZ x2)), (3, .int (iZ x3))]) dX8_level_98 rfl rfl ?_
      refine qn_goto hX (pc := 100) 45 dX8_level_100 (by decide) ?_
      refine qn_sub (ls' := [(0, .ref x0), (1, .int (iZ x1)), (2, .int (iZ x2)), (3, .int (iZ x3)), (4, .int (iZ v4)), (5, .int (iZ v6))]) [2, 3, 4, 5, 1, 0] rfl ?_
      exact hk45 x0 x1 x2 x3 v4 v6 m5 k_x0 r_x1 r_x2 r_x3 r_v4 r_v6 hR_m5 h
    · have h := ite_t h c3
      refine qn_iload_n hX (pc := 56) dX8_level_56 3 rfl rfl ?_
      refine qn_if_ne hX (pc := 57) r_x3 65 dX8_level_57 (by decide) (fun c7 => ?_) (fun c7 => ?_)
      · have h := ite_f h c7
        refine qn_iload_n hX (pc := 65) dX8_level_65 3 rfl rfl ?_
        refine qn_iconst hX (pc := 66) dX8_level_66 ?_
        refine qn_icmp_ne hX (pc := 67) r_x3 (by decide) 80 dX8_level_67 (by decide) (fun c8 => ?_) (fun c8 => ?_)
        · have h := ite_f h c8
          refine qn_aload_n hX (pc := 80) dX8_level_80 0 rfl rfl ?_
          refine qn_iload_n hX (pc := 81) dX8_level_81 1 rfl rfl ?_
          refine qn_iload hX (pc := 82) dX8_level_82 5 rfl ?_
          obtain ⟨v10, m9, e_m9, h⟩ := kb2_e h
          refine qn_callVi hX (pc := 84) [.int (iZ x1), .int (iZ x5)] [.int (iZ x5), .int (iZ x1)] 2 dX8_level_84 gX8_level_X8_ordersAt rfl dd_X8_ordersAt ⟨rfl, rfl⟩ rfl rfl (by decide) k_x0 rfl rfl hR_m0 (k_X8_ordersAt (xl X) hT k_x0 r_x1 r_x5 e_m9) (fun r_v10 hR_m9 => ?_)
          exact qn_iret hX (pc := 87) dX8_level_87 hE hR_m9 r_v10 (Option.some.inj h)
        · have h := ite_t h c8
          refine qn_aload_n hX (pc := 70) dX8_level_70 0 rfl rfl ?_
          refine qn_iload_n hX (pc := 71) dX8_level_71 1 rfl rfl ?_
          refine qn_iload hX (pc := 72) dX8_level_72 5 rfl ?_
          obtain ⟨v12, m11, e_m11, h⟩ := kb2_e h
          refine qn_callVi hX (pc := 74) [.int (iZ x1), .int (iZ x5)] [.int (iZ x5), .int (iZ x1)] 2 dX8_level_74 gX8_level_X8_sizesAt rfl dd_X8_sizesAt ⟨rfl, rfl⟩ rfl rfl (by decide) k_x0 rfl rfl hR_m0 (k_X8_sizesAt (xl X) hT k_x0 r_x1 r_x5 e_m11) (fun r_v12 hR_m11 => ?_)
          refine qn_goto hX (pc := 77) 87 dX8_level_77 (by decide) ?_
          exact qn_iret hX (pc := 87) dX8_level_87 hE hR_m11 r_v12 (Option.some.inj h)
      · have h := ite_t h c7
        refine qn_iload hX (pc := 60) dX8_level_60 5 rfl ?_
        refine qn_goto hX (pc := 62) 87 dX8_level_62 (by decide) ?_
        exact qn_iret hX (pc := 87) dX8_level_87 hE hR_m0 r_x5 (Option.some.inj h)
set_option maxHeartbeats 4000000 in
set_option maxRecDepth 20000 in
theorem w_X8_level_L45 {X : qB} {N : Nat} (hX : qOk X cX8_level RX8 6 (some .int) wsX8_level 3 69) {r : Int} {nu : qM} (hE : xr X = some (.int (iZ r)) ∧ (in32 r → xΦ X) ∧ xμ X = nu) 
    {x0 : Nat} {x1 : Int} {x2 : Int} {x3 : Int} {x4 : Int} {x5 : Int} (k_x0 : gK (xG X) x0 = 9) (r_x1 : in32 x1) (r_x2 : in32 x2) (r_x3 : in32 x3) (r_x4 : in32 x4) (r_x5 : in32 x5) {m0 : qM} (hR_m0 : qR (xG X) m0)
    (h : f_X8_level_L45 N (xG X)  x0 x1 x2 x3 x4 x5 m0 = some (r, nu)) : qN X 6 45 [(0, .ref x0), (1, .int (iZ x1)), (2, .int (iZ x2)), (3, .int (iZ x3)), (4, .int (iZ x4)), (5, .int (iZ x5))] [] m0 := by
  unfold f_X8_level_L45 at h
  exact qLoop_w (σ := Nat × Int × Int × Int × Int × Int × qM) (P := fun p => gK (xG X) p.1 = 9 ∧ in32 p.2.1 ∧ in32 p.2.2.1 ∧ in32 p.2.2.2.1 ∧ in32 p.2.2.2.2.1 ∧ in32 p.2.2.2.2.2.1 ∧ qR (xG X) p.2.2.2.2.2.2) (Q := fun p => qN X 6 45 [(0, .ref p.1), (1, .int (iZ p.2.1)), (2, .int (iZ p.2.2.1)), (3, .int (iZ p.2.2.2.1)), (4, .int (iZ p.2.2.2.2.1)), (5, .int (iZ p.2.2.2.2.2.1))] [] p.2.2.2.2.2.2) (fun k hrec p hp hh => w_X8_level_45 hX hE (fun x0 x1 x2 x3 x4 x5 m0 q0 q1 q2 q3 q4 q5 hRm hh => hrec (x0, x1, x2, x3, x4, x5, m0) ⟨q0, q1, q2, q3, q4, q5, hRm⟩ hh) hp.1 hp.2.1 hp.2.2.1 hp.2.2.2.1 hp.2.2.2.2.1 hp.2.2.2.2.2.1 hp.2.2.2.2.2.2 hh) N (x0, x1, x2, x3, x4, x5, m0) ⟨k_x0, r_x1, r_x2, r_x3, r_x4, r_x5, hR_m0⟩ h
set_option maxHeartbeats 4000000 in
set_option maxRecDepth 20000 in
theorem w_X8_level {X : qB} {N : Nat} (hX : qOk X cX8_level RX8 6 (some .int) wsX8_level 3 69) {r : Int} {nu : qM} (hE : xr X = some (.int (iZ r)) ∧ (in32 r → xΦ X) ∧ xμ X = nu) 
    {x0 : Nat} {x1 : Int} {x2 : Int} {x3 : Int} (k_x0 : gK (xG X) x0 = 9) (r_x1 : in32 x1) (r_x2 : in32 x2) (r_x3 : in32 x3) {m0 : qM} (hR_m0 : qR (xG X) m0)
    (h : f_X8_level N (xG X)  x0 x1 x2 x3 m0 = some (r, nu)) : qN X 6 0 [(0, .ref x0), (1, .int (iZ x1)), (2, .int (iZ x2)), (3, .int (iZ x3))] [] m0 := by
  have hT := hX.T
  unfold f_X8_level at h
  refine qn_aload_n hX (pc := 0) dX8_level_0 0 rfl rfl ?_
  refine qn_iconst hX (pc := 1) dX8_level_1 ?_
  obtain ⟨m1, e_m1, h⟩ := kp_e h
  refine qn_putI hX (pc := 2) fp_X8_level_45 dX8_level_2 k_x0 hR_m0 (show in32 0 by decide) e_m1 (fun hR_m1 => ?_) 
  refine qn_iload_n hX (pc := 5) dX8_level_5 1 rfl rfl ?_
  refine qn_i2l hX (pc := 6) r_x1 dX8_level_6 ?_
  refine qn_lconst hX (pc := 7) 0 dX8_level_7 (by decide) ?_
  refine qn_lconst hX (pc := 8) 1 dX8_level_8 (by decide) ?_
  obtain ⟨v3, m2, e_m2, h⟩ := kb2_e h
  refine qn_callSi hX (pc := 9) [.long (lZ x1), .long (lZ 0), .long (lZ 1)] [.long (lZ 1), .long (lZ 0), .long (lZ x1)] 3 dX8_level_9 gX8_level_X8_within rfl dd_X8_within ⟨rfl, rfl⟩ rfl rfl rfl hR_m1 (k_X8_within (xl X) hT (in32.l r_x1) (by decide) (by decide) e_m2) (fun r_v3 hR_m2 => ?_)
  refine qn_if_eq hX (pc := 12) r_v3.i 32 dX8_level_12 (by decide) (fun c4 => ?_) (fun c4 => ?_)
  · have h := ite_t h c4
    refine qn_iconst hX (pc := 32) dX8_level_32 ?_
    exact qn_iret hX (pc := 33) dX8_level_33 hE hR_m2 (by decide) (Option.some.inj h)
  · have h := ite_f h c4
    refine qn_iload_n hX (pc := 15) dX8_level_15 3 rfl rfl ?_
    refine qn_i2l hX (pc := 16) r_x3 dX8_level_16 ?_
    refine qn_lconst hX (pc := 17) 0 dX8_level_17 (by decide) ?_
    refine qn_ldc2 hX (pc := 18) 2 dX8_level_18 (by decide +kernel : Cond.constantLong RX8 238 (2) ∈ wsX8_level) (by decide) ?_
    obtain ⟨v6, m5, e_m5, h⟩ := kb2_e h
    refine qn_callSi hX (pc := 21) [.long (lZ x3), .long (lZ 0), .long (lZ 2)] [.long (lZ 2), .long (lZ 0), .long (lZ x3)] 3 dX8_level_21 gX8_level_X8_within rfl dd_X8_within ⟨rfl, rfl⟩ rfl rfl rfl hR_m2 (k_X8_within (xl X) hT (in32.l r_x3) (by decide) (by decide) e_m5) (fun r_v6 hR_m5 => ?_)
    refine qn_if_eq hX (pc := 24) r_v6.i 32 dX8_level_24 (by decide) (fun c7 => ?_) (fun c7 => ?_)
    · have h := ite_t h c7
      refine qn_iconst hX (pc := 32) dX8_level_32 ?_
      exact qn_iret hX (pc := 33) dX8_level_33 hE hR_m5 (by decide) (Option.some.inj h)
    · have h := ite_f h c7
      refine qn_iload_n hX (pc := 27) dX8_level_27 2 rfl rfl ?_
      refine qn_iconst hX (pc := 28) dX8_level_28 ?_
      refine qn_icmp_ge hX (pc := 29) r_x2 (by decide) 34 dX8_level_29 (by decide) (fun c8 => ?_) (fun c8 => ?_)
      · have h := ite_f h c8
        refine qn_iconst hX (pc := 34) dX8_level_34 ?_
        refine qn_istore hX (pc := 35) (ls' := [(4, .int (iZ 0)), (0, .ref x0), (1, .int (iZ x1)), (2, .int (iZ x2)), (3, .int (iZ x3))]) dX8_level_35 rfl rfl ?_
        refine qn_aload_n hX (pc := 37) dX8_level_37 1 rfl rfl ?_
        refine qn_iload_n hX (pc := 38) dX8_level_38 2 rfl rfl ?_
        refine qn_iconst hX (pc := 39) dX8_level_39 ?_
        obtain ⟨v10, m9, e_m9, h⟩ := kb2_e h
        refine qn_callVi hX (pc := 40) [.int (iZ x1), .int (iZ 0)] [.int (iZ 0), .int (iZ x1)] 2 dX8_level_40 gX8_level_X8_priceBehind rfl dd_X8_priceBehind ⟨rfl, rfl⟩ rfl rfl (by decide) k_x0 rfl rfl hR_m5 (k_X8_priceBehind (xl X) hT k_x0 r_x1 (by decide) e_m9) (fun r_v10 hR_m9 => ?_)
        refine qn_istore hX (pc := 43) (ls' := [(5, .int (iZ v10)), (4, .int (iZ 0)), (0, .ref x0), (1, .int (iZ x1)), (2, .int (iZ x2)), (3, .int (iZ x3))]) dX8_level_43 rfl rfl ?_
        refine qn_sub (ls' := [(0, .ref x0), (1, .int (iZ x1)), (2, .int (iZ x2)), (3, .int (iZ x3)), (4, .int (iZ 0)), (5, .int (iZ v10))]) [2, 3, 4, 5, 1, 0] rfl ?_
        exact w_X8_level_L45 hX hE  k_x0 r_x1 r_x2 r_x3 (by decide) r_v10 hR_m9 h
      · have h := ite_t h c8
        refine qn_iconst hX (pc := 32) dX8_level_32 ?_
        exact qn_iret hX (pc := 33) dX8_level_33 hE hR_m5 (by decide) (Option.some.inj h)
theorem k_X8_level (l : Launch) {G : qG} (hT : qT G) {N : Nat} {x0 : Nat} {x1 : Int} {x2 : Int} {x3 : Int} (k_x0 : gK G x0 = 9) (r_x1 : in32 x1) (r_x2 : in32 x2) (r_x3 : in32 x3) {m0 : qM} {r : Int} {nu : qM} (h : f_X8_level N G x0 x1 x2 x3 m0 = some (r, nu)) : qC l yX8_level wsX8_level 3 69 G [.ref x0, .int (iZ x1), .int (iZ x2), .int (iZ x3)] m0 (some (.int (iZ r))) (in32 r) nu := by
  refine qn_start (hy := by decide) hT (hw := rfl) (hn := Nat.le_of_ble_eq_true rfl) ?_
  intro X h1 h2 h3 h4 hX hR
  subst h4
  exact w_X8_level hX ⟨h1, fun q => h2 ▸ q, h3⟩ k_x0 r_x1 r_x2 r_x3 hR h
theorem dd_X8_level : yX8_level.cls = RX8 ∧ yX8_level.cls ≠ "java/lang/invoke/MethodHandle" ∧ yX8_level.cls ≠ "java/lang/invoke/VarHandle" ∧ (parseMethodDescriptor yX8_level.desc).map (fun d => d.parameters.length) = some 3 := by decide +kernel
