-- ProRataMarket$Floor.preventSelf
theorem hi_X2_preventSelf_2 : ∀ w ∈ wsX20, w ∈ wsX2_preventSelf := fun w h => List.mem_cons_of_mem _ (List.mem_append_left _ (List.mem_append_left _ (List.mem_append_right _ h)))
theorem fd_X2_preventSelf_12 : qFd RX2 wsX2_preventSelf 12 2 0 1 200 := ⟨RX2, TX2, 12, _, rfl, hi_X2_preventSelf_2, by decide, (by decide +kernel : Cond.fieldLink RX2 12 (TX2 0).1 (TX2 0).2.1 (TX2 0).2.2.1 ∈ wsX2_preventSelf), rfl, rfl, by decide⟩
theorem fd_X2_preventSelf_42 : qFd RX2 wsX2_preventSelf 42 2 4 1 204 := ⟨RX2, TX2, 12, _, rfl, hi_X2_preventSelf_2, by decide, (by decide +kernel : Cond.fieldLink RX2 42 (TX2 4).1 (TX2 4).2.1 (TX2 4).2.2.1 ∈ wsX2_preventSelf), rfl, rfl, by decide⟩
theorem hi_X2_preventSelf_4 : ∀ w ∈ wsX40, w ∈ wsX2_preventSelf := fun w h => List.mem_cons_of_mem _ (List.mem_append_right _ h)
theorem fp_X2_preventSelf_88 : qFp RX2 wsX2_preventSelf 88 4 4 0 404 .int := ⟨RX4, TX4, 6, _, tyX4, rfl, hi_X2_preventSelf_4, by decide, (by decide +kernel : Cond.fieldLink RX2 88 (TX4 4).1 (TX4 4).2.1 (TX4 4).2.2.1 ∈ wsX2_preventSelf), rfl, rfl, by decide, tyX4_ok, nmX4, rfl, by decide +kernel⟩
theorem hi_X2_preventSelf_0 : ∀ w ∈ wsX00, w ∈ wsX2_preventSelf := fun w h => List.mem_cons_of_mem _ (List.mem_append_left _ (List.mem_append_right _ h))
theorem fd_X2_preventSelf_127 : qFd RX2 wsX2_preventSelf 127 0 1 0 1 := ⟨RX0, TX0, 4, _, rfl, hi_X2_preventSelf_0, by decide, (by decide +kernel : Cond.fieldLink RX2 127 (TX0 1).1 (TX0 1).2.1 (TX0 1).2.2.1 ∈ wsX2_preventSelf), rfl, rfl, by decide⟩
theorem fd_X2_preventSelf_130 : qFd RX2 wsX2_preventSelf 130 0 0 1 0 := ⟨RX0, TX0, 4, _, rfl, hi_X2_preventSelf_0, by decide, (by decide +kernel : Cond.fieldLink RX2 130 (TX0 0).1 (TX0 0).2.1 (TX0 0).2.2.1 ∈ wsX2_preventSelf), rfl, rfl, by decide⟩
theorem fd_X2_preventSelf_137 : qFd RX2 wsX2_preventSelf 137 4 1 0 401 := ⟨RX4, TX4, 6, _, rfl, hi_X2_preventSelf_4, by decide, (by decide +kernel : Cond.fieldLink RX2 137 (TX4 1).1 (TX4 1).2.1 (TX4 1).2.2.1 ∈ wsX2_preventSelf), rfl, rfl, by decide⟩
set_option maxHeartbeats 4000000 in
set_option maxRecDepth 20000 in
theorem w_X2_preventSelf_98 {X : qB} {N : Nat} (hX : qOk X cX2_preventSelf RX2 7 none wsX2_preventSelf 2 47) {r : qM} (hE : xr X = none ∧ (True → xΦ X) ∧ xμ X = r) 
    {x0 : Nat} (k_x0 : gK (xG X) x0 = 3) {m0 : qM} (hR_m0 : qR (xG X) m0)
    (h : f_X2_preventSelf_98 N (xG X)  x0 m0 = some r) : qN X 7 98 [(0, .ref x0)] [] m0 := by
  have hT := hX.T
  unfold f_X2_preventSelf_98 at h
  refine qn_aload_n hX (pc := 98) dX2_preventSelf_98 0 rfl rfl ?_
  refine qn_getR hX (pc := 99) fd_X2_preventSelf_12 dX2_preventSelf_99 k_x0 ?_
  obtain ⟨m1, e_m1, h⟩ := kb_e h
  refine qn_callVv hX (pc := 102) [] [] 0 dX2_preventSelf_102 gX2_preventSelf_X0_sweep rfl dd_X0_sweep ⟨rfl, rfl⟩ rfl rfl (by decide) (qr_200 hT k_x0) rfl rfl hR_m0 (k_X0_sweep (xl X) hT (qr_200 hT k_x0) e_m1) (fun r_v2 hR_m1 => ?_)
  exact qn_vret hX (pc := 105) dX2_preventSelf_105 hE hR_m1 (Option.some.inj h)
set_option maxHeartbeats 4000000 in
set_option maxRecDepth 20000 in
theorem w_X2_preventSelf_90 {X : qB} {N : Nat} (hX : qOk X cX2_preventSelf RX2 7 none wsX2_preventSelf 2 47) {r : qM} (hE : xr X = none ∧ (True → xΦ X) ∧ xμ X = r) 
    {x0 : Nat} (k_x0 : gK (xG X) x0 = 3) {m0 : qM} (hR_m0 : qR (xG X) m0)
    (h : f_X2_preventSelf_90 N (xG X)  x0 m0 = some r) : qN X 7 90 [(0, .ref x0)] [] m0 := by
  have hT := hX.T
  unfold f_X2_preventSelf_90 at h
  refine qn_aload_n hX (pc := 90) dX2_preventSelf_90 0 rfl rfl ?_
  refine qn_getR hX (pc := 91) fd_X2_preventSelf_42 dX2_preventSelf_91 k_x0 ?_
  refine qn_iconst hX (pc := 94) dX2_preventSelf_94 ?_
  obtain ⟨m1, e_m1, h⟩ := kp_e h
  refine qn_putI hX (pc := 95) fp_X2_preventSelf_88 dX2_preventSelf_95 (qr_204 hT k_x0) hR_m0 (show in32 0 by decide) e_m1 (fun hR_m1 => ?_) 
  refine qn_sub (ls' := [(0, .ref x0)]) [0] rfl ?_
  exact w_X2_preventSelf_98 hX hE  k_x0 hR_m1 h
set_option maxHeartbeats 4000000 in
set_option maxRecDepth 20000 in
theorem w_X2_preventSelf_69 {X : qB} {N : Nat} (hX : qOk X cX2_preventSelf RX2 7 none wsX2_preventSelf 2 47) {r : qM} (hE : xr X = none ∧ (True → xΦ X) ∧ xμ X = r) {k6 : (Nat → Int → Int → Int → Int → Int → qM → Option (qM))} (hk6 : ∀ (x0 : Nat) (x1 : Int) (x2 : Int) (x3 : Int) (x4 : Int) (x5 : Int) (m0 : qM), gK (xG X) x0 = 3 → in32 x1 → in32 x2 → in32 x3 → in01 x4 → in32 x5 → qR (xG X) m0 → k6 x0 x1 x2 x3 x4 x5 m0 = some r → qN X 7 6 [(0, .ref x0), (1, .int (iZ x1)), (2, .int (iZ x2)), (3, .int (iZ x3)), (4, .int (iZ x4)), (5, .int (iZ x5))] [] m0)
    {x0 : Nat} {x1 : Int} {x2 : Int} {x3 : Int} {x4 : Int} {x5 : Int} (k_x0 : gK (xG X) x0 = 3) (r_x1 : in32 x1) (r_x2 : in32 x2) (r_x3 : in32 x3) (b_x4 : in01 x4) (r_x5 : in32 x5) {m0 : qM} (hR_m0 : qR (xG X) m0)
    (h : f_X2_preventSelf_69 N (xG X) k6 x0 x1 x2 x3 x4 x5 m0 = some r) : qN X 7 69 [(0, .ref x0), (1, .int (iZ x1)), (2, .int (iZ x2)), (3, .int (iZ x3)), (4, .int (iZ x4)), (5, .int (iZ x5))] [] m0 := by
  have hT := hX.T
  unfold f_X2_preventSelf_69 at h
  obtain ⟨v1, e_v1, r_v1, h⟩ := ckI_e h
  refine qn_iinc hX (pc := 69) (ls' := [(5, .int (iZ v1)), (0, .ref x0), (1, .int (iZ x1)), (2, .int (iZ x2)), (3, .int (iZ x3)), (4, .int (iZ x4))]) dX2_preventSelf_69 5 rfl e_v1 rfl rfl ?_
  refine qn_goto hX (pc := 72) 6 dX2_preventSelf_72 (by decide) ?_
  refine qn_sub (ls' := [(0, .ref x0), (1, .int (iZ x1)), (2, .int (iZ x2)), (3, .int (iZ x3)), (4, .int (iZ x4)), (5, .int (iZ v1))]) [1, 2, 3, 4, 5, 0] rfl ?_
  exact hk6 x0 x1 x2 x3 x4 v1 m0 k_x0 r_x1 r_x2 r_x3 b_x4 r_v1 hR_m0 h
set_option maxHeartbeats 4000000 in
set_option maxRecDepth 20000 in
theorem w_X2_preventSelf_6 {X : qB} {N : Nat} (hX : qOk X cX2_preventSelf RX2 7 none wsX2_preventSelf 2 47) {r : qM} (hE : xr X = none ∧ (True → xΦ X) ∧ xμ X = r) {k6 : (Nat → Int → Int → Int → Int → Int → qM → Option (qM))} (hk6 : ∀ (x0 : Nat) (x1 : Int) (x2 : Int) (x3 : Int) (x4 : Int) (x5 : Int) (m0 : qM), gK (xG X) x0 = 3 → in32 x1 → in32 x2 → in32 x3 → in01 x4 → in32 x5 → qR (xG X) m0 → k6 x0 x1 x2 x3 x4 x5 m0 = some r → qN X 7 6 [(0, .ref x0), (1, .int (iZ x1)), (2, .int (iZ x2)), (3, .int (iZ x3)), (4, .int (iZ x4)), (5, .int (iZ x5))] [] m0)
    {x0 : Nat} {x1 : Int} {x2 : Int} {x3 : Int} {x4 : Int} {x5 : Int} (k_x0 : gK (xG X) x0 = 3) (r_x1 : in32 x1) (r_x2 : in32 x2) (r_x3 : in32 x3) (b_x4 : in01 x4) (r_x5 : in32 x5) {m0 : qM} (hR_m0 : qR (xG X) m0)
    (h : f_X2_preventSelf_6 N (xG X) k6 x0 x1 x2 x3 x4 x5 m0 = some r) : qN X 7 6 [(0, .ref x0), (1, .int (iZ x1)), (2, .int (iZ x2)), (3, .int (iZ x3)), (4, .int (iZ x4)), (5, .int (iZ x5))] [] m0 := by
  have hT := hX.T
  unfold f_X2_preventSelf_6 at h
  refine qn_iload hX (pc := 6) dX2_preventSelf_6 5 rfl ?_
  refine qn_aload_n hX (pc := 8) dX2_preventSelf_8 0 rfl rfl ?_
  refine qn_getR hX (pc := 9) fd_X2_preventSelf_12 dX2_preventSelf_9 k_x0 ?_
  refine qn_getI hX (pc := 12) fd_X2_preventSelf_127 dX2_preventSelf_12 (qr_200 hT k_x0) ?_
  refine qn_icmp_ge hX (pc := 15) r_x5 (hR_m0.i 1 _ rfl) 75 dX2_preventSelf_15 (by decide) (fun c1 => ?_) (fun c1 => ?_)
  · have h := ite_f h c1
    refine qn_iload hX (pc := 75) dX2_preventSelf_75 4 rfl ?_
    refine qn_if_eq hX (pc := 77) b_x4.i 98 dX2_preventSelf_77 (by decide) (fun c2 => ?_) (fun c2 => ?_)
    · have h := ite_t h c2
      refine qn_sub (ls' := [(0, .ref x0)]) [0] rfl ?_
      exact w_X2_preventSelf_98 hX hE  k_x0 hR_m0 h
    · have h := ite_f h c2
      refine qn_iload_n hX (pc := 80) dX2_preventSelf_80 3 rfl rfl ?_
      refine qn_iconst hX (pc := 81) dX2_preventSelf_81 ?_
      refine qn_icmp_eq hX (pc := 82) r_x3 (by decide) 90 dX2_preventSelf_82 (by decide) (fun c3 => ?_) (fun c3 => ?_)
      · have h := ite_t h c3
        refine qn_sub (ls' := [(0, .ref x0)]) [0] rfl ?_
        exact w_X2_preventSelf_90 hX hE  k_x0 hR_m0 h
      · have h := ite_f h c3
        refine qn_iload_n hX (pc := 85) dX2_preventSelf_85 3 rfl rfl ?_
        refine qn_iconst hX (pc := 86) dX2_preventSelf_86 ?_
        refine qn_icmp_ne hX (pc := 87) r_x3 (by decide) 98 dX2_preventSelf_87 (by decide) (fun c4 => ?_) (fun c4 => ?_)
        · have h := ite_f h c4
          refine qn_sub (ls' := [(0, .ref x0)]) [0] rfl ?_
          exact w_X2_preventSelf_98 hX hE  k_x0 hR_m0 h
        · have h := ite_t h c4
          refine qn_sub (ls' := [(0, .ref x0)]) [0] rfl ?_
          exact w_X2_preventSelf_90 hX hE  k_x0 hR_m0 h
  · have h := ite_t h c1
    refine qn_aload_n hX (pc := 18) dX2_preventSelf_18 0 rfl rfl ?_
    refine qn_getR hX (pc := 19) fd_X2_preventSelf_12 dX2_preventSelf_19 k_x0 ?_
    refine qn_getR hX (pc := 22) fd_X2_preventSelf_130 dX2_preventSelf_22 (qr_200 hT k_x0) ?_
    refine qn_iload hX (pc := 25) dX2_preventSelf_25 5 rfl ?_
    obtain ⟨o5, e_o5, b_o5, k_o5, h⟩ := rdQ_e h
    refine qn_aaldO hX (pc := 27) 60 dX2_preventSelf_27 (qr_0 hT (qr_200 hT k_x0)) (by decide) b_o5 e_o5 ?_
    refine qn_astore hX (pc := 28) (ls' := [(6, .ref o5), (0, .ref x0), (1, .int (iZ x1)), (2, .int (iZ x2)), (3, .int (iZ x3)), (4, .int (iZ x4)), (5, .int (iZ x5))]) dX2_preventSelf_28 rfl rfl ?_
    refine qn_aload_n hX (pc := 30) dX2_preventSelf_30 1 rfl rfl ?_
    refine qn_getR hX (pc := 31) fd_X2_preventSelf_12 dX2_preventSelf_31 k_x0 ?_
    refine qn_iload hX (pc := 34) dX2_preventSelf_34 6 rfl ?_
    refine qn_iload_n hX (pc := 36) dX2_preventSelf_36 2 rfl rfl ?_
    refine qn_iload_n hX (pc := 37) dX2_preventSelf_37 3 rfl rfl ?_
    obtain ⟨v7, m6, e_m6, h⟩ := kb2_e h
    refine qn_callVi hX (pc := 38) [.int (iZ x5), .int (iZ x1), .int (iZ x2)] [.int (iZ x2), .int (iZ x1), .int (iZ x5)] 3 dX2_preventSelf_38 gX2_preventSelf_X0_isAt rfl dd_X0_isAt ⟨rfl, rfl⟩ rfl rfl (by decide) (qr_200 hT k_x0) rfl rfl hR_m0 (k_X0_isAt (xl X) hT (qr_200 hT k_x0) r_x5 r_x1 r_x2 e_m6) (fun r_v7 hR_m6 => ?_)
    refine qn_if_eq hX (pc := 41) r_v7.i 69 dX2_preventSelf_41 (by decide) (fun c8 => ?_) (fun c8 => ?_)
    · have h := ite_t h c8
      refine qn_sub (ls' := [(0, .ref x0), (1, .int (iZ x1)), (2, .int (iZ x2)), (3, .int (iZ x3)), (4, .int (iZ x4)), (5, .int (iZ x5))]) [1, 2, 3, 4, 5, 6] rfl ?_
      exact w_X2_preventSelf_69 hX hE hk6 k_x0 r_x1 r_x2 r_x3 b_x4 r_x5 hR_m6 h
    · have h := ite_f h c8
      refine qn_aload hX (pc := 44) dX2_preventSelf_44 0 rfl ?_
      refine qn_getI hX (pc := 46) fd_X2_preventSelf_137 dX2_preventSelf_46 k_o5 ?_
      refine qn_aload_n hX (pc := 49) dX2_preventSelf_49 1 rfl rfl ?_
      refine qn_getR hX (pc := 50) fd_X2_preventSelf_42 dX2_preventSelf_50 k_x0 ?_
      refine qn_getI hX (pc := 53) fd_X2_preventSelf_137 dX2_preventSelf_53 (qr_204 hT k_x0) ?_
      refine qn_icmp_ne hX (pc := 56) (hR_m6.i 401 _ rfl) (hR_m6.i 401 _ rfl) 69 dX2_preventSelf_56 (by decide) (fun c9 => ?_) (fun c9 => ?_)
      · have h := ite_f h c9
        refine qn_sub (ls' := [(0, .ref x0), (1, .int (iZ x1)), (2, .int (iZ x2)), (3, .int (iZ x3)), (4, .int (iZ x4)), (5, .int (iZ x5))]) [1, 2, 3, 4, 5, 6] rfl ?_
        exact w_X2_preventSelf_69 hX hE hk6 k_x0 r_x1 r_x2 r_x3 b_x4 r_x5 hR_m6 h
      · have h := ite_t h c9
        refine qn_iconst hX (pc := 59) dX2_preventSelf_59 ?_
        refine qn_istore hX (pc := 60) (ls' := [(4, .int (iZ 1)), (6, .ref o5), (0, .ref x0), (1, .int (iZ x1)), (2, .int (iZ x2)), (3, .int (iZ x3)), (5, .int (iZ x5))]) dX2_preventSelf_60 rfl rfl ?_
        refine qn_aload_n hX (pc := 62) dX2_preventSelf_62 2 rfl rfl ?_
        refine qn_aload hX (pc := 63) dX2_preventSelf_63 1 rfl ?_
        refine qn_iload_n hX (pc := 65) dX2_preventSelf_65 5 rfl rfl ?_
        obtain ⟨m10, e_m10, h⟩ := kb_e h
        refine qn_callVv hX (pc := 66) [.ref o5, .int (iZ x3)] [.int (iZ x3), .ref o5] 2 dX2_preventSelf_66 gX2_preventSelf_X2_loseOwn rfl dd_X2_loseOwn ⟨rfl, rfl⟩ rfl rfl (by decide) k_x0 rfl rfl hR_m6 (k_X2_loseOwn (xl X) hT k_x0 k_o5 r_x3 e_m10) (fun r_v11 hR_m10 => ?_)
        refine qn_sub (ls' := [(0, .ref x0), (1, .int (iZ x1)), (2, .int (iZ x2)), (3, .int (iZ x3)), (4, .int (iZ 1)), (5, .int (iZ x5))]) [2, 3, 4, 5, 0, 6] rfl ?_
        exact w_X2_preventSelf_69 hX hE hk6 k_x0 r_x1 r_x2 r_x3 (by decide) r_x5 hR_m10 h
set_option maxHeartbeats 4000000 in
set_option maxRecDepth 20000 in
theorem w_X2_preventSelf_L6 {X : qB} {N : Nat} (hX : qOk X cX2_preventSelf RX2 7 none wsX2_preventSelf 2 47) {r : qM} (hE : xr X = none ∧ (True → xΦ X) ∧ xμ X = r) 
    {x0 : Nat} {x1 : Int} {x2 : Int} {x3 : Int} {x4 : Int} {x5 : Int} (k_x0 : gK (xG X) x0 = 3) (r_x1 : in32 x1) (r_x2 : in32 x2) (r_x3 : in32 x3) (b_x4 : in01 x4) (r_x5 : in32 x5) {m0 : qM} (hR_m0 : qR (xG X) m0)
    (h : f_X2_preventSelf_L6 N (xG X)  x0 x1 x2 x3 x4 x5 m0 = some r) : qN X 7 6 [(0, .ref x0), (1, .int (iZ x1)), (2, .int (iZ x2)), (3, .int (iZ x3)), (4, .int (iZ x4)), (5, .int (iZ x5))] [] m0 := by
  unfold f_X2_preventSelf_L6 at h
  exact qLoop_w (σ := Nat × Int × Int × Int × Int × Int × qM) (P := fun p => gK (xG X) p.1 = 3 ∧ in32 p.2.1 ∧ in32 p.2.2.1 ∧ in32 p.2.2.2.1 ∧ in01 p.2.2.2.2.1 ∧ in32 p.2.2.2.2.2.1 ∧ qR (xG X) p.2.2.2.2.2.2) (Q := fun p => qN X 7 6 [(0, .ref p.1), (1, .int (iZ p.2.1)), (2, .int (iZ p.2.2.1)), (3, .int (iZ p.2.2.2.1)), (4, .int (iZ p.2.2.2.2.1)), (5, .int (iZ p.2.2.2.2.2.1))] [] p.2.2.2.2.2.2) (fun k hrec p hp hh => w_X2_preventSelf_6 hX hE (fun x0 x1 x2 x3 x4 x5 m0 q0 q1 q2 q3 q4 q5 hRm hh => hrec (x0, x1, x2, x3, x4, x5, m0) ⟨q0, q1, q2, q3, q4, q5, hRm⟩ hh) hp.1 hp.2.1 hp.2.2.1 hp.2.2.2.1 hp.2.2.2.2.1 hp.2.2.2.2.2.1 hp.2.2.2.2.2.2 hh) N (x0, x1, x2, x3, x4, x5, m0) ⟨k_x0, r_x1, r_x2, r_x3, b_x4, r_x5, hR_m0⟩ h
set_option maxHeartbeats 4000000 in
set_option maxRecDepth 20000 in
theorem w_X2_preventSelf {X : qB} {N : Nat} (hX : qOk X cX2_preventSelf RX2 7 none wsX2_preventSelf 2 47) {r : qM} (hE : xr X = none ∧ (True → xΦ X) ∧ xμ X = r) 
    {x0 : Nat} {x1 : Int} {x2 : Int} {x3 : Int} (k_x0 : gK (xG X) x0 = 3) (r_x1 : in32 x1) (r_x2 : in32 x2) (r_x3 : in32 x3) {m0 : qM} (hR_m0 : qR (xG X) m0)
    (h : f_X2_preventSelf N (xG X)  x0 x1 x2 x3 m0 = some r) : qN X 7 0 [(0, .ref x0), (1, .int (iZ x1)), (2, .int (iZ x2)), (3, .int (iZ x3))] [] m0 := by
  have hT := hX.T
  unfold f_X2_preventSelf at h
  refine qn_iconst hX (pc := 0) dX2_preventSelf_0 ?_
  refine qn_istore hX (pc := 1) (ls' := [(4, .int (iZ 0)), (0, .ref x0), (1, .int (iZ x1)), (2, .int (iZ x2)), (3, .int (iZ x3))]) dX2_preventSelf_1 rfl rfl ?_
  refine qn_iconst hX (pc := 3) dX2_preventSelf_3 ?_
  refine qn_istore hX (pc := 4) (ls' := [(5, .int (iZ 0)), (4, .int (iZ 0)), (0, .ref x0), (1, .int (iZ x1)), (2, .int (iZ x2)), (3, .int (iZ x3))]) dX2_preventSelf_4 rfl rfl ?_
  refine qn_sub (ls' := [(0, .ref x0), (1, .int (iZ x1)), (2, .int (iZ x2)), (3, .int (iZ x3)), (4, .int (iZ 0)), (5, .int (iZ 0))]) [2, 3, 4, 5, 1, 0] rfl ?_
  exact w_X2_preventSelf_L6 hX hE  k_x0 r_x1 r_x2 r_x3 (by decide) (by decide) hR_m0 h
theorem k_X2_preventSelf (l : Launch) {G : qG} (hT : qT G) {N : Nat} {x0 : Nat} {x1 : Int} {x2 : Int} {x3 : Int} (k_x0 : gK G x0 = 3) (r_x1 : in32 x1) (r_x2 : in32 x2) (r_x3 : in32 x3) {m0 : qM} {r : qM} (h : f_X2_preventSelf N G x0 x1 x2 x3 m0 = some r) : qC l yX2_preventSelf wsX2_preventSelf 2 47 G [.ref x0, .int (iZ x1), .int (iZ x2), .int (iZ x3)] m0 none True r := by
  refine qn_start (hy := by decide) hT (hw := rfl) (hn := Nat.le_of_ble_eq_true rfl) ?_
  intro X h1 h2 h3 h4 hX hR
  subst h4
  exact w_X2_preventSelf hX ⟨h1, fun q => h2 ▸ q, h3⟩ k_x0 r_x1 r_x2 r_x3 hR h
theorem dd_X2_preventSelf : yX2_preventSelf.cls = RX2 ∧ yX2_preventSelf.cls ≠ "java/lang/invoke/MethodHandle" ∧ yX2_preventSelf.cls ≠ "java/lang/invoke/VarHandle" ∧ (parseMethodDescriptor yX2_preventSelf.desc).map (fun d => d.parameters.length) = some 3 := by decide +kernel
-- ProRataMarket$Sharing.put
theorem hi_X5_put_5 : ∀ w ∈ wsX50, w ∈ wsX5_put := fun w h => List.mem_cons_of_mem _ (List.mem_append_right _ h)
theorem fd_X5_put_33 : qFd RX5 wsX5_put 33 5 6 0 506 := ⟨RX5, TX5, 8, _, rfl, hi_X5_put_5, by decide, (by decide +kernel : Cond.fieldLink RX5 33 (TX5 6).1 (TX5 6).2.1 (TX5 6).2.2.1 ∈ wsX5_put), rfl, rfl, by decide⟩
theorem fd_X5_put_13 : qFd RX5 wsX5_put 13 5 0 1 500 := ⟨RX5, TX5, 8, _, rfl, hi_X5_put_5, by decide, (by decide +kernel : Cond.fieldLink RX5 13 (TX5 0).1 (TX5 0).2.1 (TX5 0).2.2.1 ∈ wsX5_put), rfl, rfl, by decide⟩
theorem fd_X5_put_17 : qFd RX5 wsX5_put 17 5 1 1 501 := ⟨RX5, TX5, 8, _, rfl, hi_X5_put_5, by decide, (by decide +kernel : Cond.fieldLink RX5 17 (TX5 1).1 (TX5 1).2.1 (TX5 1).2.2.1 ∈ wsX5_put), rfl, rfl, by decide⟩
theorem fd_X5_put_21 : qFd RX5 wsX5_put 21 5 2 1 502 := ⟨RX5, TX5, 8, _, rfl, hi_X5_put_5, by decide, (by decide +kernel : Cond.fieldLink RX5 21 (TX5 2).1 (TX5 2).2.1 (TX5 2).2.2.1 ∈ wsX5_put), rfl, rfl, by decide⟩
theorem fp_X5_put_33 : qFp RX5 wsX5_put 33 5 6 0 506 .int := ⟨RX5, TX5, 8, _, tyX5, rfl, hi_X5_put_5, by decide, (by decide +kernel : Cond.fieldLink RX5 33 (TX5 6).1 (TX5 6).2.1 (TX5 6).2.2.1 ∈ wsX5_put), rfl, rfl, by decide, tyX5_ok, nmX5, rfl, by decide +kernel⟩
theorem fd_X5_put_37 : qFd RX5 wsX5_put 37 5 7 0 507 := ⟨RX5, TX5, 8, _, rfl, hi_X5_put_5, by decide, (by decide +kernel : Cond.fieldLink RX5 37 (TX5 7).1 (TX5 7).2.1 (TX5 7).2.2.1 ∈ wsX5_put), rfl, rfl, by decide⟩
theorem fp_X5_put_37 : qFp RX5 wsX5_put 37 5 7 0 507 .int := ⟨RX5, TX5, 8, _, tyX5, rfl, hi_X5_put_5, by decide, (by decide +kernel : Cond.fieldLink RX5 37 (TX5 7).1 (TX5 7).2.1 (TX5 7).2.2.1 ∈ wsX5_put), rfl, rfl, by decide, tyX5_ok, nmX5, rfl, by decide +kernel⟩
set_option maxHeartbeats 4000000 in
set_option maxRecDepth 20000 in
theorem w_X5_put {X : qB} {N : Nat} (hX : qOk X cX5_put RX5 4 none wsX5_put 0 0) {r : qM} (hE : xr X = none ∧ (True → xΦ X) ∧ xμ X = r) 
    {x0 : Nat} {x1 : Nat} {x2 : Int} {x3 : Int} (k_x0 : gK (xG X) x0 = 6) (k_x1 : gK (xG X) x1 = 5) (r_x2 : in32 x2) (r_x3 : in32 x3) {m0 : qM} (hR_m0 : qR (xG X) m0)
    (h : f_X5_put N (xG X)  x0 x1 x2 x3 m0 = some r) : qN X 4 0 [(0, .ref x0), (1, .ref x1), (2, .int (iZ x2)), (3, .int (iZ x3))] [] m0 := by
  have hT := hX.T
  unfold f_X5_put at h
  refine qn_aload_n hX (pc := 0) dX5_put_0 0 rfl rfl ?_
  refine qn_getI hX (pc := 1) fd_X5_put_33 dX5_put_1 k_x0 ?_
  refine qn_bipush hX (pc := 4) dX5_put_4 (by decide) ?_
  refine qn_icmp_lt hX (pc := 6) (hR_m0.i 506 _ rfl) (by decide) 10 dX5_put_6 (by decide) (fun c1 => ?_) (fun c1 => ?_)
  · have h := ite_t h c1
    refine qn_aload_n hX (pc := 10) dX5_put_10 0 rfl rfl ?_
    refine qn_getR hX (pc := 11) fd_X5_put_13 dX5_put_11 k_x0 ?_
    refine qn_aload_n hX (pc := 14) dX5_put_14 0 rfl rfl ?_
    refine qn_getI hX (pc := 15) fd_X5_put_33 dX5_put_15 k_x0 ?_
    refine qn_aload_n hX (pc := 18) dX5_put_18 1 rfl rfl ?_
    obtain ⟨m2, e_m2, b_m2, h⟩ := wrQ_e h
    refine qn_aastO hX (pc := 19) 68 dX5_put_19 (qr_500 hT k_x0) (by decide) b_m2 hR_m0 k_x1 e_m2 (fun hR_m2 => ?_) 
    refine qn_aload_n hX (pc := 20) dX5_put_20 0 rfl rfl ?_
    refine qn_getR hX (pc := 21) fd_X5_put_17 dX5_put_21 k_x0 ?_
    refine qn_aload_n hX (pc := 24) dX5_put_24 0 rfl rfl ?_
    refine qn_getI hX (pc := 25) fd_X5_put_33 dX5_put_25 k_x0 ?_
    refine qn_iload_n hX (pc := 28) dX5_put_28 2 rfl rfl ?_
    obtain ⟨m3, e_m3, b_m3, h⟩ := wrA_e h
    refine qn_iast hX (pc := 29) 68 dX5_put_29 (qr_501 hT k_x0) (by decide) b_m3 hR_m2 r_x2 e_m3 (fun hR_m3 => ?_) 
    refine qn_aload_n hX (pc := 30) dX5_put_30 0 rfl rfl ?_
    refine qn_getR hX (pc := 31) fd_X5_put_21 dX5_put_31 k_x0 ?_
    refine qn_aload_n hX (pc := 34) dX5_put_34 0 rfl rfl ?_
    refine qn_getI hX (pc := 35) fd_X5_put_33 dX5_put_35 k_x0 ?_
    refine qn_iload_n hX (pc := 38) dX5_put_38 3 rfl rfl ?_
    obtain ⟨m4, e_m4, b_m4, h⟩ := wrA_e h
    refine qn_iast hX (pc := 39) 68 dX5_put_39 (qr_502 hT k_x0) (by decide) b_m4 hR_m3 r_x3 e_m4 (fun hR_m4 => ?_) 
    refine qn_aload_n hX (pc := 40) dX5_put_40 0 rfl rfl ?_
    refine qn_dup hX (pc := 41) dX5_put_41 rfl ?_
    refine qn_getI hX (pc := 42) fd_X5_put_33 dX5_put_42 k_x0 ?_
    refine qn_iconst hX (pc := 45) dX5_put_45 ?_
    obtain ⟨v5, e_v5, r_v5, h⟩ := ckI_e h
    refine qn_iadd hX (pc := 46) dX5_put_46 e_v5 ?_
    obtain ⟨m6, e_m6, h⟩ := kp_e h
    refine qn_putI hX (pc := 47) fp_X5_put_33 dX5_put_47 k_x0 hR_m4 r_v5 e_m6 (fun hR_m6 => ?_) 
    refine qn_aload_n hX (pc := 50) dX5_put_50 0 rfl rfl ?_
    refine qn_dup hX (pc := 51) dX5_put_51 rfl ?_
    refine qn_getI hX (pc := 52) fd_X5_put_37 dX5_put_52 k_x0 ?_
    refine qn_iload_n hX (pc := 55) dX5_put_55 2 rfl rfl ?_
    obtain ⟨v7, e_v7, r_v7, h⟩ := ckI_e h
    refine qn_iadd hX (pc := 56) dX5_put_56 e_v7 ?_
    obtain ⟨m8, e_m8, h⟩ := kp_e h
    refine qn_putI hX (pc := 57) fp_X5_put_37 dX5_put_57 k_x0 hR_m6 r_v7 e_m8 (fun hR_m8 => ?_) 
    exact qn_vret hX (pc := 60) dX5_put_60 hE hR_m8 (Option.some.inj h)
  · have h := ite_f h c1
    exact qn_vret hX (pc := 9) dX5_put_9 hE hR_m0 (Option.some.inj h)
theorem k_X5_put (l : Launch) {G : qG} (hT : qT G) {N : Nat} {x0 : Nat} {x1 : Nat} {x2 : Int} {x3 : Int} (k_x0 : gK G x0 = 6) (k_x1 : gK G x1 = 5) (r_x2 : in32 x2) (r_x3 : in32 x3) {m0 : qM} {r : qM} (h : f_X5_put N G x0 x1 x2 x3 m0 = some r) : qC l yX5_put wsX5_put 0 0 G [.ref x0, .ref x1, .int (iZ x2), .int (iZ x3)] m0 none True r := by
  refine qn_start (hy := by decide) hT (hw := rfl) (hn := Nat.le_of_ble_eq_true rfl) ?_
  intro X h1 h2 h3 h4 hX hR
  subst h4
  exact w_X5_put hX ⟨h1, fun q => h2 ▸ q, h3⟩ k_x0 k_x1 r_x2 r_x3 hR h
theorem dd_X5_put : yX5_put.cls = RX5 ∧ yX5_put.cls ≠ "java/lang/invoke/MethodHandle" ∧ yX5_put.cls ≠ "java/lang/invoke/VarHandle" ∧ (parseMethodDescriptor yX5_put.desc).map (fun d => d.parameters.length) = some 3 := by decide +kernel
-- ProRataMarket$Sharing.load
theorem hi_X5_load_0 : ∀ w ∈ wsX00, w ∈ wsX5_load := fun w h => List.mem_cons_of_mem _ (List.mem_append_left _ (List.mem_append_right _ h))
theorem fd_X5_load_40 : qFd RX5 wsX5_load 40 0 1 0 1 := ⟨RX0, TX0, 4, _, rfl, hi_X5_load_0, by decide, (by decide +kernel : Cond.fieldLink RX5 40 (TX0 1).1 (TX0 1).2.1 (TX0 1).2.2.1 ∈ wsX5_load), rfl, rfl, by decide⟩
theorem fd_X5_load_49 : qFd RX5 wsX5_load 49 0 0 1 0 := ⟨RX0, TX0, 4, _, rfl, hi_X5_load_0, by decide, (by decide +kernel : Cond.fieldLink RX5 49 (TX0 0).1 (TX0 0).2.1 (TX0 0).2.2.1 ∈ wsX5_load), rfl, rfl, by decide⟩
theorem hi_X5_load_4 : ∀ w ∈ wsX40, w ∈ wsX5_load := fun w h => List.mem_cons_of_mem _ (List.mem_append_right _ h)
theorem fd_X5_load_51 : qFd RX5 wsX5_load 51 4 4 0 404 := ⟨RX4, TX4, 6, _, rfl, hi_X5_load_4, by decide, (by decide +kernel : Cond.fieldLink RX5 51 (TX4 4).1 (TX4 4).2.1 (TX4 4).2.2.1 ∈ wsX5_load), rfl, rfl, by decide⟩
theorem hi_X5_load_5 : ∀ w ∈ wsX50, w ∈ wsX5_load := fun w h => List.mem_cons_of_mem _ (List.mem_append_left _ (List.mem_append_left _ (List.mem_append_right _ h)))
theorem fp_X5_load_33 : qFp RX5 wsX5_load 33 5 6 0 506 .int := ⟨RX5, TX5, 8, _, tyX5, rfl, hi_X5_load_5, by decide, (by decide +kernel : Cond.fieldLink RX5 33 (TX5 6).1 (TX5 6).2.1 (TX5 6).2.2.1 ∈ wsX5_load), rfl, rfl, by decide, tyX5_ok, nmX5, rfl, by decide +kernel⟩
theorem fp_X5_load_37 : qFp RX5 wsX5_load 37 5 7 0 507 .int := ⟨RX5, TX5, 8, _, tyX5, rfl, hi_X5_load_5, by decide, (by decide +kernel : Cond.fieldLink RX5 37 (TX5 7).1 (TX5 7).2.1 (TX5 7).2.2.1 ∈ wsX5_load), rfl, rfl, by decide, tyX5_ok, nmX5, rfl, by decide +kernel⟩
set_option maxHeartbeats 4000000 in
set_option maxRecDepth 20000 in
theorem w_X5_load_59 {X : qB} {N : Nat} (hX : qOk X cX5_load RX5 6 none wsX5_load 1 23) {r : qM} (hE : xr X = none ∧ (True → xΦ X) ∧ xμ X = r) {k13 : (Nat → Nat → Int → Int → Int → qM → Option (qM))} (hk13 : ∀ (x0 : Nat) (x1 : Nat) (x2 : Int) (x3 : Int) (x4 : Int) (m0 : qM), gK (xG X) x0 = 6 → gK (xG X) x1 = 1 → in32 x2 → in32 x3 → in32 x4 → qR (xG X) m0 → k13 x0 x1 x2 x3 x4 m0 = some r → qN X 6 13 [(0, .ref x0), (1, .ref x1), (2, .int (iZ x2)), (3, .int (iZ x3)), (4, .int (iZ x4))] [] m0)
    {x0 : Nat} {x1 : Nat} {x2 : Int} {x3 : Int} {x4 : Int} (k_x0 : gK (xG X) x0 = 6) (k_x1 : gK (xG X) x1 = 1) (r_x2 : in32 x2) (r_x3 : in32 x3) (r_x4 : in32 x4) {m0 : qM} (hR_m0 : qR (xG X) m0)
    (h : f_X5_load_59 N (xG X) k13 x0 x1 x2 x3 x4 m0 = some r) : qN X 6 59 [(0, .ref x0), (1, .ref x1), (2, .int (iZ x2)), (3, .int (iZ x3)), (4, .int (iZ x4))] [] m0 := by
  have hT := hX.T
  unfold f_X5_load_59 at h
  obtain ⟨v1, e_v1, r_v1, h⟩ := ckI_e h
  refine qn_iinc hX (pc := 59) (ls' := [(4, .int (iZ v1)), (0, .ref x0), (1, .ref x1), (2, .int (iZ x2)), (3, .int (iZ x3))]) dX5_load_59 4 rfl e_v1 rfl rfl ?_
  refine qn_goto hX (pc := 62) 13 dX5_load_62 (by decide) ?_
  refine qn_sub (ls' := [(0, .ref x0), (1, .ref x1), (2, .int (iZ x2)), (3, .int (iZ x3)), (4, .int (iZ v1))]) [1, 2, 3, 4, 0] rfl ?_
  exact hk13 x0 x1 x2 x3 v1 m0 k_x0 k_x1 r_x2 r_x3 r_v1 hR_m0 h
set_option maxHeartbeats 4000000 in
set_option maxRecDepth 20000 in
theorem w_X5_load_13 {X : qB} {N : Nat} (hX : qOk X cX5_load RX5 6 none wsX5_load 1 23) {r : qM} (hE : xr X = none ∧ (True → xΦ X) ∧ xμ X = r) {k13 : (Nat → Nat → Int → Int → Int → qM → Option (qM))} (hk13 : ∀ (x0 : Nat) (x1 : Nat) (x2 : Int) (x3 : Int) (x4 : Int) (m0 : qM), gK (xG X) x0 = 6 → gK (xG X) x1 = 1 → in32 x2 → in32 x3 → in32 x4 → qR (xG X) m0 → k13 x0 x1 x2 x3 x4 m0 = some r → qN X 6 13 [(0, .ref x0), (1, .ref x1), (2, .int (iZ x2)), (3, .int (iZ x3)), (4, .int (iZ x4))] [] m0)
    {x0 : Nat} {x1 : Nat} {x2 : Int} {x3 : Int} {x4 : Int} (k_x0 : gK (xG X) x0 = 6) (k_x1 : gK (xG X) x1 = 1) (r_x2 : in32 x2) (r_x3 : in32 x3) (r_x4 : in32 x4) {m0 : qM} (hR_m0 : qR (xG X) m0)
    (h : f_X5_load_13 N (xG X) k13 x0 x1 x2 x3 x4 m0 = some r) : qN X 6 13 [(0, .ref x0), (1, .ref x1), (2, .int (iZ x2)), (3, .int (iZ x3)), (4, .int (iZ x4))] [] m0 := by
  have hT := hX.T
  unfold f_X5_load_13 at h
  refine qn_iload hX (pc := 13) dX5_load_13 4 rfl ?_
  refine qn_aload_n hX (pc := 15) dX5_load_15 1 rfl rfl ?_
  refine qn_getI hX (pc := 16) fd_X5_load_40 dX5_load_16 k_x1 ?_
  refine qn_icmp_ge hX (pc := 19) r_x4 (hR_m0.i 1 _ rfl) 65 dX5_load_19 (by decide) (fun c1 => ?_) (fun c1 => ?_)
  · have h := ite_f h c1
    exact qn_vret hX (pc := 65) dX5_load_65 hE hR_m0 (Option.some.inj h)
  · have h := ite_t h c1
    refine qn_aload_n hX (pc := 22) dX5_load_22 1 rfl rfl ?_
    refine qn_iload hX (pc := 23) dX5_load_23 4 rfl ?_
    refine qn_iload_n hX (pc := 25) dX5_load_25 2 rfl rfl ?_
    refine qn_iload_n hX (pc := 26) dX5_load_26 3 rfl rfl ?_
    obtain ⟨v3, m2, e_m2, h⟩ := kb2_e h
    refine qn_callVi hX (pc := 27) [.int (iZ x4), .int (iZ x2), .int (iZ x3)] [.int (iZ x3), .int (iZ x2), .int (iZ x4)] 3 dX5_load_27 gX5_load_X0_isAt rfl dd_X0_isAt ⟨rfl, rfl⟩ rfl rfl (by decide) k_x1 rfl rfl hR_m0 (k_X0_isAt (xl X) hT k_x1 r_x4 r_x2 r_x3 e_m2) (fun r_v3 hR_m2 => ?_)
    refine qn_if_eq hX (pc := 30) r_v3.i 59 dX5_load_30 (by decide) (fun c4 => ?_) (fun c4 => ?_)
    · have h := ite_t h c4
      refine qn_sub (ls' := [(0, .ref x0), (1, .ref x1), (2, .int (iZ x2)), (3, .int (iZ x3)), (4, .int (iZ x4))]) [0, 1, 2, 3, 4] rfl ?_
      exact w_X5_load_59 hX hE hk13 k_x0 k_x1 r_x2 r_x3 r_x4 hR_m2 h
    · have h := ite_f h c4
      refine qn_aload_n hX (pc := 33) dX5_load_33 1 rfl rfl ?_
      refine qn_getR hX (pc := 34) fd_X5_load_49 dX5_load_34 k_x1 ?_
      refine qn_iload hX (pc := 37) dX5_load_37 4 rfl ?_
      obtain ⟨o5, e_o5, b_o5, k_o5, h⟩ := rdQ_e h
      refine qn_aaldO hX (pc := 39) 60 dX5_load_39 (qr_0 hT k_x1) (by decide) b_o5 e_o5 ?_
      refine qn_astore hX (pc := 40) (ls' := [(5, .ref o5), (0, .ref x0), (1, .ref x1), (2, .int (iZ x2)), (3, .int (iZ x3)), (4, .int (iZ x4))]) dX5_load_40 rfl rfl ?_
      refine qn_aload_n hX (pc := 42) dX5_load_42 1 rfl rfl ?_
      refine qn_aload hX (pc := 43) dX5_load_43 0 rfl ?_
      refine qn_aload hX (pc := 45) dX5_load_45 0 rfl ?_
      refine qn_getI hX (pc := 47) fd_X5_load_51 dX5_load_47 k_o5 ?_
      refine qn_aload_n hX (pc := 50) dX5_load_50 2 rfl rfl ?_
      refine qn_aload hX (pc := 51) dX5_load_51 0 rfl ?_
      obtain ⟨v7, m6, e_m6, h⟩ := kb2_e h
      refine qn_callVi hX (pc := 53) [.ref o5] [.ref o5] 1 dX5_load_53 gX5_load_X0_grantOf rfl dd_X0_grantOf ⟨rfl, rfl⟩ rfl rfl (by decide) k_x1 rfl rfl hR_m2 (k_X0_grantOf (xl X) hT k_x1 k_o5 e_m6) (fun r_v7 hR_m6 => ?_)
      obtain ⟨m8, e_m8, h⟩ := kb_e h
      refine qn_callVv hX (pc := 56) [.ref o5, .int (iZ (gI m2 404 o5)), .int (iZ v7)] [.int (iZ v7), .int (iZ (gI m2 404 o5)), .ref o5] 3 dX5_load_56 gX5_load_X5_put rfl dd_X5_put ⟨rfl, rfl⟩ rfl rfl (by decide) k_x0 rfl rfl hR_m6 (k_X5_put (xl X) hT k_x0 k_o5 (hR_m2.i 404 _ rfl) r_v7 e_m8) (fun r_v9 hR_m8 => ?_)
      refine qn_sub (ls' := [(0, .ref x0), (1, .ref x1), (2, .int (iZ x2)), (3, .int (iZ x3)), (4, .int (iZ x4))]) [1, 2, 3, 4, 5] rfl ?_
      exact w_X5_load_59 hX hE hk13 k_x0 k_x1 r_x2 r_x3 r_x4 hR_m8 h
set_option maxHeartbeats 4000000 in
set_option maxRecDepth 20000 in
theorem w_X5_load_L13 {X : qB} {N : Nat} (hX : qOk X cX5_load RX5 6 none wsX5_load 1 23) {r : qM} (hE : xr X = none ∧ (True → xΦ X) ∧ xμ X = r) 
    {x0 : Nat} {x1 : Nat} {x2 : Int} {x3 : Int} {x4 : Int} (k_x0 : gK (xG X) x0 = 6) (k_x1 : gK (xG X) x1 = 1) (r_x2 : in32 x2) (r_x3 : in32 x3) (r_x4 : in32 x4) {m0 : qM} (hR_m0 : qR (xG X) m0)
    (h : f_X5_load_L13 N (xG X)  x0 x1 x2 x3 x4 m0 = some r) : qN X 6 13 [(0, .ref x0), (1, .ref x1), (2, .int (iZ x2)), (3, .int (iZ x3)), (4, .int (iZ x4))] [] m0 := by
  unfold f_X5_load_L13 at h
  exact qLoop_w (σ := Nat × Nat × Int × Int × Int × qM) (P := fun p => gK (xG X) p.1 = 6 ∧ gK (xG X) p.2.1 = 1 ∧ in32 p.2.2.1 ∧ in32 p.2.2.2.1 ∧ in32 p.2.2.2.2.1 ∧ qR (xG X) p.2.2.2.2.2) (Q := fun p => qN X 6 13 [(0, .ref p.1), (1, .ref p.2.1), (2, .int (iZ p.2.2.1)), (3, .int (iZ p.2.2.2.1)), (4, .int (iZ p.2.2.2.2.1))] [] p.2.2.2.2.2) (fun k hrec p hp hh => w_X5_load_13 hX hE (fun x0 x1 x2 x3 x4 m0 q0 q1 q2 q3 q4 hRm hh => hrec (x0, x1, x2, x3, x4, m0) ⟨q0, q1, q2, q3, q4, hRm⟩ hh) hp.1 hp.2.1 hp.2.2.1 hp.2.2.2.1 hp.2.2.2.2.1 hp.2.2.2.2.2 hh) N (x0, x1, x2, x3, x4, m0) ⟨k_x0, k_x1, r_x2, r_x3, r_x4, hR_m0⟩ h
set_option maxHeartbeats 4000000 in
set_option maxRecDepth 20000 in
theorem w_X5_load {X : qB} {N : Nat} (hX : qOk X cX5_load RX5 6 none wsX5_load 1 23) {r : qM} (hE : xr X = none ∧ (True → xΦ X) ∧ xμ X = r) 
    {x0 : Nat} {x1 : Nat} {x2 : Int} {x3 : Int} (k_x0 : gK (xG X) x0 = 6) (k_x1 : gK (xG X) x1 = 1) (r_x2 : in32 x2) (r_x3 : in32 x3) {m0 : qM} (hR_m0 : qR (xG X) m0)
    (h : f_X5_load N (xG X)  x0 x1 x2 x3 m0 = some r) : qN X 6 0 [(0, .ref x0), (1, .ref x1), (2, .int (iZ x2)), (3, .int (iZ x3))] [] m0 := by
  have hT := hX.T
  unfold f_X5_load at h
  refine qn_aload_n hX (pc := 0) dX5_load_0 0 rfl rfl ?_
  refine qn_iconst hX (pc := 1) dX5_load_1 ?_
  obtain ⟨m1, e_m1, h⟩ := kp_e h
  refine qn_putI hX (pc := 2) fp_X5_load_33 dX5_load_2 k_x0 hR_m0 (show in32 0 by decide) e_m1 (fun hR_m1 => ?_) 
  refine qn_aload_n hX (pc := 5) dX5_load_5 0 rfl rfl ?_
  refine qn_iconst hX (pc := 6) dX5_load_6 ?_
  obtain ⟨m2, e_m2, h⟩ := kp_e h
  refine qn_putI hX (pc := 7) fp_X5_load_37 dX5_load_7 k_x0 hR_m1 (show in32 0 by decide) e_m2 (fun hR_m2 => ?_) 
  refine qn_iconst hX (pc := 10) dX5_load_10 ?_
  refine qn_istore hX (pc := 11) (ls' := [(4, .int (iZ 0)), (0, .ref x0), (1, .ref x1), (2, .int (iZ x2)), (3, .int (iZ x3))]) dX5_load_11 rfl rfl ?_
  refine qn_sub (ls' := [(0, .ref x0), (1, .ref x1), (2, .int (iZ x2)), (3, .int (iZ x3)), (4, .int (iZ 0))]) [1, 2, 3, 4, 0] rfl ?_
  exact w_X5_load_L13 hX hE  k_x0 k_x1 r_x2 r_x3 (by decide) hR_m2 h
theorem k_X5_load (l : Launch) {G : qG} (hT : qT G) {N : Nat} {x0 : Nat} {x1 : Nat} {x2 : Int} {x3 : Int} (k_x0 : gK G x0 = 6) (k_x1 : gK G x1 = 1) (r_x2 : in32 x2) (r_x3 : in32 x3) {m0 : qM} {r : qM} (h : f_X5_load N G x0 x1 x2 x3 m0 = some r) : qC l yX5_load wsX5_load 1 23 G [.ref x0, .ref x1, .int (iZ x2), .int (iZ x3)] m0 none True r := by
  refine qn_start (hy := by decide) hT (hw := rfl) (hn := Nat.le_of_ble_eq_true rfl) ?_
  intro X h1 h2 h3 h4 hX hR
  subst h4
  exact w_X5_load hX ⟨h1, fun q => h2 ▸ q, h3⟩ k_x0 k_x1 r_x2 r_x3 hR h
theorem dd_X5_load : yX5_load.cls = RX5 ∧ yX5_load.cls ≠ "java/lang/invoke/MethodHandle" ∧ yX5_load.cls ≠ "java/lang/invoke/VarHandle" ∧ (parseMethodDescriptor yX5_load.desc).map (fun d => d.parameters.length) = some 3 := by decide +kernel
-- ProRataMarket$Sharing.portion
set_option maxHeartbeats 4000000 in
set_option maxRecDepth 20000 in
theorem w_X5_portion {X : qB} {N : Nat} (hX : qOk X cX5_portion RX5 5 (some .int) wsX5_portion 0 0) {r : Int} {nu : qM} (hE : xr X = some (.int (iZ r)) ∧ (in32 r → xΦ X) ∧ xμ X = nu) 
    {x0 : Int} {x1 : Int} {x2 : Int} {x3 : Int} (r_x0 : in32 x0) (r_x1 : in32 x1) (r_x2 : in32 x2) (r_x3 : in32 x3) {m0 : qM} (hR_m0 : qR (xG X) m0)
    (h : f_X5_portion N (xG X)  x0 x1 x2 x3 m0 = some (r, nu)) : qN X 5 0 [(0, .int (iZ x0)), (1, .int (iZ x1)), (2, .int (iZ x2)), (3, .int (iZ x3))] [] m0 := by
  have hT := hX.T
  unfold f_X5_portion at h
  refine qn_iload_n hX (pc := 0) dX5_portion_0 2 rfl rfl ?_
  refine qn_if_gt hX (pc := 1) r_x2 6 dX5_portion_1 (by decide) (fun c1 => ?_) (fun c1 => ?_)
  · have h := ite_t h c1
    refine qn_iload_n hX (pc := 6) dX5_portion_6 0 rfl rfl ?_
    refine qn_iload_n hX (pc := 7) dX5_portion_7 1 rfl rfl ?_
    obtain ⟨v2, e_v2, r_v2, h⟩ := ckI_e h
    refine qn_imul hX (pc := 8) dX5_portion_8 e_v2 ?_
    refine qn_iload_n hX (pc := 9) dX5_portion_9 2 rfl rfl ?_
    obtain ⟨n_v3, h⟩ := ckD_e h
    obtain ⟨v3, e_v3, r_v3, h⟩ := ckI_e h
    refine qn_idiv hX (pc := 10) r_v2 r_x2 n_v3 dX5_portion_10 e_v3 ?_
    refine qn_istore hX (pc := 11) (ls' := [(4, .int (iZ v3)), (0, .int (iZ x0)), (1, .int (iZ x1)), (2, .int (iZ x2)), (3, .int (iZ x3))]) dX5_portion_11 rfl rfl ?_
    refine qn_iload hX (pc := 13) dX5_portion_13 0 rfl ?_
    refine qn_iload_n hX (pc := 15) dX5_portion_15 4 rfl rfl ?_
    refine qn_icmp_ge hX (pc := 16) r_v3 r_x3 23 dX5_portion_16 (by decide) (fun c4 => ?_) (fun c4 => ?_)
    · have h := ite_f h c4
      refine qn_iload hX (pc := 23) dX5_portion_23 0 rfl ?_
      exact qn_iret hX (pc := 25) dX5_portion_25 hE hR_m0 r_v3 (Option.some.inj h)
    · have h := ite_t h c4
      refine qn_iconst hX (pc := 19) dX5_portion_19 ?_
      refine qn_goto hX (pc := 20) 25 dX5_portion_20 (by decide) ?_
      exact qn_iret hX (pc := 25) dX5_portion_25 hE hR_m0 (by decide) (Option.some.inj h)
  · have h := ite_f h c1
    refine qn_iconst hX (pc := 4) dX5_portion_4 ?_
    exact qn_iret hX (pc := 5) dX5_portion_5 hE hR_m0 (by decide) (Option.some.inj h)
theorem k_X5_portion (l : Launch) {G : qG} (hT : qT G) {N : Nat} {x0 : Int} {x1 : Int} {x2 : Int} {x3 : Int} (r_x0 : in32 x0) (r_x1 : in32 x1) (r_x2 : in32 x2) (r_x3 : in32 x3) {m0 : qM} {r : Int} {nu : qM} (h : f_X5_portion N G x0 x1 x2 x3 m0 = some (r, nu)) : qC l yX5_portion wsX5_portion 0 0 G [.int (iZ x0), .int (iZ x1), .int (iZ x2), .int (iZ x3)] m0 (some (.int (iZ r))) (in32 r) nu := by
  refine qn_start (hy := by decide) hT (hw := rfl) (hn := Nat.le_of_ble_eq_true rfl) ?_
  intro X h1 h2 h3 h4 hX hR
  subst h4
  exact w_X5_portion hX ⟨h1, fun q => h2 ▸ q, h3⟩ r_x0 r_x1 r_x2 r_x3 hR h
theorem dd_X5_portion : yX5_portion.cls ≠ "java/lang/invoke/MethodHandle" ∧ yX5_portion.cls ≠ "java/lang/invoke/VarHandle" ∧ (parseMethodDescriptor yX5_portion.desc).map (fun d => d.parameters.length) = some 4 := by decide +kernel
-- ProRataMarket$Sharing.deal
theorem hi_X5_deal_5 : ∀ w ∈ wsX50, w ∈ wsX5_deal := fun w h => List.mem_cons_of_mem _ (List.mem_append_right _ h)
theorem fd_X5_deal_33 : qFd RX5 wsX5_deal 33 5 6 0 506 := ⟨RX5, TX5, 8, _, rfl, hi_X5_deal_5, by decide, (by decide +kernel : Cond.fieldLink RX5 33 (TX5 6).1 (TX5 6).2.1 (TX5 6).2.2.1 ∈ wsX5_deal), rfl, rfl, by decide⟩
theorem fd_X5_deal_30 : qFd RX5 wsX5_deal 30 5 5 1 505 := ⟨RX5, TX5, 8, _, rfl, hi_X5_deal_5, by decide, (by decide +kernel : Cond.fieldLink RX5 30 (TX5 5).1 (TX5 5).2.1 (TX5 5).2.2.1 ∈ wsX5_deal), rfl, rfl, by decide⟩
theorem fd_X5_deal_17 : qFd RX5 wsX5_deal 17 5 1 1 501 := ⟨RX5, TX5, 8, _, rfl, hi_X5_deal_5, by decide, (by decide +kernel : Cond.fieldLink RX5 17 (TX5 1).1 (TX5 1).2.1 (TX5 1).2.2.1 ∈ wsX5_deal), rfl, rfl, by decide⟩
theorem fd_X5_deal_24 : qFd RX5 wsX5_deal 24 5 3 1 503 := ⟨RX5, TX5, 8, _, rfl, hi_X5_deal_5, by decide, (by decide +kernel : Cond.fieldLink RX5 24 (TX5 3).1 (TX5 3).2.1 (TX5 3).2.2.1 ∈ wsX5_deal), rfl, rfl, by decide⟩
theorem fd_X5_deal_27 : qFd RX5 wsX5_deal 27 5 4 1 504 := ⟨RX5, TX5, 8, _, rfl, hi_X5_deal_5, by decide, (by decide +kernel : Cond.fieldLink RX5 27 (TX5 4).1 (TX5 4).2.1 (TX5 4).2.2.1 ∈ wsX5_deal), rfl, rfl, by decide⟩
theorem fd_X5_deal_21 : qFd RX5 wsX5_deal 21 5 2 1 502 := ⟨RX5, TX5, 8, _, rfl, hi_X5_deal_5, by decide, (by decide +kernel : Cond.fieldLink RX5 21 (TX5 2).1 (TX5 2).2.1 (TX5 2).2.2.1 ∈ wsX5_deal), rfl, rfl, by decide⟩
set_option maxHeartbeats 4000000 in
set_option maxRecDepth 20000 in
theorem w_X5_deal_145 {X : qB} {N : Nat} (hX : qOk X cX5_deal RX5 7 none wsX5_deal 1 24) {r : qM} (hE : xr X = none ∧ (True → xΦ X) ∧ xμ X = r) {k145 : (Nat → Int → Int → qM → Option (qM))} (hk145 : ∀ (x0 : Nat) (x3 : Int) (x6 : Int) (m0 : qM), gK (xG X) x0 = 6 → in32 x3 → in32 x6 → qR (xG X) m0 → k145 x0 x3 x6 m0 = some r → qN X 7 145 [(0, .ref x0), (3, .int (iZ x3)), (6, .int (iZ x6))] [] m0)
    {x0 : Nat} {x3 : Int} {x6 : Int} (k_x0 : gK (xG X) x0 = 6) (r_x3 : in32 x3) (r_x6 : in32 x6) {m0 : qM} (hR_m0 : qR (xG X) m0)
    (h : f_X5_deal_145 N (xG X) k145 x0 x3 x6 m0 = some r) : qN X 7 145 [(0, .ref x0), (3, .int (iZ x3)), (6, .int (iZ x6))] [] m0 := by
  have hT := hX.T
  unfold f_X5_deal_145 at h
  refine qn_iload hX (pc := 145) dX5_deal_145 2 rfl ?_
  refine qn_aload_n hX (pc := 147) dX5_deal_147 0 rfl rfl ?_
  refine qn_getI hX (pc := 148) fd_X5_deal_33 dX5_deal_148 k_x0 ?_
  refine qn_icmp_ge hX (pc := 151) r_x6 (hR_m0.i 506 _ rfl) 204 dX5_deal_151 (by decide) (fun c1 => ?_) (fun c1 => ?_)
  · have h := ite_f h c1
    exact qn_vret hX (pc := 204) dX5_deal_204 hE hR_m0 (Option.some.inj h)
  · have h := ite_t h c1
    refine qn_aload_n hX (pc := 154) dX5_deal_154 0 rfl rfl ?_
    refine qn_getR hX (pc := 155) fd_X5_deal_30 dX5_deal_155 k_x0 ?_
    refine qn_iload hX (pc := 158) dX5_deal_158 2 rfl ?_
    refine qn_iload_n hX (pc := 160) dX5_deal_160 1 rfl rfl ?_
    refine qn_aload_n hX (pc := 161) dX5_deal_161 0 rfl rfl ?_
    refine qn_getR hX (pc := 162) fd_X5_deal_17 dX5_deal_162 k_x0 ?_
    refine qn_iload hX (pc := 165) dX5_deal_165 2 rfl ?_
    obtain ⟨v2, e_v2, b_v2, h⟩ := rdA_e h
    have r_v2 : in32 v2 := by rw [e_v2]; exact hR_m0.a (n := 68) _ (qr_501 hT k_x0) (by decide)
    refine qn_iald hX (pc := 167) 68 dX5_deal_167 (qr_501 hT k_x0) (by decide) b_v2 e_v2 ?_
    refine qn_aload_n hX (pc := 168) dX5_deal_168 0 rfl rfl ?_
    refine qn_getR hX (pc := 169) fd_X5_deal_24 dX5_deal_169 k_x0 ?_
    refine qn_iload hX (pc := 172) dX5_deal_172 2 rfl ?_
    obtain ⟨v3, e_v3, b_v3, h⟩ := rdA_e h
    have r_v3 : in32 v3 := by rw [e_v3]; exact hR_m0.a (n := 68) _ (qr_503 hT k_x0) (by decide)
    refine qn_iald hX (pc := 174) 68 dX5_deal_174 (qr_503 hT k_x0) (by decide) b_v3 e_v3 ?_
    obtain ⟨v4, e_v4, r_v4, h⟩ := ckI_e h
    refine qn_isub hX (pc := 175) dX5_deal_175 e_v4 ?_
    refine qn_aload_n hX (pc := 176) dX5_deal_176 0 rfl rfl ?_
    refine qn_getR hX (pc := 177) fd_X5_deal_27 dX5_deal_177 k_x0 ?_
    refine qn_iload hX (pc := 180) dX5_deal_180 2 rfl ?_
    obtain ⟨v5, e_v5, b_v5, h⟩ := rdA_e h
    have r_v5 : in32 v5 := by rw [e_v5]; exact hR_m0.a (n := 68) _ (qr_504 hT k_x0) (by decide)
    refine qn_iald hX (pc := 182) 68 dX5_deal_182 (qr_504 hT k_x0) (by decide) b_v5 e_v5 ?_
    obtain ⟨v6, e_v6, r_v6, h⟩ := ckI_e h
    refine qn_isub hX (pc := 183) dX5_deal_183 e_v6 ?_
    obtain ⟨v7, e_v7, h⟩ := kp_e h
    have r_v7 : in32 v7 := by rw [e_v7]; exact in32_min r_x3 r_v6
    refine qn_min hX (pc := 184) r_x3 r_v6 dX5_deal_184 (by decide +kernel) (by decide +kernel) (by decide +kernel) (by decide +kernel) ⟨rfl, rfl⟩ e_v7 ?_
    obtain ⟨m8, e_m8, b_m8, h⟩ := wrA_e h
    refine qn_iast hX (pc := 187) 68 dX5_deal_187 (qr_505 hT k_x0) (by decide) b_m8 hR_m0 r_v7 e_m8 (fun hR_m8 => ?_) 
    refine qn_iload_n hX (pc := 188) dX5_deal_188 1 rfl rfl ?_
    refine qn_aload_n hX (pc := 189) dX5_deal_189 0 rfl rfl ?_
    refine qn_getR hX (pc := 190) fd_X5_deal_30 dX5_deal_190 k_x0 ?_
    refine qn_iload hX (pc := 193) dX5_deal_193 2 rfl ?_
    obtain ⟨v9, e_v9, b_v9, h⟩ := rdA_e h
    have r_v9 : in32 v9 := by rw [e_v9]; exact hR_m8.a (n := 68) _ (qr_505 hT k_x0) (by decide)
    refine qn_iald hX (pc := 195) 68 dX5_deal_195 (qr_505 hT k_x0) (by decide) b_v9 e_v9 ?_
    obtain ⟨v10, e_v10, r_v10, h⟩ := ckI_e h
    refine qn_isub hX (pc := 196) dX5_deal_196 e_v10 ?_
    refine qn_istore_n hX (pc := 197) (ls' := [(3, .int (iZ v10)), (0, .ref x0), (6, .int (iZ x6))]) dX5_deal_197 rfl rfl rfl ?_
    obtain ⟨v11, e_v11, r_v11, h⟩ := ckI_e h
    refine qn_iinc hX (pc := 198) (ls' := [(6, .int (iZ v11)), (3, .int (iZ v10)), (0, .ref x0)]) dX5_deal_198 2 rfl e_v11 rfl rfl ?_
    refine qn_goto hX (pc := 201) 145 dX5_deal_201 (by decide) ?_
    refine qn_sub (ls' := [(0, .ref x0), (3, .int (iZ v10)), (6, .int (iZ v11))]) [2, 1, 0] rfl ?_
    exact hk145 x0 v10 v11 m8 k_x0 r_v10 r_v11 hR_m8 h
set_option maxHeartbeats 4000000 in
set_option maxRecDepth 20000 in
theorem w_X5_deal_L145 {X : qB} {N : Nat} (hX : qOk X cX5_deal RX5 7 none wsX5_deal 1 24) {r : qM} (hE : xr X = none ∧ (True → xΦ X) ∧ xμ X = r) 
    {x0 : Nat} {x3 : Int} {x6 : Int} (k_x0 : gK (xG X) x0 = 6) (r_x3 : in32 x3) (r_x6 : in32 x6) {m0 : qM} (hR_m0 : qR (xG X) m0)
    (h : f_X5_deal_L145 N (xG X)  x0 x3 x6 m0 = some r) : qN X 7 145 [(0, .ref x0), (3, .int (iZ x3)), (6, .int (iZ x6))] [] m0 := by
  unfold f_X5_deal_L145 at h
  exact qLoop_w (σ := Nat × Int × Int × qM) (P := fun p => gK (xG X) p.1 = 6 ∧ in32 p.2.1 ∧ in32 p.2.2.1 ∧ qR (xG X) p.2.2.2) (Q := fun p => qN X 7 145 [(0, .ref p.1), (3, .int (iZ p.2.1)), (6, .int (iZ p.2.2.1))] [] p.2.2.2) (fun k hrec p hp hh => w_X5_deal_145 hX hE (fun x0 x3 x6 m0 q0 q1 q2 hRm hh => hrec (x0, x3, x6, m0) ⟨q0, q1, q2, hRm⟩ hh) hp.1 hp.2.1 hp.2.2.1 hp.2.2.2 hh) N (x0, x3, x6, m0) ⟨k_x0, r_x3, r_x6, hR_m0⟩ h
set_option maxHeartbeats 4000000 in
set_option maxRecDepth 20000 in
theorem w_X5_deal_87 {X : qB} {N : Nat} (hX : qOk X cX5_deal RX5 7 none wsX5_deal 1 24) {r : qM} (hE : xr X = none ∧ (True → xΦ X) ∧ xμ X = r) {k87 : (Nat → Int → Int → Int → Int → Int → qM → Option (qM))} (hk87 : ∀ (x0 : Nat) (x2 : Int) (x3 : Int) (x4 : Int) (x5 : Int) (x6 : Int) (m0 : qM), gK (xG X) x0 = 6 → in32 x2 → in32 x3 → in32 x4 → in32 x5 → in32 x6 → qR (xG X) m0 → k87 x0 x2 x3 x4 x5 x6 m0 = some r → qN X 7 87 [(0, .ref x0), (2, .int (iZ x2)), (3, .int (iZ x3)), (4, .int (iZ x4)), (5, .int (iZ x5)), (6, .int (iZ x6))] [] m0)
    {x0 : Nat} {x2 : Int} {x3 : Int} {x4 : Int} {x5 : Int} {x6 : Int} (k_x0 : gK (xG X) x0 = 6) (r_x2 : in32 x2) (r_x3 : in32 x3) (r_x4 : in32 x4) (r_x5 : in32 x5) (r_x6 : in32 x6) {m0 : qM} (hR_m0 : qR (xG X) m0)
    (h : f_X5_deal_87 N (xG X) k87 x0 x2 x3 x4 x5 x6 m0 = some r) : qN X 7 87 [(0, .ref x0), (2, .int (iZ x2)), (3, .int (iZ x3)), (4, .int (iZ x4)), (5, .int (iZ x5)), (6, .int (iZ x6))] [] m0 := by
  have hT := hX.T
  unfold f_X5_deal_87 at h
  refine qn_iload hX (pc := 87) dX5_deal_87 5 rfl ?_
  refine qn_aload_n hX (pc := 89) dX5_deal_89 0 rfl rfl ?_
  refine qn_getI hX (pc := 90) fd_X5_deal_33 dX5_deal_90 k_x0 ?_
  refine qn_icmp_ge hX (pc := 93) r_x6 (hR_m0.i 506 _ rfl) 142 dX5_deal_93 (by decide) (fun c1 => ?_) (fun c1 => ?_)
  · have h := ite_f h c1
    refine qn_iconst hX (pc := 142) dX5_deal_142 ?_
    refine qn_istore hX (pc := 143) (ls' := [(6, .int (iZ 0)), (0, .ref x0), (2, .int (iZ x2)), (3, .int (iZ x3)), (4, .int (iZ x4)), (5, .int (iZ x5))]) dX5_deal_143 rfl rfl ?_
    refine qn_sub (ls' := [(0, .ref x0), (3, .int (iZ x3)), (6, .int (iZ 0))]) [1, 3, 0] rfl ?_
    exact w_X5_deal_L145 hX hE  k_x0 r_x3 (by decide) hR_m0 h
  · have h := ite_t h c1
    refine qn_aload_n hX (pc := 96) dX5_deal_96 0 rfl rfl ?_
    refine qn_getR hX (pc := 97) fd_X5_deal_27 dX5_deal_97 k_x0 ?_
    refine qn_iload hX (pc := 100) dX5_deal_100 5 rfl ?_
    refine qn_iload hX (pc := 102) dX5_deal_102 4 rfl ?_
    refine qn_aload_n hX (pc := 104) dX5_deal_104 0 rfl rfl ?_
    refine qn_getR hX (pc := 105) fd_X5_deal_17 dX5_deal_105 k_x0 ?_
    refine qn_iload hX (pc := 108) dX5_deal_108 5 rfl ?_
    obtain ⟨v2, e_v2, b_v2, h⟩ := rdA_e h
    have r_v2 : in32 v2 := by rw [e_v2]; exact hR_m0.a (n := 68) _ (qr_501 hT k_x0) (by decide)
    refine qn_iald hX (pc := 110) 68 dX5_deal_110 (qr_501 hT k_x0) (by decide) b_v2 e_v2 ?_
    refine qn_aload_n hX (pc := 111) dX5_deal_111 0 rfl rfl ?_
    refine qn_getR hX (pc := 112) fd_X5_deal_24 dX5_deal_112 k_x0 ?_
    refine qn_iload hX (pc := 115) dX5_deal_115 5 rfl ?_
    obtain ⟨v3, e_v3, b_v3, h⟩ := rdA_e h
    have r_v3 : in32 v3 := by rw [e_v3]; exact hR_m0.a (n := 68) _ (qr_503 hT k_x0) (by decide)
    refine qn_iald hX (pc := 117) 68 dX5_deal_117 (qr_503 hT k_x0) (by decide) b_v3 e_v3 ?_
    obtain ⟨v4, e_v4, r_v4, h⟩ := ckI_e h
    refine qn_isub hX (pc := 118) dX5_deal_118 e_v4 ?_
    refine qn_iload hX (pc := 119) dX5_deal_119 3 rfl ?_
    refine qn_iload_n hX (pc := 121) dX5_deal_121 1 rfl rfl ?_
    obtain ⟨v6, m5, e_m5, h⟩ := kb2_e h
    refine qn_callSi hX (pc := 122) [.int (iZ x5), .int (iZ v4), .int (iZ x4), .int (iZ x2)] [.int (iZ x2), .int (iZ x4), .int (iZ v4), .int (iZ x5)] 4 dX5_deal_122 gX5_deal_X5_portion rfl dd_X5_portion ⟨rfl, rfl⟩ rfl rfl rfl hR_m0 (k_X5_portion (xl X) hT r_x5 r_v4 r_x4 r_x2 e_m5) (fun r_v6 hR_m5 => ?_)
    obtain ⟨m7, e_m7, b_m7, h⟩ := wrA_e h
    refine qn_iast hX (pc := 125) 68 dX5_deal_125 (qr_504 hT k_x0) (by decide) b_m7 hR_m5 r_v6 e_m7 (fun hR_m7 => ?_) 
    refine qn_iload_n hX (pc := 126) dX5_deal_126 2 rfl rfl ?_
    refine qn_aload_n hX (pc := 127) dX5_deal_127 0 rfl rfl ?_
    refine qn_getR hX (pc := 128) fd_X5_deal_27 dX5_deal_128 k_x0 ?_
    refine qn_iload hX (pc := 131) dX5_deal_131 5 rfl ?_
    obtain ⟨v8, e_v8, b_v8, h⟩ := rdA_e h
    have r_v8 : in32 v8 := by rw [e_v8]; exact hR_m7.a (n := 68) _ (qr_504 hT k_x0) (by decide)
    refine qn_iald hX (pc := 133) 68 dX5_deal_133 (qr_504 hT k_x0) (by decide) b_v8 e_v8 ?_
    obtain ⟨v9, e_v9, r_v9, h⟩ := ckI_e h
    refine qn_isub hX (pc := 134) dX5_deal_134 e_v9 ?_
    refine qn_istore_n hX (pc := 135) (ls' := [(3, .int (iZ v9)), (0, .ref x0), (2, .int (iZ x2)), (4, .int (iZ x4)), (5, .int (iZ x5)), (6, .int (iZ x6))]) dX5_deal_135 rfl rfl rfl ?_
    obtain ⟨v10, e_v10, r_v10, h⟩ := ckI_e h
    refine qn_iinc hX (pc := 136) (ls' := [(6, .int (iZ v10)), (3, .int (iZ v9)), (0, .ref x0), (2, .int (iZ x2)), (4, .int (iZ x4)), (5, .int (iZ x5))]) dX5_deal_136 5 rfl e_v10 rfl rfl ?_
    refine qn_goto hX (pc := 139) 87 dX5_deal_139 (by decide) ?_
    refine qn_sub (ls' := [(0, .ref x0), (2, .int (iZ x2)), (3, .int (iZ v9)), (4, .int (iZ x4)), (5, .int (iZ x5)), (6, .int (iZ v10))]) [2, 3, 1, 4, 5, 0] rfl ?_
    exact hk87 x0 x2 v9 x4 x5 v10 m7 k_x0 r_x2 r_v9 r_x4 r_x5 r_v10 hR_m7 h
set_option maxHeartbeats 4000000 in
set_option maxRecDepth 20000 in
theorem w_X5_deal_L87 {X : qB} {N : Nat} (hX : qOk X cX5_deal RX5 7 none wsX5_deal 1 24) {r : qM} (hE : xr X = none ∧ (True → xΦ X) ∧ xμ X = r) 
    {x0 : Nat} {x2 : Int} {x3 : Int} {x4 : Int} {x5 : Int} {x6 : Int} (k_x0 : gK (xG X) x0 = 6) (r_x2 : in32 x2) (r_x3 : in32 x3) (r_x4 : in32 x4) (r_x5 : in32 x5) (r_x6 : in32 x6) {m0 : qM} (hR_m0 : qR (xG X) m0)
    (h : f_X5_deal_L87 N (xG X)  x0 x2 x3 x4 x5 x6 m0 = some r) : qN X 7 87 [(0, .ref x0), (2, .int (iZ x2)), (3, .int (iZ x3)), (4, .int (iZ x4)), (5, .int (iZ x5)), (6, .int (iZ x6))] [] m0 := by
  unfold f_X5_deal_L87 at h
  exact qLoop_w (σ := Nat × Int × Int × Int × Int × Int × qM) (P := fun p => gK (xG X) p.1 = 6 ∧ in32 p.2.1 ∧ in32 p.2.2.1 ∧ in32 p.2.2.2.1 ∧ in32 p.2.2.2.2.1 ∧ in32 p.2.2.2.2.2.1 ∧ qR (xG X) p.2.2.2.2.2.2) (Q := fun p => qN X 7 87 [(0, .ref p.1), (2, .int (iZ p.2.1)), (3, .int (iZ p.2.2.1)), (4, .int (iZ p.2.2.2.1)), (5, .int (iZ p.2.2.2.2.1)), (6, .int (iZ p.2.2.2.2.2.1))] [] p.2.2.2.2.2.2) (fun k hrec p hp hh => w_X5_deal_87 hX hE (fun x0 x2 x3 x4 x5 x6 m0 q0 q1 q2 q3 q4 q5 hRm hh => hrec (x0, x2, x3, x4, x5, x6, m0) ⟨q0, q1, q2, q3, q4, q5, hRm⟩ hh) hp.1 hp.2.1 hp.2.2.1 hp.2.2.2.1 hp.2.2.2.2.1 hp.2.2.2.2.2.1 hp.2.2.2.2.2.2 hh) N (x0, x2, x3, x4, x5, x6, m0) ⟨k_x0, r_x2, r_x3, r_x4, r_x5, r_x6, hR_m0⟩ h
set_option maxHeartbeats 4000000 in
set_option maxRecDepth 20000 in
theorem w_X5_deal_8 {X : qB} {N : Nat} (hX : qOk X cX5_deal RX5 7 none wsX5_deal 1 24) {r : qM} (hE : xr X = none ∧ (True → xΦ X) ∧ xμ X = r) {k8 : (Nat → Int → Int → Int → Int → qM → Option (qM))} (hk8 : ∀ (x0 : Nat) (x2 : Int) (x3 : Int) (x4 : Int) (x5 : Int) (m0 : qM), gK (xG X) x0 = 6 → in32 x2 → in32 x3 → in32 x4 → in32 x5 → qR (xG X) m0 → k8 x0 x2 x3 x4 x5 m0 = some r → qN X 7 8 [(0, .ref x0), (2, .int (iZ x2)), (3, .int (iZ x3)), (4, .int (iZ x4)), (5, .int (iZ x5))] [] m0)
    {x0 : Nat} {x2 : Int} {x3 : Int} {x4 : Int} {x5 : Int} (k_x0 : gK (xG X) x0 = 6) (r_x2 : in32 x2) (r_x3 : in32 x3) (r_x4 : in32 x4) (r_x5 : in32 x5) {m0 : qM} (hR_m0 : qR (xG X) m0)
    (h : f_X5_deal_8 N (xG X) k8 x0 x2 x3 x4 x5 m0 = some r) : qN X 7 8 [(0, .ref x0), (2, .int (iZ x2)), (3, .int (iZ x3)), (4, .int (iZ x4)), (5, .int (iZ x5))] [] m0 := by
  have hT := hX.T
  unfold f_X5_deal_8 at h
  refine qn_iload hX (pc := 8) dX5_deal_8 4 rfl ?_
  refine qn_aload_n hX (pc := 10) dX5_deal_10 0 rfl rfl ?_
  refine qn_getI hX (pc := 11) fd_X5_deal_33 dX5_deal_11 k_x0 ?_
  refine qn_icmp_ge hX (pc := 14) r_x5 (hR_m0.i 506 _ rfl) 81 dX5_deal_14 (by decide) (fun c1 => ?_) (fun c1 => ?_)
  · have h := ite_f h c1
    refine qn_iload_n hX (pc := 81) dX5_deal_81 2 rfl rfl ?_
    refine qn_istore hX (pc := 82) (ls' := [(5, .int (iZ x3)), (0, .ref x0), (2, .int (iZ x2)), (3, .int (iZ x3)), (4, .int (iZ x4))]) dX5_deal_82 rfl rfl ?_
    refine qn_iconst hX (pc := 84) dX5_deal_84 ?_
    refine qn_istore hX (pc := 85) (ls' := [(6, .int (iZ 0)), (5, .int (iZ x3)), (0, .ref x0), (2, .int (iZ x2)), (3, .int (iZ x3)), (4, .int (iZ x4))]) dX5_deal_85 rfl rfl ?_
    refine qn_sub (ls' := [(0, .ref x0), (2, .int (iZ x2)), (3, .int (iZ x3)), (4, .int (iZ x4)), (5, .int (iZ x3)), (6, .int (iZ 0))]) [2, 3, 4, 5, 1, 0] rfl ?_
    exact w_X5_deal_L87 hX hE  k_x0 r_x2 r_x3 r_x4 r_x3 (by decide) hR_m0 h
  · have h := ite_t h c1
    refine qn_aload_n hX (pc := 17) dX5_deal_17 0 rfl rfl ?_
    refine qn_getR hX (pc := 18) fd_X5_deal_24 dX5_deal_18 k_x0 ?_
    refine qn_iload hX (pc := 21) dX5_deal_21 4 rfl ?_
    refine qn_iload_n hX (pc := 23) dX5_deal_23 2 rfl rfl ?_
    refine qn_aload_n hX (pc := 24) dX5_deal_24 0 rfl rfl ?_
    refine qn_getR hX (pc := 25) fd_X5_deal_17 dX5_deal_25 k_x0 ?_
    refine qn_iload hX (pc := 28) dX5_deal_28 4 rfl ?_
    obtain ⟨v2, e_v2, b_v2, h⟩ := rdA_e h
    have r_v2 : in32 v2 := by rw [e_v2]; exact hR_m0.a (n := 68) _ (qr_501 hT k_x0) (by decide)
    refine qn_iald hX (pc := 30) 68 dX5_deal_30 (qr_501 hT k_x0) (by decide) b_v2 e_v2 ?_
    refine qn_aload_n hX (pc := 31) dX5_deal_31 0 rfl rfl ?_
    refine qn_getR hX (pc := 32) fd_X5_deal_21 dX5_deal_32 k_x0 ?_
    refine qn_iload hX (pc := 35) dX5_deal_35 4 rfl ?_
    obtain ⟨v3, e_v3, b_v3, h⟩ := rdA_e h
    have r_v3 : in32 v3 := by rw [e_v3]; exact hR_m0.a (n := 68) _ (qr_502 hT k_x0) (by decide)
    refine qn_iald hX (pc := 37) 68 dX5_deal_37 (qr_502 hT k_x0) (by decide) b_v3 e_v3 ?_
    obtain ⟨v4, e_v4, h⟩ := kp_e h
    have r_v4 : in32 v4 := by rw [e_v4]; exact in32_min r_v2 r_v3
    refine qn_min hX (pc := 38) r_v2 r_v3 dX5_deal_38 (by decide +kernel) (by decide +kernel) (by decide +kernel) (by decide +kernel) ⟨rfl, rfl⟩ e_v4 ?_
    obtain ⟨v5, e_v5, h⟩ := kp_e h
    have r_v5 : in32 v5 := by rw [e_v5]; exact in32_min r_x3 r_v4
    refine qn_min hX (pc := 41) r_x3 r_v4 dX5_deal_41 (by decide +kernel) (by decide +kernel) (by decide +kernel) (by decide +kernel) ⟨rfl, rfl⟩ e_v5 ?_
    obtain ⟨m6, e_m6, b_m6, h⟩ := wrA_e h
    refine qn_iast hX (pc := 44) 68 dX5_deal_44 (qr_503 hT k_x0) (by decide) b_m6 hR_m0 r_v5 e_m6 (fun hR_m6 => ?_) 
    refine qn_iload_n hX (pc := 45) dX5_deal_45 2 rfl rfl ?_
    refine qn_aload_n hX (pc := 46) dX5_deal_46 0 rfl rfl ?_
    refine qn_getR hX (pc := 47) fd_X5_deal_24 dX5_deal_47 k_x0 ?_
    refine qn_iload hX (pc := 50) dX5_deal_50 4 rfl ?_
    obtain ⟨v7, e_v7, b_v7, h⟩ := rdA_e h
    have r_v7 : in32 v7 := by rw [e_v7]; exact hR_m6.a (n := 68) _ (qr_503 hT k_x0) (by decide)
    refine qn_iald hX (pc := 52) 68 dX5_deal_52 (qr_503 hT k_x0) (by decide) b_v7 e_v7 ?_
    obtain ⟨v8, e_v8, r_v8, h⟩ := ckI_e h
    refine qn_isub hX (pc := 53) dX5_deal_53 e_v8 ?_
    refine qn_istore_n hX (pc := 54) (ls' := [(3, .int (iZ v8)), (0, .ref x0), (2, .int (iZ x2)), (4, .int (iZ x4)), (5, .int (iZ x5))]) dX5_deal_54 rfl rfl rfl ?_
    refine qn_iload hX (pc := 55) dX5_deal_55 3 rfl ?_
    refine qn_aload_n hX (pc := 57) dX5_deal_57 1 rfl rfl ?_
    refine qn_getR hX (pc := 58) fd_X5_deal_17 dX5_deal_58 k_x0 ?_
    refine qn_iload hX (pc := 61) dX5_deal_61 4 rfl ?_
    obtain ⟨v9, e_v9, b_v9, h⟩ := rdA_e h
    have r_v9 : in32 v9 := by rw [e_v9]; exact hR_m6.a (n := 68) _ (qr_501 hT k_x0) (by decide)
    refine qn_iald hX (pc := 63) 68 dX5_deal_63 (qr_501 hT k_x0) (by decide) b_v9 e_v9 ?_
    refine qn_aload_n hX (pc := 64) dX5_deal_64 1 rfl rfl ?_
    refine qn_getR hX (pc := 65) fd_X5_deal_24 dX5_deal_65 k_x0 ?_
    refine qn_iload hX (pc := 68) dX5_deal_68 4 rfl ?_
    obtain ⟨v10, e_v10, b_v10, h⟩ := rdA_e h
    have r_v10 : in32 v10 := by rw [e_v10]; exact hR_m6.a (n := 68) _ (qr_503 hT k_x0) (by decide)
    refine qn_iald hX (pc := 70) 68 dX5_deal_70 (qr_503 hT k_x0) (by decide) b_v10 e_v10 ?_
    obtain ⟨v11, e_v11, r_v11, h⟩ := ckI_e h
    refine qn_isub hX (pc := 71) dX5_deal_71 e_v11 ?_
    obtain ⟨v12, e_v12, r_v12, h⟩ := ckI_e h
    refine qn_iadd hX (pc := 72) dX5_deal_72 e_v12 ?_
    refine qn_istore hX (pc := 73) (ls' := [(4, .int (iZ v12)), (3, .int (iZ v8)), (0, .ref x0), (2, .int (iZ x2)), (5, .int (iZ x5))]) dX5_deal_73 rfl rfl ?_
    obtain ⟨v13, e_v13, r_v13, h⟩ := ckI_e h
    refine qn_iinc hX (pc := 75) (ls' := [(5, .int (iZ v13)), (4, .int (iZ v12)), (3, .int (iZ v8)), (0, .ref x0), (2, .int (iZ x2))]) dX5_deal_75 4 rfl e_v13 rfl rfl ?_
    refine qn_goto hX (pc := 78) 8 dX5_deal_78 (by decide) ?_
    refine qn_sub (ls' := [(0, .ref x0), (2, .int (iZ x2)), (3, .int (iZ v8)), (4, .int (iZ v12)), (5, .int (iZ v13))]) [3, 4, 2, 1, 0] rfl ?_
    exact hk8 x0 x2 v8 v12 v13 m6 k_x0 r_x2 r_v8 r_v12 r_v13 hR_m6 h
set_option maxHeartbeats 4000000 in
set_option maxRecDepth 20000 in
theorem w_X5_deal_L8 {X : qB} {N : Nat} (hX : qOk X cX5_deal RX5 7 none wsX5_deal 1 24) {r : qM} (hE : xr X = none ∧ (True → xΦ X) ∧ xμ X = r) 
    {x0 : Nat} {x2 : Int} {x3 : Int} {x4 : Int} {x5 : Int} (k_x0 : gK (xG X) x0 = 6) (r_x2 : in32 x2) (r_x3 : in32 x3) (r_x4 : in32 x4) (r_x5 : in32 x5) {m0 : qM} (hR_m0 : qR (xG X) m0)
    (h : f_X5_deal_L8 N (xG X)  x0 x2 x3 x4 x5 m0 = some r) : qN X 7 8 [(0, .ref x0), (2, .int (iZ x2)), (3, .int (iZ x3)), (4, .int (iZ x4)), (5, .int (iZ x5))] [] m0 := by
  unfold f_X5_deal_L8 at h
  exact qLoop_w (σ := Nat × Int × Int × Int × Int × qM) (P := fun p => gK (xG X) p.1 = 6 ∧ in32 p.2.1 ∧ in32 p.2.2.1 ∧ in32 p.2.2.2.1 ∧ in32 p.2.2.2.2.1 ∧ qR (xG X) p.2.2.2.2.2) (Q := fun p => qN X 7 8 [(0, .ref p.1), (2, .int (iZ p.2.1)), (3, .int (iZ p.2.2.1)), (4, .int (iZ p.2.2.2.1)), (5, .int (iZ p.2.2.2.2.1))] [] p.2.2.2.2.2) (fun k hrec p hp hh => w_X5_deal_8 hX hE (fun x0 x2 x3 x4 x5 m0 q0 q1 q2 q3 q4 hRm hh => hrec (x0, x2, x3, x4, x5, m0) ⟨q0, q1, q2, q3, q4, hRm⟩ hh) hp.1 hp.2.1 hp.2.2.1 hp.2.2.2.1 hp.2.2.2.2.1 hp.2.2.2.2.2 hh) N (x0, x2, x3, x4, x5, m0) ⟨k_x0, r_x2, r_x3, r_x4, r_x5, hR_m0⟩ h
set_option maxHeartbeats 4000000 in
set_option maxRecDepth 20000 in
theorem w_X5_deal {X : qB} {N : Nat} (hX : qOk X cX5_deal RX5 7 none wsX5_deal 1 24) {r : qM} (hE : xr X = none ∧ (True → xΦ X) ∧ xμ X = r) 
    {x0 : Nat} {x1 : Int} {x2 : Int} (k_x0 : gK (xG X) x0 = 6) (r_x1 : in32 x1) (r_x2 : in32 x2) {m0 : qM} (hR_m0 : qR (xG X) m0)
    (h : f_X5_deal N (xG X)  x0 x1 x2 m0 = some r) : qN X 7 0 [(0, .ref x0), (1, .int (iZ x1)), (2, .int (iZ x2))] [] m0 := by
  have hT := hX.T
  unfold f_X5_deal at h
  refine qn_iload_n hX (pc := 0) dX5_deal_0 1 rfl rfl ?_
  refine qn_istore_n hX (pc := 1) (ls' := [(3, .int (iZ x1)), (0, .ref x0), (1, .int (iZ x1)), (2, .int (iZ x2))]) dX5_deal_1 rfl rfl rfl ?_
  refine qn_iconst hX (pc := 2) dX5_deal_2 ?_
  refine qn_istore hX (pc := 3) (ls' := [(4, .int (iZ 0)), (3, .int (iZ x1)), (0, .ref x0), (1, .int (iZ x1)), (2, .int (iZ x2))]) dX5_deal_3 rfl rfl ?_
  refine qn_iconst hX (pc := 5) dX5_deal_5 ?_
  refine qn_istore hX (pc := 6) (ls' := [(5, .int (iZ 0)), (4, .int (iZ 0)), (3, .int (iZ x1)), (0, .ref x0), (1, .int (iZ x1)), (2, .int (iZ x2))]) dX5_deal_6 rfl rfl ?_
  refine qn_sub (ls' := [(0, .ref x0), (2, .int (iZ x2)), (3, .int (iZ x1)), (4, .int (iZ 0)), (5, .int (iZ 0))]) [3, 5, 2, 1, 0] rfl ?_
  exact w_X5_deal_L8 hX hE  k_x0 r_x2 r_x1 (by decide) (by decide) hR_m0 h
theorem k_X5_deal (l : Launch) {G : qG} (hT : qT G) {N : Nat} {x0 : Nat} {x1 : Int} {x2 : Int} (k_x0 : gK G x0 = 6) (r_x1 : in32 x1) (r_x2 : in32 x2) {m0 : qM} {r : qM} (h : f_X5_deal N G x0 x1 x2 m0 = some r) : qC l yX5_deal wsX5_deal 1 24 G [.ref x0, .int (iZ x1), .int (iZ x2)] m0 none True r := by
  refine qn_start (hy := by decide) hT (hw := rfl) (hn := Nat.le_of_ble_eq_true rfl) ?_
  intro X h1 h2 h3 h4 hX hR
  subst h4
  exact w_X5_deal hX ⟨h1, fun q => h2 ▸ q, h3⟩ k_x0 r_x1 r_x2 hR h
theorem dd_X5_deal : yX5_deal.cls = RX5 ∧ yX5_deal.cls ≠ "java/lang/invoke/MethodHandle" ∧ yX5_deal.cls ≠ "java/lang/invoke/VarHandle" ∧ (parseMethodDescriptor yX5_deal.desc).map (fun d => d.parameters.length) = some 2 := by decide +kernel
-- ProRataMarket$Ledger.keep
theorem hi_X3_keep_3 : ∀ w ∈ wsX30, w ∈ wsX3_keep := fun w h => List.mem_cons_of_mem _ (List.mem_append_right _ h)
theorem fd_X3_keep_11 : qFd RX3 wsX3_keep 11 3 0 1 300 := ⟨RX3, TX3, 7, _, rfl, hi_X3_keep_3, by decide, (by decide +kernel : Cond.fieldLink RX3 11 (TX3 0).1 (TX3 0).2.1 (TX3 0).2.2.1 ∈ wsX3_keep), rfl, rfl, by decide⟩
theorem fd_X3_keep_28 : qFd RX3 wsX3_keep 28 3 2 0 302 := ⟨RX3, TX3, 7, _, rfl, hi_X3_keep_3, by decide, (by decide +kernel : Cond.fieldLink RX3 28 (TX3 2).1 (TX3 2).2.1 (TX3 2).2.2.1 ∈ wsX3_keep), rfl, rfl, by decide⟩
theorem fp_X3_keep_28 : qFp RX3 wsX3_keep 28 3 2 0 302 .int := ⟨RX3, TX3, 7, _, tyX3, rfl, hi_X3_keep_3, by decide, (by decide +kernel : Cond.fieldLink RX3 28 (TX3 2).1 (TX3 2).2.1 (TX3 2).2.2.1 ∈ wsX3_keep), rfl, rfl, by decide, tyX3_ok, nmX3, rfl, by decide +kernel⟩
theorem fd_X3_keep_24 : qFd RX3 wsX3_keep 24 3 1 0 301 := ⟨RX3, TX3, 7, _, rfl, hi_X3_keep_3, by decide, (by decide +kernel : Cond.fieldLink RX3 24 (TX3 1).1 (TX3 1).2.1 (TX3 1).2.2.1 ∈ wsX3_keep), rfl, rfl, by decide⟩
theorem fp_X3_keep_24 : qFp RX3 wsX3_keep 24 3 1 0 301 .int := ⟨RX3, TX3, 7, _, tyX3, rfl, hi_X3_keep_3, by decide, (by decide +kernel : Cond.fieldLink RX3 24 (TX3 1).1 (TX3 1).2.1 (TX3 1).2.2.1 ∈ wsX3_keep), rfl, rfl, by decide, tyX3_ok, nmX3, rfl, by decide +kernel⟩
theorem fp_X3_keep_31 : qFp RX3 wsX3_keep 31 3 3 0 303 .int := ⟨RX3, TX3, 7, _, tyX3, rfl, hi_X3_keep_3, by decide, (by decide +kernel : Cond.fieldLink RX3 31 (TX3 3).1 (TX3 3).2.1 (TX3 3).2.2.1 ∈ wsX3_keep), rfl, rfl, by decide, tyX3_ok, nmX3, rfl, by decide +kernel⟩
set_option maxHeartbeats 4000000 in
set_option maxRecDepth 20000 in
theorem w_X3_keep {X : qB} {N : Nat} (hX : qOk X cX3_keep RX3 7 none wsX3_keep 1 24) {r : qM} (hE : xr X = none ∧ (True → xΦ X) ∧ xμ X = r) 
    {x0 : Nat} {x1 : Int} {x2 : Int} {x3 : Int} {x4 : Int} {x5 : Int} (k_x0 : gK (xG X) x0 = 4) (r_x1 : in32 x1) (r_x2 : in32 x2) (r_x3 : in32 x3) (r_x4 : in32 x4) (r_x5 : in32 x5) {m0 : qM} (hR_m0 : qR (xG X) m0)
    (h : f_X3_keep N (xG X)  x0 x1 x2 x3 x4 x5 m0 = some r) : qN X 7 0 [(0, .ref x0), (1, .int (iZ x1)), (2, .int (iZ x2)), (3, .int (iZ x3)), (4, .int (iZ x4)), (5, .int (iZ x5))] [] m0 := by
  have hT := hX.T
  unfold f_X3_keep at h
  refine qn_aload_n hX (pc := 0) dX3_keep_0 0 rfl rfl ?_
  refine qn_getR hX (pc := 1) fd_X3_keep_11 dX3_keep_1 k_x0 ?_
  refine qn_aload_n hX (pc := 4) dX3_keep_4 0 rfl rfl ?_
  refine qn_getI hX (pc := 5) fd_X3_keep_28 dX3_keep_5 k_x0 ?_
  obtain ⟨o1, e_o1, b_o1, k_o1, h⟩ := rdQ_e h
  refine qn_aaldR hX (pc := 8) 60 dX3_keep_8 (qr_300 hT k_x0) (by decide) b_o1 e_o1 ?_
  refine qn_astore hX (pc := 9) (ls' := [(6, .ref o1), (0, .ref x0), (1, .int (iZ x1)), (2, .int (iZ x2)), (3, .int (iZ x3)), (4, .int (iZ x4)), (5, .int (iZ x5))]) dX3_keep_9 rfl rfl ?_
  refine qn_aload hX (pc := 11) dX3_keep_11 0 rfl ?_
  refine qn_iconst hX (pc := 13) dX3_keep_13 ?_
  refine qn_iload_n hX (pc := 14) dX3_keep_14 2 rfl rfl ?_
  obtain ⟨m2, e_m2, h⟩ := kp_e h
  refine qn_iast hX (pc := 15) 5 dX3_keep_15 k_o1 (by decide) (by decide) hR_m0 r_x1 e_m2 (fun hR_m2 => ?_) 
  refine qn_aload hX (pc := 16) dX3_keep_16 0 rfl ?_
  refine qn_iconst hX (pc := 18) dX3_keep_18 ?_
  refine qn_iload_n hX (pc := 19) dX3_keep_19 3 rfl rfl ?_
  obtain ⟨m3, e_m3, h⟩ := kp_e h
  refine qn_iast hX (pc := 20) 5 dX3_keep_20 k_o1 (by decide) (by decide) hR_m2 r_x2 e_m3 (fun hR_m3 => ?_) 
  refine qn_aload hX (pc := 21) dX3_keep_21 0 rfl ?_
  refine qn_iconst hX (pc := 23) dX3_keep_23 ?_
  refine qn_iload_n hX (pc := 24) dX3_keep_24 4 rfl rfl ?_
  obtain ⟨m4, e_m4, h⟩ := kp_e h
  refine qn_iast hX (pc := 25) 5 dX3_keep_25 k_o1 (by decide) (by decide) hR_m3 r_x3 e_m4 (fun hR_m4 => ?_) 
  refine qn_aload hX (pc := 26) dX3_keep_26 0 rfl ?_
  refine qn_iconst hX (pc := 28) dX3_keep_28 ?_
  refine qn_iload hX (pc := 29) dX3_keep_29 5 rfl ?_
  obtain ⟨m5, e_m5, h⟩ := kp_e h
  refine qn_iast hX (pc := 31) 5 dX3_keep_31 k_o1 (by decide) (by decide) hR_m4 r_x4 e_m5 (fun hR_m5 => ?_) 
  refine qn_aload hX (pc := 32) dX3_keep_32 0 rfl ?_
  refine qn_iconst hX (pc := 34) dX3_keep_34 ?_
  refine qn_iload hX (pc := 35) dX3_keep_35 6 rfl ?_
  obtain ⟨m6, e_m6, h⟩ := kp_e h
  refine qn_iast hX (pc := 37) 5 dX3_keep_37 k_o1 (by decide) (by decide) hR_m5 r_x5 e_m6 (fun hR_m6 => ?_) 
  refine qn_aload_n hX (pc := 38) dX3_keep_38 1 rfl rfl ?_
  refine qn_aload_n hX (pc := 39) dX3_keep_39 1 rfl rfl ?_
  refine qn_getI hX (pc := 40) fd_X3_keep_28 dX3_keep_40 k_x0 ?_
  refine qn_iconst hX (pc := 43) dX3_keep_43 ?_
  obtain ⟨v7, e_v7, r_v7, h⟩ := ckI_e h
  refine qn_iadd hX (pc := 44) dX3_keep_44 e_v7 ?_
  refine qn_bipush hX (pc := 45) dX3_keep_45 (by decide) ?_
  obtain ⟨n_v8, h⟩ := ckD_e h
  obtain ⟨v8, e_v8, r_v8, h⟩ := ckI_e h
  refine qn_irem hX (pc := 47) r_v7 (by decide) n_v8 dX3_keep_47 e_v8 ?_
  obtain ⟨m9, e_m9, h⟩ := kp_e h
  refine qn_putI hX (pc := 48) fp_X3_keep_28 dX3_keep_48 k_x0 hR_m6 r_v8 e_m9 (fun hR_m9 => ?_) 
  refine qn_aload_n hX (pc := 51) dX3_keep_51 1 rfl rfl ?_
  refine qn_aload_n hX (pc := 52) dX3_keep_52 1 rfl rfl ?_
  refine qn_getI hX (pc := 53) fd_X3_keep_24 dX3_keep_53 k_x0 ?_
  refine qn_iconst hX (pc := 56) dX3_keep_56 ?_
  obtain ⟨v10, e_v10, r_v10, h⟩ := ckI_e h
  refine qn_iadd hX (pc := 57) dX3_keep_57 e_v10 ?_
  refine qn_bipush hX (pc := 58) dX3_keep_58 (by decide) ?_
  obtain ⟨v11, e_v11, h⟩ := kp_e h
  have r_v11 : in32 v11 := by rw [e_v11]; exact in32_min r_v10 (by decide)
  refine qn_min hX (pc := 60) r_v10 (by decide) dX3_keep_60 (by decide +kernel) (by decide +kernel) (by decide +kernel) (by decide +kernel) ⟨rfl, rfl⟩ e_v11 ?_
  obtain ⟨m12, e_m12, h⟩ := kp_e h
  refine qn_putI hX (pc := 63) fp_X3_keep_24 dX3_keep_63 k_x0 hR_m9 r_v11 e_m12 (fun hR_m12 => ?_) 
  refine qn_aload_n hX (pc := 66) dX3_keep_66 1 rfl rfl ?_
  refine qn_iload_n hX (pc := 67) dX3_keep_67 4 rfl rfl ?_
  obtain ⟨m13, e_m13, h⟩ := kp_e h
  refine qn_putI hX (pc := 68) fp_X3_keep_31 dX3_keep_68 k_x0 hR_m12 r_x3 e_m13 (fun hR_m13 => ?_) 
  exact qn_vret hX (pc := 71) dX3_keep_71 hE hR_m13 (Option.some.inj h)
theorem k_X3_keep (l : Launch) {G : qG} (hT : qT G) {N : Nat} {x0 : Nat} {x1 : Int} {x2 : Int} {x3 : Int} {x4 : Int} {x5 : Int} (k_x0 : gK G x0 = 4) (r_x1 : in32 x1) (r_x2 : in32 x2) (r_x3 : in32 x3) (r_x4 : in32 x4) (r_x5 : in32 x5) {m0 : qM} {r : qM} (h : f_X3_keep N G x0 x1 x2 x3 x4 x5 m0 = some r) : qC l yX3_keep wsX3_keep 1 24 G [.ref x0, .int (iZ x1), .int (iZ x2), .int (iZ x3), .int (iZ x4), .int (iZ x5)] m0 none True r := by
  refine qn_start (hy := by decide) hT (hw := rfl) (hn := Nat.le_of_ble_eq_true rfl) ?_
  intro X h1 h2 h3 h4 hX hR
  subst h4
  exact w_X3_keep hX ⟨h1, fun q => h2 ▸ q, h3⟩ k_x0 r_x1 r_x2 r_x3 r_x4 r_x5 hR h
theorem dd_X3_keep : yX3_keep.cls = RX3 ∧ yX3_keep.cls ≠ "java/lang/invoke/MethodHandle" ∧ yX3_keep.cls ≠ "java/lang/invoke/VarHandle" ∧ (parseMethodDescriptor yX3_keep.desc).map (fun d => d.parameters.length) = some 5 := by decide +kernel
-- ProRataMarket$Ledger.enter
theorem hi_X3_enter_3 : ∀ w ∈ wsX30, w ∈ wsX3_enter := fun w h => List.mem_cons_of_mem _ (List.mem_append_right _ h)
theorem fd_X3_enter_16 : qFd RX3 wsX3_enter 16 3 5 1 305 := ⟨RX3, TX3, 7, _, rfl, hi_X3_enter_3, by decide, (by decide +kernel : Cond.fieldLink RX3 16 (TX3 5).1 (TX3 5).2.1 (TX3 5).2.2.1 ∈ wsX3_enter), rfl, rfl, by decide⟩
theorem fd_X3_enter_20 : qFd RX3 wsX3_enter 20 3 6 1 306 := ⟨RX3, TX3, 7, _, rfl, hi_X3_enter_3, by decide, (by decide +kernel : Cond.fieldLink RX3 20 (TX3 6).1 (TX3 6).2.1 (TX3 6).2.2.1 ∈ wsX3_enter), rfl, rfl, by decide⟩
set_option maxHeartbeats 4000000 in
set_option maxRecDepth 20000 in
theorem w_X3_enter_12 {X : qB} {N : Nat} (hX : qOk X cX3_enter RX3 6 none wsX3_enter 0 0) {r : qM} (hE : xr X = none ∧ (True → xΦ X) ∧ xμ X = r) 
    {x0 : Nat} {x1 : Int} {x3 : Int} {s0 : Int} (k_x0 : gK (xG X) x0 = 4) (r_x1 : in32 x1) (r_x3 : in32 x3) (r_s0 : in32 s0) {m0 : qM} (hR_m0 : qR (xG X) m0)
    (h : f_X3_enter_12 N (xG X)  x0 x1 x3 s0 m0 = some r) : qN X 6 12 [(0, .ref x0), (1, .int (iZ x1)), (3, .int (iZ x3))] [.int (iZ s0)] m0 := by
  have hT := hX.T
  unfold f_X3_enter_12 at h
  refine qn_istore hX (pc := 12) (ls' := [(5, .int (iZ s0)), (0, .ref x0), (1, .int (iZ x1)), (3, .int (iZ x3))]) dX3_enter_12 rfl rfl ?_
  refine qn_aload_n hX (pc := 14) dX3_enter_14 1 rfl rfl ?_
  refine qn_getR hX (pc := 15) fd_X3_enter_16 dX3_enter_15 k_x0 ?_
  refine qn_iload_n hX (pc := 18) dX3_enter_18 2 rfl rfl ?_
  refine qn_dup2 hX (pc := 19) dX3_enter_19 rfl rfl ?_
  obtain ⟨v1, e_v1, b_v1, h⟩ := rdA_e h
  have r_v1 : in32 v1 := by rw [e_v1]; exact hR_m0.a (n := 10) _ (qr_305 hT k_x0) (by decide)
  refine qn_iald hX (pc := 20) 10 dX3_enter_20 (qr_305 hT k_x0) (by decide) b_v1 e_v1 ?_
  refine qn_iload hX (pc := 21) dX3_enter_21 0 rfl ?_
  obtain ⟨v2, e_v2, h⟩ := kp_e h
  have r_v2 : in32 v2 := by rw [e_v2]; exact w32_in _
  refine qn_iaddw hX (pc := 23) dX3_enter_23 e_v2 ?_
  obtain ⟨m3, e_m3, b_m3, h⟩ := wrA_e h
  refine qn_iast hX (pc := 24) 10 dX3_enter_24 (qr_305 hT k_x0) (by decide) b_m3 hR_m0 r_v2 e_m3 (fun hR_m3 => ?_) 
  refine qn_aload_n hX (pc := 25) dX3_enter_25 1 rfl rfl ?_
  refine qn_getR hX (pc := 26) fd_X3_enter_20 dX3_enter_26 k_x0 ?_
  refine qn_iload_n hX (pc := 29) dX3_enter_29 2 rfl rfl ?_
  refine qn_dup2 hX (pc := 30) dX3_enter_30 rfl rfl ?_
  obtain ⟨v4, e_v4, b_v4, h⟩ := rdA_e h
  have r_v4 : in64 v4 := by rw [e_v4]; exact hR_m3.j (n := 10) _ (qr_306 hT k_x0) (by decide)
  refine qn_lald hX (pc := 31) 10 dX3_enter_31 (qr_306 hT k_x0) (by decide) b_v4 e_v4 ?_
  refine qn_iload_n hX (pc := 32) dX3_enter_32 3 rfl rfl ?_
  refine qn_i2l hX (pc := 33) r_x3 dX3_enter_33 ?_
  refine qn_iload hX (pc := 34) dX3_enter_34 0 rfl ?_
  refine qn_i2l hX (pc := 36) r_s0 dX3_enter_36 ?_
  obtain ⟨v5, e_v5, r_v5, h⟩ := ckJ_e h
  refine qn_lmul hX (pc := 37) dX3_enter_37 e_v5 ?_
  obtain ⟨v6, e_v6, h⟩ := kp_e h
  have r_v6 : in64 v6 := by rw [e_v6]; exact w64_in _
  refine qn_lsubw hX (pc := 38) dX3_enter_38 e_v6 ?_
  obtain ⟨m7, e_m7, b_m7, h⟩ := wrA_e h
  refine qn_last hX (pc := 39) 10 dX3_enter_39 (qr_306 hT k_x0) (by decide) b_m7 hR_m3 r_v6 e_m7 (fun hR_m7 => ?_) 
  exact qn_vret hX (pc := 40) dX3_enter_40 hE hR_m7 (Option.some.inj h)
set_option maxHeartbeats 4000000 in
set_option maxRecDepth 20000 in
theorem w_X3_enter {X : qB} {N : Nat} (hX : qOk X cX3_enter RX3 6 none wsX3_enter 0 0) {r : qM} (hE : xr X = none ∧ (True → xΦ X) ∧ xμ X = r) 
    {x0 : Nat} {x1 : Int} {x2 : Int} {x3 : Int} {x4 : Int} (k_x0 : gK (xG X) x0 = 4) (r_x1 : in32 x1) (r_x2 : in32 x2) (r_x3 : in32 x3) (r_x4 : in32 x4) {m0 : qM} (hR_m0 : qR (xG X) m0)
    (h : f_X3_enter N (xG X)  x0 x1 x2 x3 x4 m0 = some r) : qN X 6 0 [(0, .ref x0), (1, .int (iZ x1)), (2, .int (iZ x2)), (3, .int (iZ x3)), (4, .int (iZ x4))] [] m0 := by
  have hT := hX.T
  unfold f_X3_enter at h
  refine qn_iload_n hX (pc := 0) dX3_enter_0 2 rfl rfl ?_
  refine qn_if_ne hX (pc := 1) r_x2 9 dX3_enter_1 (by decide) (fun c1 => ?_) (fun c1 => ?_)
  · have h := ite_f h c1
    refine qn_iload hX (pc := 9) dX3_enter_9 4 rfl ?_
    obtain ⟨v2, e_v2, r_v2, h⟩ := ckI_e h
    refine qn_ineg hX (pc := 11) dX3_enter_11 e_v2 ?_
    refine qn_sub (ls' := [(0, .ref x0), (1, .int (iZ x1)), (3, .int (iZ x3))]) [0, 1, 3] rfl ?_
    exact w_X3_enter_12 hX hE  k_x0 r_x1 r_x3 r_v2 hR_m0 h
  · have h := ite_t h c1
    refine qn_iload hX (pc := 4) dX3_enter_4 4 rfl ?_
    refine qn_goto hX (pc := 6) 12 dX3_enter_6 (by decide) ?_
    refine qn_sub (ls' := [(0, .ref x0), (1, .int (iZ x1)), (3, .int (iZ x3))]) [0, 1, 3] rfl ?_
    exact w_X3_enter_12 hX hE  k_x0 r_x1 r_x3 r_x4 hR_m0 h
theorem k_X3_enter (l : Launch) {G : qG} (hT : qT G) {N : Nat} {x0 : Nat} {x1 : Int} {x2 : Int} {x3 : Int} {x4 : Int} (k_x0 : gK G x0 = 4) (r_x1 : in32 x1) (r_x2 : in32 x2) (r_x3 : in32 x3) (r_x4 : in32 x4) {m0 : qM} {r : qM} (h : f_X3_enter N G x0 x1 x2 x3 x4 m0 = some r) : qC l yX3_enter wsX3_enter 0 0 G [.ref x0, .int (iZ x1), .int (iZ x2), .int (iZ x3), .int (iZ x4)] m0 none True r := by
  refine qn_start (hy := by decide) hT (hw := rfl) (hn := Nat.le_of_ble_eq_true rfl) ?_
  intro X h1 h2 h3 h4 hX hR
  subst h4
  exact w_X3_enter hX ⟨h1, fun q => h2 ▸ q, h3⟩ k_x0 r_x1 r_x2 r_x3 r_x4 hR h
theorem dd_X3_enter : yX3_enter.cls = RX3 ∧ yX3_enter.cls ≠ "java/lang/invoke/MethodHandle" ∧ yX3_enter.cls ≠ "java/lang/invoke/VarHandle" ∧ (parseMethodDescriptor yX3_enter.desc).map (fun d => d.parameters.length) = some 4 := by decide +kernel
-- ProRataMarket$Floor.tradeRows
theorem hi_X2_tradeRows_2 : ∀ w ∈ wsX20, w ∈ wsX2_tradeRows := fun w h => List.mem_cons_of_mem _ (List.mem_append_left _ (List.mem_append_left _ (List.mem_append_left _ (List.mem_append_left _ (List.mem_append_right _ h)))))
theorem fd_X2_tradeRows_21 : qFd RX2 wsX2_tradeRows 21 2 1 1 201 := ⟨RX2, TX2, 12, _, rfl, hi_X2_tradeRows_2, by decide, (by decide +kernel : Cond.fieldLink RX2 21 (TX2 1).1 (TX2 1).2.1 (TX2 1).2.2.1 ∈ wsX2_tradeRows), rfl, rfl, by decide⟩
theorem hi_X2_tradeRows_4 : ∀ w ∈ wsX40, w ∈ wsX2_tradeRows := fun w h => List.mem_cons_of_mem _ (List.mem_append_left _ (List.mem_append_left _ (List.mem_append_right _ h)))
theorem fd_X2_tradeRows_166 : qFd RX2 wsX2_tradeRows 166 4 0 0 400 := ⟨RX4, TX4, 6, _, rfl, hi_X2_tradeRows_4, by decide, (by decide +kernel : Cond.fieldLink RX2 166 (TX4 0).1 (TX4 0).2.1 (TX4 0).2.2.1 ∈ wsX2_tradeRows), rfl, rfl, by decide⟩
theorem fd_X2_tradeRows_137 : qFd RX2 wsX2_tradeRows 137 4 1 0 401 := ⟨RX4, TX4, 6, _, rfl, hi_X2_tradeRows_4, by decide, (by decide +kernel : Cond.fieldLink RX2 137 (TX4 1).1 (TX4 1).2.1 (TX4 1).2.2.1 ∈ wsX2_tradeRows), rfl, rfl, by decide⟩
theorem fd_X2_tradeRows_94 : qFd RX2 wsX2_tradeRows 94 4 2 0 402 := ⟨RX4, TX4, 6, _, rfl, hi_X2_tradeRows_4, by decide, (by decide +kernel : Cond.fieldLink RX2 94 (TX4 2).1 (TX4 2).2.1 (TX4 2).2.2.1 ∈ wsX2_tradeRows), rfl, rfl, by decide⟩
theorem fd_X2_tradeRows_28 : qFd RX2 wsX2_tradeRows 28 2 2 1 202 := ⟨RX2, TX2, 12, _, rfl, hi_X2_tradeRows_2, by decide, (by decide +kernel : Cond.fieldLink RX2 28 (TX2 2).1 (TX2 2).2.1 (TX2 2).2.2.1 ∈ wsX2_tradeRows), rfl, rfl, by decide⟩
theorem hi_X2_tradeRows_5 : ∀ w ∈ wsX50, w ∈ wsX2_tradeRows := fun w h => List.mem_cons_of_mem _ (List.mem_append_left _ (List.mem_append_left _ (List.mem_append_left _ (List.mem_append_right _ h))))
theorem fd_X2_tradeRows_186 : qFd RX2 wsX2_tradeRows 186 5 6 0 506 := ⟨RX5, TX5, 8, _, rfl, hi_X2_tradeRows_5, by decide, (by decide +kernel : Cond.fieldLink RX2 186 (TX5 6).1 (TX5 6).2.1 (TX5 6).2.2.1 ∈ wsX2_tradeRows), rfl, rfl, by decide⟩
theorem fd_X2_tradeRows_188 : qFd RX2 wsX2_tradeRows 188 5 0 1 500 := ⟨RX5, TX5, 8, _, rfl, hi_X2_tradeRows_5, by decide, (by decide +kernel : Cond.fieldLink RX2 188 (TX5 0).1 (TX5 0).2.1 (TX5 0).2.2.1 ∈ wsX2_tradeRows), rfl, rfl, by decide⟩
theorem fd_X2_tradeRows_88 : qFd RX2 wsX2_tradeRows 88 4 4 0 404 := ⟨RX4, TX4, 6, _, rfl, hi_X2_tradeRows_4, by decide, (by decide +kernel : Cond.fieldLink RX2 88 (TX4 4).1 (TX4 4).2.1 (TX4 4).2.2.1 ∈ wsX2_tradeRows), rfl, rfl, by decide⟩
theorem fp_X2_tradeRows_88 : qFp RX2 wsX2_tradeRows 88 4 4 0 404 .int := ⟨RX4, TX4, 6, _, tyX4, rfl, hi_X2_tradeRows_4, by decide, (by decide +kernel : Cond.fieldLink RX2 88 (TX4 4).1 (TX4 4).2.1 (TX4 4).2.2.1 ∈ wsX2_tradeRows), rfl, rfl, by decide, tyX4_ok, nmX4, rfl, by decide +kernel⟩
theorem fd_X2_tradeRows_12 : qFd RX2 wsX2_tradeRows 12 2 0 1 200 := ⟨RX2, TX2, 12, _, rfl, hi_X2_tradeRows_2, by decide, (by decide +kernel : Cond.fieldLink RX2 12 (TX2 0).1 (TX2 0).2.1 (TX2 0).2.2.1 ∈ wsX2_tradeRows), rfl, rfl, by decide⟩
set_option maxHeartbeats 4000000 in
set_option maxRecDepth 20000 in
theorem w_X2_tradeRows_115 {X : qB} {N : Nat} (hX : qOk X cX2_tradeRows RX2 7 none wsX2_tradeRows 2 50) {r : qM} (hE : xr X = none ∧ (True → xΦ X) ∧ xμ X = r) {k3 : (Nat → Nat → Int → Int → Int → Int → qM → Option (qM))} (hk3 : ∀ (x0 : Nat) (x1 : Nat) (x2 : Int) (x3 : Int) (x4 : Int) (x5 : Int) (m0 : qM), gK (xG X) x0 = 3 → gK (xG X) x1 = 1068 → in32 x2 → in32 x3 → in32 x4 → in32 x5 → qR (xG X) m0 → k3 x0 x1 x2 x3 x4 x5 m0 = some r → qN X 7 3 [(0, .ref x0), (1, .ref x1), (2, .int (iZ x2)), (3, .int (iZ x3)), (4, .int (iZ x4)), (5, .int (iZ x5))] [] m0)
    {x0 : Nat} {x1 : Nat} {x2 : Int} {x3 : Int} {x4 : Int} {x5 : Int} (k_x0 : gK (xG X) x0 = 3) (k_x1 : gK (xG X) x1 = 1068) (r_x2 : in32 x2) (r_x3 : in32 x3) (r_x4 : in32 x4) (r_x5 : in32 x5) {m0 : qM} (hR_m0 : qR (xG X) m0)
    (h : f_X2_tradeRows_115 N (xG X) k3 x0 x1 x2 x3 x4 x5 m0 = some r) : qN X 7 115 [(0, .ref x0), (1, .ref x1), (2, .int (iZ x2)), (3, .int (iZ x3)), (4, .int (iZ x4)), (5, .int (iZ x5))] [] m0 := by
  have hT := hX.T
  unfold f_X2_tradeRows_115 at h
  obtain ⟨v1, e_v1, r_v1, h⟩ := ckI_e h
  refine qn_iinc hX (pc := 115) (ls' := [(5, .int (iZ v1)), (0, .ref x0), (1, .ref x1), (2, .int (iZ x2)), (3, .int (iZ x3)), (4, .int (iZ x4))]) dX2_tradeRows_115 5 rfl e_v1 rfl rfl ?_
  refine qn_goto hX (pc := 118) 3 dX2_tradeRows_118 (by decide) ?_
  refine qn_sub (ls' := [(0, .ref x0), (1, .ref x1), (2, .int (iZ x2)), (3, .int (iZ x3)), (4, .int (iZ x4)), (5, .int (iZ v1))]) [1, 2, 3, 4, 5, 0] rfl ?_
  exact hk3 x0 x1 x2 x3 x4 v1 m0 k_x0 k_x1 r_x2 r_x3 r_x4 r_v1 hR_m0 h
set_option maxHeartbeats 4000000 in
set_option maxRecDepth 20000 in
theorem w_X2_tradeRows_73 {X : qB} {N : Nat} (hX : qOk X cX2_tradeRows RX2 7 none wsX2_tradeRows 2 50) {r : qM} (hE : xr X = none ∧ (True → xΦ X) ∧ xμ X = r) {k3 : (Nat → Nat → Int → Int → Int → Int → qM → Option (qM))} (hk3 : ∀ (x0 : Nat) (x1 : Nat) (x2 : Int) (x3 : Int) (x4 : Int) (x5 : Int) (m0 : qM), gK (xG X) x0 = 3 → gK (xG X) x1 = 1068 → in32 x2 → in32 x3 → in32 x4 → in32 x5 → qR (xG X) m0 → k3 x0 x1 x2 x3 x4 x5 m0 = some r → qN X 7 3 [(0, .ref x0), (1, .ref x1), (2, .int (iZ x2)), (3, .int (iZ x3)), (4, .int (iZ x4)), (5, .int (iZ x5))] [] m0)
    {x0 : Nat} {x1 : Nat} {x2 : Int} {x3 : Int} {x4 : Int} {x5 : Int} {x6 : Nat} (k_x0 : gK (xG X) x0 = 3) (k_x1 : gK (xG X) x1 = 1068) (r_x2 : in32 x2) (r_x3 : in32 x3) (r_x4 : in32 x4) (r_x5 : in32 x5) (k_x6 : gK (xG X) x6 = 5) {m0 : qM} (hR_m0 : qR (xG X) m0)
    (h : f_X2_tradeRows_73 N (xG X) k3 x0 x1 x2 x3 x4 x5 x6 m0 = some r) : qN X 7 73 [(0, .ref x0), (1, .ref x1), (2, .int (iZ x2)), (3, .int (iZ x3)), (4, .int (iZ x4)), (5, .int (iZ x5)), (6, .ref x6)] [] m0 := by
  have hT := hX.T
  unfold f_X2_tradeRows_73 at h
  refine qn_aload_n hX (pc := 73) dX2_tradeRows_73 0 rfl rfl ?_
  refine qn_getR hX (pc := 74) fd_X2_tradeRows_21 dX2_tradeRows_74 k_x0 ?_
  refine qn_aload hX (pc := 77) dX2_tradeRows_77 6 rfl ?_
  refine qn_getI hX (pc := 79) fd_X2_tradeRows_166 dX2_tradeRows_79 k_x6 ?_
  refine qn_iload_n hX (pc := 82) dX2_tradeRows_82 2 rfl rfl ?_
  refine qn_iload_n hX (pc := 83) dX2_tradeRows_83 3 rfl rfl ?_
  refine qn_aload_n hX (pc := 84) dX2_tradeRows_84 1 rfl rfl ?_
  refine qn_iload hX (pc := 85) dX2_tradeRows_85 5 rfl ?_
  obtain ⟨v1, e_v1, b_v1, h⟩ := rdA_e h
  have r_v1 : in32 v1 := by rw [e_v1]; exact hR_m0.a (n := 68) _ k_x1 (by decide)
  refine qn_iald hX (pc := 87) 68 dX2_tradeRows_87 k_x1 (by decide) b_v1 e_v1 ?_
  refine qn_iload hX (pc := 88) dX2_tradeRows_88 4 rfl ?_
  obtain ⟨m2, e_m2, h⟩ := kb_e h
  refine qn_callVv hX (pc := 90) [.int (iZ (gI m0 400 x6)), .int (iZ x2), .int (iZ x3), .int (iZ v1), .int (iZ x4)] [.int (iZ x4), .int (iZ v1), .int (iZ x3), .int (iZ x2), .int (iZ (gI m0 400 x6))] 5 dX2_tradeRows_90 gX2_tradeRows_X3_keep rfl dd_X3_keep ⟨rfl, rfl⟩ rfl rfl (by decide) (qr_201 hT k_x0) rfl rfl hR_m0 (k_X3_keep (xl X) hT (qr_201 hT k_x0) (hR_m0.i 400 _ rfl) r_x2 r_x3 r_v1 r_x4 e_m2) (fun r_v3 hR_m2 => ?_)
  refine qn_aload_n hX (pc := 93) dX2_tradeRows_93 0 rfl rfl ?_
  refine qn_getR hX (pc := 94) fd_X2_tradeRows_21 dX2_tradeRows_94 k_x0 ?_
  refine qn_aload hX (pc := 97) dX2_tradeRows_97 6 rfl ?_
  refine qn_getI hX (pc := 99) fd_X2_tradeRows_137 dX2_tradeRows_99 k_x6 ?_
  refine qn_aload hX (pc := 102) dX2_tradeRows_102 6 rfl ?_
  refine qn_getI hX (pc := 104) fd_X2_tradeRows_94 dX2_tradeRows_104 k_x6 ?_
  refine qn_iload_n hX (pc := 107) dX2_tradeRows_107 3 rfl rfl ?_
  refine qn_aload_n hX (pc := 108) dX2_tradeRows_108 1 rfl rfl ?_
  refine qn_iload hX (pc := 109) dX2_tradeRows_109 5 rfl ?_
  obtain ⟨v4, e_v4, b_v4, h⟩ := rdA_e h
  have r_v4 : in32 v4 := by rw [e_v4]; exact hR_m2.a (n := 68) _ k_x1 (by decide)
  refine qn_iald hX (pc := 111) 68 dX2_tradeRows_111 k_x1 (by decide) b_v4 e_v4 ?_
  obtain ⟨m5, e_m5, h⟩ := kb_e h
  refine qn_callVv hX (pc := 112) [.int (iZ (gI m2 401 x6)), .int (iZ (gI m2 402 x6)), .int (iZ x3), .int (iZ v4)] [.int (iZ v4), .int (iZ x3), .int (iZ (gI m2 402 x6)), .int (iZ (gI m2 401 x6))] 4 dX2_tradeRows_112 gX2_tradeRows_X3_enter rfl dd_X3_enter ⟨rfl, rfl⟩ rfl rfl (by decide) (qr_201 hT k_x0) rfl rfl hR_m2 (k_X3_enter (xl X) hT (qr_201 hT k_x0) (hR_m2.i 401 _ rfl) (hR_m2.i 402 _ rfl) r_x3 r_v4 e_m5) (fun r_v6 hR_m5 => ?_)
  refine qn_sub (ls' := [(0, .ref x0), (1, .ref x1), (2, .int (iZ x2)), (3, .int (iZ x3)), (4, .int (iZ x4)), (5, .int (iZ x5))]) [0, 1, 2, 3, 4, 5] rfl ?_
  exact w_X2_tradeRows_115 hX hE hk3 k_x0 k_x1 r_x2 r_x3 r_x4 r_x5 hR_m5 h
set_option maxHeartbeats 4000000 in
set_option maxRecDepth 20000 in
theorem w_X2_tradeRows_3 {X : qB} {N : Nat} (hX : qOk X cX2_tradeRows RX2 7 none wsX2_tradeRows 2 50) {r : qM} (hE : xr X = none ∧ (True → xΦ X) ∧ xμ X = r) {k3 : (Nat → Nat → Int → Int → Int → Int → qM → Option (qM))} (hk3 : ∀ (x0 : Nat) (x1 : Nat) (x2 : Int) (x3 : Int) (x4 : Int) (x5 : Int) (m0 : qM), gK (xG X) x0 = 3 → gK (xG X) x1 = 1068 → in32 x2 → in32 x3 → in32 x4 → in32 x5 → qR (xG X) m0 → k3 x0 x1 x2 x3 x4 x5 m0 = some r → qN X 7 3 [(0, .ref x0), (1, .ref x1), (2, .int (iZ x2)), (3, .int (iZ x3)), (4, .int (iZ x4)), (5, .int (iZ x5))] [] m0)
    {x0 : Nat} {x1 : Nat} {x2 : Int} {x3 : Int} {x4 : Int} {x5 : Int} (k_x0 : gK (xG X) x0 = 3) (k_x1 : gK (xG X) x1 = 1068) (r_x2 : in32 x2) (r_x3 : in32 x3) (r_x4 : in32 x4) (r_x5 : in32 x5) {m0 : qM} (hR_m0 : qR (xG X) m0)
    (h : f_X2_tradeRows_3 N (xG X) k3 x0 x1 x2 x3 x4 x5 m0 = some r) : qN X 7 3 [(0, .ref x0), (1, .ref x1), (2, .int (iZ x2)), (3, .int (iZ x3)), (4, .int (iZ x4)), (5, .int (iZ x5))] [] m0 := by
  have hT := hX.T
  unfold f_X2_tradeRows_3 at h
  refine qn_iload hX (pc := 3) dX2_tradeRows_3 5 rfl ?_
  refine qn_aload_n hX (pc := 5) dX2_tradeRows_5 0 rfl rfl ?_
  refine qn_getR hX (pc := 6) fd_X2_tradeRows_28 dX2_tradeRows_6 k_x0 ?_
  refine qn_getI hX (pc := 9) fd_X2_tradeRows_186 dX2_tradeRows_9 (qr_202 hT k_x0) ?_
  refine qn_icmp_ge hX (pc := 12) r_x5 (hR_m0.i 506 _ rfl) 121 dX2_tradeRows_12 (by decide) (fun c1 => ?_) (fun c1 => ?_)
  · have h := ite_f h c1
    exact qn_vret hX (pc := 121) dX2_tradeRows_121 hE hR_m0 (Option.some.inj h)
  · have h := ite_t h c1
    refine qn_iload hX (pc := 15) dX2_tradeRows_15 5 rfl ?_
    refine qn_aload_n hX (pc := 17) dX2_tradeRows_17 1 rfl rfl ?_
    refine qn_alen hX (pc := 18) 68 dX2_tradeRows_18 k_x1 (by decide) ?_
    refine qn_icmp_ge hX (pc := 19) r_x5 (by decide) 121 dX2_tradeRows_19 (by decide) (fun c2 => ?_) (fun c2 => ?_)
    · have h := ite_f h c2
      exact qn_vret hX (pc := 121) dX2_tradeRows_121 hE hR_m0 (Option.some.inj h)
    · have h := ite_t h c2
      refine qn_aload_n hX (pc := 22) dX2_tradeRows_22 1 rfl rfl ?_
      refine qn_iload hX (pc := 23) dX2_tradeRows_23 5 rfl ?_
      obtain ⟨v3, e_v3, b_v3, h⟩ := rdA_e h
      have r_v3 : in32 v3 := by rw [e_v3]; exact hR_m0.a (n := 68) _ k_x1 (by decide)
      refine qn_iald hX (pc := 25) 68 dX2_tradeRows_25 k_x1 (by decide) b_v3 e_v3 ?_
      refine qn_if_le hX (pc := 26) r_v3 115 dX2_tradeRows_26 (by decide) (fun c4 => ?_) (fun c4 => ?_)
      · have h := ite_f h c4
        refine qn_sub (ls' := [(0, .ref x0), (1, .ref x1), (2, .int (iZ x2)), (3, .int (iZ x3)), (4, .int (iZ x4)), (5, .int (iZ x5))]) [0, 1, 2, 3, 4, 5] rfl ?_
        exact w_X2_tradeRows_115 hX hE hk3 k_x0 k_x1 r_x2 r_x3 r_x4 r_x5 hR_m0 h
      · have h := ite_t h c4
        refine qn_aload_n hX (pc := 29) dX2_tradeRows_29 0 rfl rfl ?_
        refine qn_getR hX (pc := 30) fd_X2_tradeRows_28 dX2_tradeRows_30 k_x0 ?_
        refine qn_getR hX (pc := 33) fd_X2_tradeRows_188 dX2_tradeRows_33 (qr_202 hT k_x0) ?_
        refine qn_iload hX (pc := 36) dX2_tradeRows_36 5 rfl ?_
        obtain ⟨o5, e_o5, b_o5, k_o5, h⟩ := rdQ_e h
        refine qn_aaldO hX (pc := 38) 68 dX2_tradeRows_38 (qr_500 hT (qr_202 hT k_x0)) (by decide) b_o5 e_o5 ?_
        refine qn_astore hX (pc := 39) (ls' := [(6, .ref o5), (0, .ref x0), (1, .ref x1), (2, .int (iZ x2)), (3, .int (iZ x3)), (4, .int (iZ x4)), (5, .int (iZ x5))]) dX2_tradeRows_39 rfl rfl ?_
        refine qn_aload hX (pc := 41) dX2_tradeRows_41 0 rfl ?_
        refine qn_dup hX (pc := 43) dX2_tradeRows_43 rfl ?_
        refine qn_getI hX (pc := 44) fd_X2_tradeRows_88 dX2_tradeRows_44 k_o5 ?_
        refine qn_aload_n hX (pc := 47) dX2_tradeRows_47 2 rfl rfl ?_
        refine qn_iload hX (pc := 48) dX2_tradeRows_48 6 rfl ?_
        obtain ⟨v6, e_v6, b_v6, h⟩ := rdA_e h
        have r_v6 : in32 v6 := by rw [e_v6]; exact hR_m0.a (n := 68) _ k_x1 (by decide)
        refine qn_iald hX (pc := 50) 68 dX2_tradeRows_50 k_x1 (by decide) b_v6 e_v6 ?_
        obtain ⟨v7, e_v7, r_v7, h⟩ := ckI_e h
        refine qn_isub hX (pc := 51) dX2_tradeRows_51 e_v7 ?_
        obtain ⟨m8, e_m8, h⟩ := kp_e h
        refine qn_putI hX (pc := 52) fp_X2_tradeRows_88 dX2_tradeRows_52 k_o5 hR_m0 r_v7 e_m8 (fun hR_m8 => ?_) 
        refine qn_iload hX (pc := 55) dX2_tradeRows_55 5 rfl ?_
        refine qn_if_ne hX (pc := 57) r_x4 73 dX2_tradeRows_57 (by decide) (fun c9 => ?_) (fun c9 => ?_)
        · have h := ite_f h c9
          refine qn_sub (ls' := [(0, .ref x0), (1, .ref x1), (2, .int (iZ x2)), (3, .int (iZ x3)), (4, .int (iZ x4)), (5, .int (iZ x5)), (6, .ref o5)]) [1, 2, 3, 4, 5, 6, 0] rfl ?_
          exact w_X2_tradeRows_73 hX hE hk3 k_x0 k_x1 r_x2 r_x3 r_x4 r_x5 k_o5 hR_m8 h
        · have h := ite_t h c9
          refine qn_aload_n hX (pc := 60) dX2_tradeRows_60 1 rfl rfl ?_
          refine qn_getR hX (pc := 61) fd_X2_tradeRows_12 dX2_tradeRows_61 k_x0 ?_
          refine qn_aload hX (pc := 64) dX2_tradeRows_64 0 rfl ?_
          refine qn_aload_n hX (pc := 66) dX2_tradeRows_66 2 rfl rfl ?_
          refine qn_iload hX (pc := 67) dX2_tradeRows_67 6 rfl ?_
          obtain ⟨v10, e_v10, b_v10, h⟩ := rdA_e h
          have r_v10 : in32 v10 := by rw [e_v10]; exact hR_m8.a (n := 68) _ k_x1 (by decide)
          refine qn_iald hX (pc := 69) 68 dX2_tradeRows_69 k_x1 (by decide) b_v10 e_v10 ?_
          obtain ⟨m11, e_m11, h⟩ := kb_e h
          refine qn_callVv hX (pc := 70) [.ref o5, .int (iZ v10)] [.int (iZ v10), .ref o5] 2 dX2_tradeRows_70 gX2_tradeRows_X0_useGrant rfl dd_X0_useGrant ⟨rfl, rfl⟩ rfl rfl (by decide) (qr_200 hT k_x0) rfl rfl hR_m8 (k_X0_useGrant (xl X) hT (qr_200 hT k_x0) k_o5 r_v10 e_m11) (fun r_v12 hR_m11 => ?_)
          refine qn_sub (ls' := [(0, .ref x0), (1, .ref x1), (2, .int (iZ x2)), (3, .int (iZ x3)), (4, .int (iZ x4)), (5, .int (iZ x5)), (6, .ref o5)]) [1, 2, 3, 4, 5, 6, 0] rfl ?_
          exact w_X2_tradeRows_73 hX hE hk3 k_x0 k_x1 r_x2 r_x3 r_x4 r_x5 k_o5 hR_m11 h
set_option maxHeartbeats 4000000 in
set_option maxRecDepth 20000 in
theorem w_X2_tradeRows_L3 {X : qB} {N : Nat} (hX : qOk X cX2_tradeRows RX2 7 none wsX2_tradeRows 2 50) {r : qM} (hE : xr X = none ∧ (True → xΦ X) ∧ xμ X = r) 
    {x0 : Nat} {x1 : Nat} {x2 : Int} {x3 : Int} {x4 : Int} {x5 : Int} (k_x0 : gK (xG X) x0 = 3) (k_x1 : gK (xG X) x1 = 1068) (r_x2 : in32 x2) (r_x3 : in32 x3) (r_x4 : in32 x4) (r_x5 : in32 x5) {m0 : qM} (hR_m0 : qR (xG X) m0)
    (h : f_X2_tradeRows_L3 N (xG X)  x0 x1 x2 x3 x4 x5 m0 = some r) : qN X 7 3 [(0, .ref x0), (1, .ref x1), (2, .int (iZ x2)), (3, .int (iZ x3)), (4, .int (iZ x4)), (5, .int (iZ x5))] [] m0 := by
  unfold f_X2_tradeRows_L3 at h
  exact qLoop_w (σ := Nat × Nat × Int × Int × Int × Int × qM) (P := fun p => gK (xG X) p.1 = 3 ∧ gK (xG X) p.2.1 = 1068 ∧ in32 p.2.2.1 ∧ in32 p.2.2.2.1 ∧ in32 p.2.2.2.2.1 ∧ in32 p.2.2.2.2.2.1 ∧ qR (xG X) p.2.2.2.2.2.2) (Q := fun p => qN X 7 3 [(0, .ref p.1), (1, .ref p.2.1), (2, .int (iZ p.2.2.1)), (3, .int (iZ p.2.2.2.1)), (4, .int (iZ p.2.2.2.2.1)), (5, .int (iZ p.2.2.2.2.2.1))] [] p.2.2.2.2.2.2) (fun k hrec p hp hh => w_X2_tradeRows_3 hX hE (fun x0 x1 x2 x3 x4 x5 m0 q0 q1 q2 q3 q4 q5 hRm hh => hrec (x0, x1, x2, x3, x4, x5, m0) ⟨q0, q1, q2, q3, q4, q5, hRm⟩ hh) hp.1 hp.2.1 hp.2.2.1 hp.2.2.2.1 hp.2.2.2.2.1 hp.2.2.2.2.2.1 hp.2.2.2.2.2.2 hh) N (x0, x1, x2, x3, x4, x5, m0) ⟨k_x0, k_x1, r_x2, r_x3, r_x4, r_x5, hR_m0⟩ h
set_option maxHeartbeats 4000000 in
set_option maxRecDepth 20000 in
theorem w_X2_tradeRows {X : qB} {N : Nat} (hX : qOk X cX2_tradeRows RX2 7 none wsX2_tradeRows 2 50) {r : qM} (hE : xr X = none ∧ (True → xΦ X) ∧ xμ X = r) 
    {x0 : Nat} {x1 : Nat} {x2 : Int} {x3 : Int} {x4 : Int} (k_x0 : gK (xG X) x0 = 3) (k_x1 : gK (xG X) x1 = 1068) (r_x2 : in32 x2) (r_x3 : in32 x3) (r_x4 : in32 x4) {m0 : qM} (hR_m0 : qR (xG X) m0)
    (h : f_X2_tradeRows N (xG X)  x0 x1 x2 x3 x4 m0 = some r) : qN X 7 0 [(0, .ref x0), (1, .ref x1), (2, .int (iZ x2)), (3, .int (iZ x3)), (4, .int (iZ x4))] [] m0 := by
  have hT := hX.T
  unfold f_X2_tradeRows at h
  refine qn_iconst hX (pc := 0) dX2_tradeRows_0 ?_
  refine qn_istore hX (pc := 1) (ls' := [(5, .int (iZ 0)), (0, .ref x0), (1, .ref x1), (2, .int (iZ x2)), (3, .int (iZ x3)), (4, .int (iZ x4))]) dX2_tradeRows_1 rfl rfl ?_
  refine qn_sub (ls' := [(0, .ref x0), (1, .ref x1), (2, .int (iZ x2)), (3, .int (iZ x3)), (4, .int (iZ x4)), (5, .int (iZ 0))]) [1, 2, 3, 4, 5, 0] rfl ?_
  exact w_X2_tradeRows_L3 hX hE  k_x0 k_x1 r_x2 r_x3 r_x4 (by decide) hR_m0 h
theorem k_X2_tradeRows (l : Launch) {G : qG} (hT : qT G) {N : Nat} {x0 : Nat} {x1 : Nat} {x2 : Int} {x3 : Int} {x4 : Int} (k_x0 : gK G x0 = 3) (k_x1 : gK G x1 = 1068) (r_x2 : in32 x2) (r_x3 : in32 x3) (r_x4 : in32 x4) {m0 : qM} {r : qM} (h : f_X2_tradeRows N G x0 x1 x2 x3 x4 m0 = some r) : qC l yX2_tradeRows wsX2_tradeRows 2 50 G [.ref x0, .ref x1, .int (iZ x2), .int (iZ x3), .int (iZ x4)] m0 none True r := by
  refine qn_start (hy := by decide) hT (hw := rfl) (hn := Nat.le_of_ble_eq_true rfl) ?_
  intro X h1 h2 h3 h4 hX hR
  subst h4
  exact w_X2_tradeRows hX ⟨h1, fun q => h2 ▸ q, h3⟩ k_x0 k_x1 r_x2 r_x3 r_x4 hR h
theorem dd_X2_tradeRows : yX2_tradeRows.cls = RX2 ∧ yX2_tradeRows.cls ≠ "java/lang/invoke/MethodHandle" ∧ yX2_tradeRows.cls ≠ "java/lang/invoke/VarHandle" ∧ (parseMethodDescriptor yX2_tradeRows.desc).map (fun d => d.parameters.length) = some 4 := by decide +kernel
