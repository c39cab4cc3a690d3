-- ProRataMarketModel.goes
theorem hi_X8_goes_8 : ∀ w ∈ wsX80, w ∈ wsX8_goes := fun w h => List.mem_cons_of_mem _ (List.mem_append_right _ h)
theorem fd_X8_goes_7 : qFd RX8 wsX8_goes 7 8 0 1 800 := ⟨RX8, TX8, 32, _, rfl, hi_X8_goes_8, by decide, (by decide +kernel : Cond.fieldLink RX8 7 (TX8 0).1 (TX8 0).2.1 (TX8 0).2.2.1 ∈ wsX8_goes), rfl, rfl, by decide⟩
set_option maxHeartbeats 4000000 in
set_option maxRecDepth 20000 in
theorem w_X8_goes_48 {X : qB} {N : Nat} (hX : qOk X cX8_goes RX8 4 none wsX8_goes 1 22) {r : qM} (hE : xr X = none ∧ (True → xΦ X) ∧ xμ X = r) {k48 : (Nat → Int → qM → Option (qM))} (hk48 : ∀ (x0 : Nat) (x3 : Int) (m0 : qM), gK (xG X) x0 = 9 → in32 x3 → qR (xG X) m0 → k48 x0 x3 m0 = some r → qN X 4 48 [(0, .ref x0), (3, .int (iZ x3))] [] m0)
    {x0 : Nat} {x3 : Int} (k_x0 : gK (xG X) x0 = 9) (r_x3 : in32 x3) {m0 : qM} (hR_m0 : qR (xG X) m0)
    (h : f_X8_goes_48 N (xG X) k48 x0 x3 m0 = some r) : qN X 4 48 [(0, .ref x0), (3, .int (iZ x3))] [] m0 := by
  have hT := hX.T
  unfold f_X8_goes_48 at h
  refine qn_iload_n hX (pc := 48) dX8_goes_48 1 rfl rfl ?_
  refine qn_bipush hX (pc := 49) dX8_goes_49 (by decide) ?_
  refine qn_bipush hX (pc := 51) dX8_goes_51 (by decide) ?_
  refine qn_aload_n hX (pc := 53) dX8_goes_53 0 rfl rfl ?_
  refine qn_getR hX (pc := 54) fd_X8_goes_7 dX8_goes_54 k_x0 ?_
  refine qn_iconst hX (pc := 57) dX8_goes_57 ?_
  refine qn_iald hX (pc := 58) (v := gA m0 (gR (xG X) 800 x0) 5) 684 dX8_goes_58 (qr_800 hT k_x0) (by decide) (by decide) rfl ?_
  obtain ⟨v1, e_v1, r_v1, h⟩ := ckI_e h
  refine qn_imul hX (pc := 59) dX8_goes_59 e_v1 ?_
  obtain ⟨v2, e_v2, r_v2, h⟩ := ckI_e h
  refine qn_iadd hX (pc := 60) dX8_goes_60 e_v2 ?_
  refine qn_icmp_ge hX (pc := 61) r_x3 r_v2 85 dX8_goes_61 (by decide) (fun c3 => ?_) (fun c3 => ?_)
  · have h := ite_f h c3
    exact qn_vret hX (pc := 85) dX8_goes_85 hE hR_m0 (Option.some.inj h)
  · have h := ite_t h c3
    refine qn_aload_n hX (pc := 64) dX8_goes_64 0 rfl rfl ?_
    refine qn_getR hX (pc := 65) fd_X8_goes_7 dX8_goes_65 k_x0 ?_
    refine qn_iload_n hX (pc := 68) dX8_goes_68 1 rfl rfl ?_
    refine qn_aload_n hX (pc := 69) dX8_goes_69 0 rfl rfl ?_
    refine qn_getR hX (pc := 70) fd_X8_goes_7 dX8_goes_70 k_x0 ?_
    refine qn_iload_n hX (pc := 73) dX8_goes_73 1 rfl rfl ?_
    refine qn_bipush hX (pc := 74) dX8_goes_74 (by decide) ?_
    obtain ⟨v4, e_v4, r_v4, h⟩ := ckI_e h
    refine qn_iadd hX (pc := 76) dX8_goes_76 e_v4 ?_
    obtain ⟨v5, e_v5, b_v5, h⟩ := rdA_e h
    have r_v5 : in32 v5 := by rw [e_v5]; exact hR_m0.a (n := 684) _ (qr_800 hT k_x0) (by decide)
    refine qn_iald hX (pc := 77) 684 dX8_goes_77 (qr_800 hT k_x0) (by decide) b_v5 e_v5 ?_
    obtain ⟨m6, e_m6, b_m6, h⟩ := wrA_e h
    refine qn_iast hX (pc := 78) 684 dX8_goes_78 (qr_800 hT k_x0) (by decide) b_m6 hR_m0 r_v5 e_m6 (fun hR_m6 => ?_) 
    obtain ⟨v7, e_v7, r_v7, h⟩ := ckI_e h
    refine qn_iinc hX (pc := 79) (ls' := [(3, .int (iZ v7)), (0, .ref x0)]) dX8_goes_79 1 rfl e_v7 rfl rfl ?_
    refine qn_goto hX (pc := 82) 48 dX8_goes_82 (by decide) ?_
    refine qn_sub (ls' := [(0, .ref x0), (3, .int (iZ v7))]) [1, 0] rfl ?_
    exact hk48 x0 v7 m6 k_x0 r_v7 hR_m6 h
set_option maxHeartbeats 4000000 in
set_option maxRecDepth 20000 in
theorem w_X8_goes_L48 {X : qB} {N : Nat} (hX : qOk X cX8_goes RX8 4 none wsX8_goes 1 22) {r : qM} (hE : xr X = none ∧ (True → xΦ X) ∧ xμ X = r) 
    {x0 : Nat} {x3 : Int} (k_x0 : gK (xG X) x0 = 9) (r_x3 : in32 x3) {m0 : qM} (hR_m0 : qR (xG X) m0)
    (h : f_X8_goes_L48 N (xG X)  x0 x3 m0 = some r) : qN X 4 48 [(0, .ref x0), (3, .int (iZ x3))] [] m0 := by
  unfold f_X8_goes_L48 at h
  exact qLoop_w (σ := Nat × Int × qM) (P := fun p => gK (xG X) p.1 = 9 ∧ in32 p.2.1 ∧ qR (xG X) p.2.2) (Q := fun p => qN X 4 48 [(0, .ref p.1), (3, .int (iZ p.2.1))] [] p.2.2) (fun k hrec p hp hh => w_X8_goes_48 hX hE (fun x0 x3 m0 q0 q1 hRm hh => hrec (x0, x3, m0) ⟨q0, q1, hRm⟩ hh) hp.1 hp.2.1 hp.2.2 hh) N (x0, x3, m0) ⟨k_x0, r_x3, hR_m0⟩ h
set_option maxHeartbeats 4000000 in
set_option maxRecDepth 20000 in
theorem w_X8_goes_30 {X : qB} {N : Nat} (hX : qOk X cX8_goes RX8 4 none wsX8_goes 1 22) {r : qM} (hE : xr X = none ∧ (True → xΦ X) ∧ xμ X = r) 
    {x0 : Nat} {x1 : Int} (k_x0 : gK (xG X) x0 = 9) (r_x1 : in32 x1) {m0 : qM} (hR_m0 : qR (xG X) m0)
    (h : f_X8_goes_30 N (xG X)  x0 x1 m0 = some r) : qN X 4 30 [(0, .ref x0), (1, .int (iZ x1))] [] m0 := by
  have hT := hX.T
  unfold f_X8_goes_30 at h
  refine qn_aload_n hX (pc := 30) dX8_goes_30 0 rfl rfl ?_
  refine qn_getR hX (pc := 31) fd_X8_goes_7 dX8_goes_31 k_x0 ?_
  refine qn_iconst hX (pc := 34) dX8_goes_34 ?_
  refine qn_dup2 hX (pc := 35) dX8_goes_35 rfl rfl ?_
  refine qn_iald hX (pc := 36) (v := gA m0 (gR (xG X) 800 x0) 5) 684 dX8_goes_36 (qr_800 hT k_x0) (by decide) (by decide) rfl ?_
  refine qn_iconst hX (pc := 37) dX8_goes_37 ?_
  obtain ⟨v1, e_v1, r_v1, h⟩ := ckI_e h
  refine qn_isub hX (pc := 38) dX8_goes_38 e_v1 ?_
  obtain ⟨m2, e_m2, h⟩ := kp_e h
  refine qn_iast hX (pc := 39) 684 dX8_goes_39 (qr_800 hT k_x0) (by decide) (by decide) hR_m0 r_v1 e_m2 (fun hR_m2 => ?_) 
  refine qn_bipush hX (pc := 40) dX8_goes_40 (by decide) ?_
  refine qn_bipush hX (pc := 42) dX8_goes_42 (by decide) ?_
  refine qn_iload_n hX (pc := 44) dX8_goes_44 1 rfl rfl ?_
  obtain ⟨v3, e_v3, r_v3, h⟩ := ckI_e h
  refine qn_imul hX (pc := 45) dX8_goes_45 e_v3 ?_
  obtain ⟨v4, e_v4, r_v4, h⟩ := ckI_e h
  refine qn_iadd hX (pc := 46) dX8_goes_46 e_v4 ?_
  refine qn_istore_n hX (pc := 47) (ls' := [(3, .int (iZ v4)), (0, .ref x0), (1, .int (iZ x1))]) dX8_goes_47 rfl rfl rfl ?_
  refine qn_sub (ls' := [(0, .ref x0), (3, .int (iZ v4))]) [1, 0] rfl ?_
  exact w_X8_goes_L48 hX hE  k_x0 r_v4 hR_m2 h
set_option maxHeartbeats 4000000 in
set_option maxRecDepth 20000 in
theorem w_X8_goes {X : qB} {N : Nat} (hX : qOk X cX8_goes RX8 4 none wsX8_goes 1 22) {r : qM} (hE : xr X = none ∧ (True → xΦ X) ∧ xμ X = r) 
    {x0 : Nat} {x1 : Int} (k_x0 : gK (xG X) x0 = 9) (r_x1 : in32 x1) {m0 : qM} (hR_m0 : qR (xG X) m0)
    (h : f_X8_goes N (xG X)  x0 x1 m0 = some r) : qN X 4 0 [(0, .ref x0), (1, .int (iZ x1))] [] m0 := by
  have hT := hX.T
  unfold f_X8_goes at h
  refine qn_aload_n hX (pc := 0) dX8_goes_0 0 rfl rfl ?_
  refine qn_iload_n hX (pc := 1) dX8_goes_1 1 rfl rfl ?_
  refine qn_iconst hX (pc := 2) dX8_goes_2 ?_
  obtain ⟨v2, m1, e_m1, h⟩ := kb2_e h
  refine qn_callVi hX (pc := 3) [.int (iZ x1), .int (iZ 2)] [.int (iZ 2), .int (iZ x1)] 2 dX8_goes_3 gX8_goes_X8_ofOrder rfl dd_X8_ofOrder ⟨rfl, rfl⟩ rfl rfl (by decide) k_x0 rfl rfl hR_m0 (k_X8_ofOrder (xl X) hT k_x0 r_x1 (by decide) e_m1) (fun r_v2 hR_m1 => ?_)
  refine qn_istore_n hX (pc := 6) (ls' := [(2, .int (iZ v2)), (0, .ref x0), (1, .int (iZ x1))]) dX8_goes_6 rfl rfl rfl ?_
  refine qn_aload_n hX (pc := 7) dX8_goes_7 1 rfl rfl ?_
  refine qn_getR hX (pc := 8) fd_X8_goes_7 dX8_goes_8 k_x0 ?_
  refine qn_bipush hX (pc := 11) dX8_goes_11 (by decide) ?_
  refine qn_iload_n hX (pc := 13) dX8_goes_13 0 rfl rfl ?_
  obtain ⟨v3, e_v3, r_v3, h⟩ := ckI_e h
  refine qn_iadd hX (pc := 14) dX8_goes_14 e_v3 ?_
  obtain ⟨v4, e_v4, b_v4, h⟩ := rdA_e h
  have r_v4 : in32 v4 := by rw [e_v4]; exact hR_m1.a (n := 684) _ (qr_800 hT k_x0) (by decide)
  refine qn_iald hX (pc := 15) 684 dX8_goes_15 (qr_800 hT k_x0) (by decide) b_v4 e_v4 ?_
  refine qn_aload_n hX (pc := 16) dX8_goes_16 1 rfl rfl ?_
  refine qn_iload_n hX (pc := 17) dX8_goes_17 2 rfl rfl ?_
  refine qn_iconst hX (pc := 18) dX8_goes_18 ?_
  obtain ⟨v6, m5, e_m5, h⟩ := kb2_e h
  refine qn_callVi hX (pc := 19) [.int (iZ x1), .int (iZ 0)] [.int (iZ 0), .int (iZ x1)] 2 dX8_goes_19 gX8_goes_X8_ofOrder rfl dd_X8_ofOrder ⟨rfl, rfl⟩ rfl rfl (by decide) k_x0 rfl rfl hR_m1 (k_X8_ofOrder (xl X) hT k_x0 r_x1 (by decide) e_m5) (fun r_v6 hR_m5 => ?_)
  refine qn_icmp_ne hX (pc := 22) r_v4 r_v6 30 dX8_goes_22 (by decide) (fun c7 => ?_) (fun c7 => ?_)
  · have h := ite_f h c7
    refine qn_sub (ls' := [(0, .ref x0), (1, .int (iZ x1))]) [1, 2] rfl ?_
    exact w_X8_goes_30 hX hE  k_x0 r_x1 hR_m5 h
  · have h := ite_t h c7
    refine qn_aload_n hX (pc := 25) dX8_goes_25 1 rfl rfl ?_
    refine qn_iload_n hX (pc := 26) dX8_goes_26 0 rfl rfl ?_
    obtain ⟨m8, e_m8, h⟩ := kb_e h
    refine qn_callVv hX (pc := 27) [.int (iZ v2)] [.int (iZ v2)] 1 dX8_goes_27 gX8_goes_X8_lapses rfl dd_X8_lapses ⟨rfl, rfl⟩ rfl rfl (by decide) k_x0 rfl rfl hR_m5 (k_X8_lapses (xl X) hT k_x0 r_v2 e_m8) (fun r_v9 hR_m8 => ?_)
    refine qn_sub (ls' := [(0, .ref x0), (1, .int (iZ x1))]) [1, 2] rfl ?_
    exact w_X8_goes_30 hX hE  k_x0 r_x1 hR_m8 h
theorem k_X8_goes (l : Launch) {G : qG} (hT : qT G) {N : Nat} {x0 : Nat} {x1 : Int} (k_x0 : gK G x0 = 9) (r_x1 : in32 x1) {m0 : qM} {r : qM} (h : f_X8_goes N G x0 x1 m0 = some r) : qC l yX8_goes wsX8_goes 1 22 G [.ref x0, .int (iZ x1)] m0 none True r := by
  refine qn_start (hy := by decide) hT (hw := rfl) (hn := Nat.le_of_ble_eq_true rfl) ?_
  intro X h1 h2 h3 h4 hX hR
  subst h4
  exact w_X8_goes hX ⟨h1, fun q => h2 ▸ q, h3⟩ k_x0 r_x1 hR h
theorem dd_X8_goes : yX8_goes.cls = RX8 ∧ yX8_goes.cls ≠ "java/lang/invoke/MethodHandle" ∧ yX8_goes.cls ≠ "java/lang/invoke/VarHandle" ∧ (parseMethodDescriptor yX8_goes.desc).map (fun d => d.parameters.length) = some 1 := by decide +kernel
-- ProRataMarketModel.takesOwnOff
theorem hi_X8_takesOwnOff_8 : ∀ w ∈ wsX80, w ∈ wsX8_takesOwnOff := fun w h => List.mem_cons_of_mem _ (List.mem_append_right _ h)
theorem fd_X8_takesOwnOff_87 : qFd RX8 wsX8_takesOwnOff 87 8 12 0 812 := ⟨RX8, TX8, 32, _, rfl, hi_X8_takesOwnOff_8, by decide, (by decide +kernel : Cond.fieldLink RX8 87 (TX8 12).1 (TX8 12).2.1 (TX8 12).2.2.1 ∈ wsX8_takesOwnOff), rfl, rfl, by decide⟩
theorem fd_X8_takesOwnOff_123 : qFd RX8 wsX8_takesOwnOff 123 8 17 0 817 := ⟨RX8, TX8, 32, _, rfl, hi_X8_takesOwnOff_8, by decide, (by decide +kernel : Cond.fieldLink RX8 123 (TX8 17).1 (TX8 17).2.1 (TX8 17).2.2.1 ∈ wsX8_takesOwnOff), rfl, rfl, by decide⟩
theorem fp_X8_takesOwnOff_123 : qFp RX8 wsX8_takesOwnOff 123 8 17 0 817 .int := ⟨RX8, TX8, 32, _, tyX8, rfl, hi_X8_takesOwnOff_8, by decide, (by decide +kernel : Cond.fieldLink RX8 123 (TX8 17).1 (TX8 17).2.1 (TX8 17).2.2.1 ∈ wsX8_takesOwnOff), rfl, rfl, by decide, tyX8_ok, nmX8, rfl, by decide +kernel⟩
theorem fd_X8_takesOwnOff_7 : qFd RX8 wsX8_takesOwnOff 7 8 0 1 800 := ⟨RX8, TX8, 32, _, rfl, hi_X8_takesOwnOff_8, by decide, (by decide +kernel : Cond.fieldLink RX8 7 (TX8 0).1 (TX8 0).2.1 (TX8 0).2.2.1 ∈ wsX8_takesOwnOff), rfl, rfl, by decide⟩
set_option maxHeartbeats 4000000 in
set_option maxRecDepth 20000 in
theorem w_X8_takesOwnOff_70 {X : qB} {N : Nat} (hX : qOk X cX8_takesOwnOff RX8 4 none wsX8_takesOwnOff 2 45) {r : qM} (hE : xr X = none ∧ (True → xΦ X) ∧ xμ X = r) {k9 : (Nat → Int → Int → Int → qM → Option (qM))} (hk9 : ∀ (x0 : Nat) (x1 : Int) (x2 : Int) (x3 : Int) (m0 : qM), gK (xG X) x0 = 9 → in32 x1 → in32 x2 → in32 x3 → qR (xG X) m0 → k9 x0 x1 x2 x3 m0 = some r → qN X 4 9 [(0, .ref x0), (1, .int (iZ x1)), (2, .int (iZ x2)), (3, .int (iZ x3))] [] m0)
    {x0 : Nat} {x1 : Int} {x2 : Int} {x3 : Int} (k_x0 : gK (xG X) x0 = 9) (r_x1 : in32 x1) (r_x2 : in32 x2) (r_x3 : in32 x3) {m0 : qM} (hR_m0 : qR (xG X) m0)
    (h : f_X8_takesOwnOff_70 N (xG X) k9 x0 x1 x2 x3 m0 = some r) : qN X 4 70 [(0, .ref x0), (1, .int (iZ x1)), (2, .int (iZ x2)), (3, .int (iZ x3))] [] m0 := by
  have hT := hX.T
  unfold f_X8_takesOwnOff_70 at h
  obtain ⟨v1, e_v1, r_v1, h⟩ := ckI_e h
  refine qn_iinc hX (pc := 70) (ls' := [(3, .int (iZ v1)), (0, .ref x0), (1, .int (iZ x1)), (2, .int (iZ x2))]) dX8_takesOwnOff_70 3 rfl e_v1 rfl rfl ?_
  refine qn_goto hX (pc := 73) 9 dX8_takesOwnOff_73 (by decide) ?_
  refine qn_sub (ls' := [(0, .ref x0), (1, .int (iZ x1)), (2, .int (iZ x2)), (3, .int (iZ v1))]) [1, 2, 3, 0] rfl ?_
  exact hk9 x0 x1 x2 v1 m0 k_x0 r_x1 r_x2 r_v1 hR_m0 h
set_option maxHeartbeats 4000000 in
set_option maxRecDepth 20000 in
theorem w_X8_takesOwnOff_9 {X : qB} {N : Nat} (hX : qOk X cX8_takesOwnOff RX8 4 none wsX8_takesOwnOff 2 45) {r : qM} (hE : xr X = none ∧ (True → xΦ X) ∧ xμ X = r) {k9 : (Nat → Int → Int → Int → qM → Option (qM))} (hk9 : ∀ (x0 : Nat) (x1 : Int) (x2 : Int) (x3 : Int) (m0 : qM), gK (xG X) x0 = 9 → in32 x1 → in32 x2 → in32 x3 → qR (xG X) m0 → k9 x0 x1 x2 x3 m0 = some r → qN X 4 9 [(0, .ref x0), (1, .int (iZ x1)), (2, .int (iZ x2)), (3, .int (iZ x3))] [] m0)
    {x0 : Nat} {x1 : Int} {x2 : Int} {x3 : Int} (k_x0 : gK (xG X) x0 = 9) (r_x1 : in32 x1) (r_x2 : in32 x2) (r_x3 : in32 x3) {m0 : qM} (hR_m0 : qR (xG X) m0)
    (h : f_X8_takesOwnOff_9 N (xG X) k9 x0 x1 x2 x3 m0 = some r) : qN X 4 9 [(0, .ref x0), (1, .int (iZ x1)), (2, .int (iZ x2)), (3, .int (iZ x3))] [] m0 := by
  have hT := hX.T
  unfold f_X8_takesOwnOff_9 at h
  refine qn_iload_n hX (pc := 9) dX8_takesOwnOff_9 3 rfl rfl ?_
  refine qn_if_lt hX (pc := 10) r_x3 76 dX8_takesOwnOff_10 (by decide) (fun c1 => ?_) (fun c1 => ?_)
  · have h := ite_t h c1
    exact qn_vret hX (pc := 76) dX8_takesOwnOff_76 hE hR_m0 (Option.some.inj h)
  · have h := ite_f h c1
    refine qn_aload_n hX (pc := 13) dX8_takesOwnOff_13 0 rfl rfl ?_
    refine qn_iload_n hX (pc := 14) dX8_takesOwnOff_14 3 rfl rfl ?_
    refine qn_iload_n hX (pc := 15) dX8_takesOwnOff_15 1 rfl rfl ?_
    refine qn_iload_n hX (pc := 16) dX8_takesOwnOff_16 2 rfl rfl ?_
    obtain ⟨v3, m2, e_m2, h⟩ := kb2_e h
    refine qn_callVi hX (pc := 17) [.int (iZ x3), .int (iZ x1), .int (iZ x2)] [.int (iZ x2), .int (iZ x1), .int (iZ x3)] 3 dX8_takesOwnOff_17 gX8_takesOwnOff_X8_isAt rfl dd_X8_isAt ⟨rfl, rfl⟩ rfl rfl (by decide) k_x0 rfl rfl hR_m0 (k_X8_isAt (xl X) hT k_x0 r_x3 r_x1 r_x2 e_m2) (fun r_v3 hR_m2 => ?_)
    refine qn_if_eq hX (pc := 20) r_v3.i 70 dX8_takesOwnOff_20 (by decide) (fun c4 => ?_) (fun c4 => ?_)
    · have h := ite_t h c4
      refine qn_sub (ls' := [(0, .ref x0), (1, .int (iZ x1)), (2, .int (iZ x2)), (3, .int (iZ x3))]) [0, 1, 2, 3] rfl ?_
      exact w_X8_takesOwnOff_70 hX hE hk9 k_x0 r_x1 r_x2 r_x3 hR_m2 h
    · have h := ite_f h c4
      refine qn_aload_n hX (pc := 23) dX8_takesOwnOff_23 0 rfl rfl ?_
      refine qn_iload_n hX (pc := 24) dX8_takesOwnOff_24 3 rfl rfl ?_
      refine qn_iconst hX (pc := 25) dX8_takesOwnOff_25 ?_
      obtain ⟨v6, m5, e_m5, h⟩ := kb2_e h
      refine qn_callVi hX (pc := 26) [.int (iZ x3), .int (iZ 1)] [.int (iZ 1), .int (iZ x3)] 2 dX8_takesOwnOff_26 gX8_takesOwnOff_X8_ofOrder rfl dd_X8_ofOrder ⟨rfl, rfl⟩ rfl rfl (by decide) k_x0 rfl rfl hR_m2 (k_X8_ofOrder (xl X) hT k_x0 r_x3 (by decide) e_m5) (fun r_v6 hR_m5 => ?_)
      refine qn_aload_n hX (pc := 29) dX8_takesOwnOff_29 0 rfl rfl ?_
      refine qn_getI hX (pc := 30) fd_X8_takesOwnOff_87 dX8_takesOwnOff_30 k_x0 ?_
      refine qn_icmp_eq hX (pc := 33) r_v6 (hR_m5.i 812 _ rfl) 39 dX8_takesOwnOff_33 (by decide) (fun c7 => ?_) (fun c7 => ?_)
      · have h := ite_t h c7
        refine qn_aload_n hX (pc := 39) dX8_takesOwnOff_39 0 rfl rfl ?_
        refine qn_dup hX (pc := 40) dX8_takesOwnOff_40 rfl ?_
        refine qn_getI hX (pc := 41) fd_X8_takesOwnOff_123 dX8_takesOwnOff_41 k_x0 ?_
        refine qn_aload_n hX (pc := 44) dX8_takesOwnOff_44 0 rfl rfl ?_
        refine qn_iload_n hX (pc := 45) dX8_takesOwnOff_45 3 rfl rfl ?_
        refine qn_iconst hX (pc := 46) dX8_takesOwnOff_46 ?_
        obtain ⟨v9, m8, e_m8, h⟩ := kb2_e h
        refine qn_callVi hX (pc := 47) [.int (iZ x3), .int (iZ 4)] [.int (iZ 4), .int (iZ x3)] 2 dX8_takesOwnOff_47 gX8_takesOwnOff_X8_ofOrder rfl dd_X8_ofOrder ⟨rfl, rfl⟩ rfl rfl (by decide) k_x0 rfl rfl hR_m5 (k_X8_ofOrder (xl X) hT k_x0 r_x3 (by decide) e_m8) (fun r_v9 hR_m8 => ?_)
        obtain ⟨v10, e_v10, h⟩ := kp_e h
        have r_v10 : in32 v10 := by rw [e_v10]; exact w32_in _
        refine qn_iaddw hX (pc := 50) dX8_takesOwnOff_50 e_v10 ?_
        obtain ⟨m11, e_m11, h⟩ := kp_e h
        refine qn_putI hX (pc := 51) fp_X8_takesOwnOff_123 dX8_takesOwnOff_51 k_x0 hR_m8 r_v10 e_m11 (fun hR_m11 => ?_) 
        refine qn_aload_n hX (pc := 54) dX8_takesOwnOff_54 0 rfl rfl ?_
        refine qn_getR hX (pc := 55) fd_X8_takesOwnOff_7 dX8_takesOwnOff_55 k_x0 ?_
        refine qn_bipush hX (pc := 58) dX8_takesOwnOff_58 (by decide) ?_
        refine qn_dup2 hX (pc := 60) dX8_takesOwnOff_60 rfl rfl ?_
        refine qn_iald hX (pc := 61) (v := gA m11 (gR (xG X) 800 x0) 12) 684 dX8_takesOwnOff_61 (qr_800 hT k_x0) (by decide) (by decide) rfl ?_
        refine qn_iconst hX (pc := 62) dX8_takesOwnOff_62 ?_
        obtain ⟨v12, e_v12, h⟩ := kp_e h
        have r_v12 : in32 v12 := by rw [e_v12]; exact w32_in _
        refine qn_iaddw hX (pc := 63) dX8_takesOwnOff_63 e_v12 ?_
        obtain ⟨m13, e_m13, h⟩ := kp_e h
        refine qn_iast hX (pc := 64) 684 dX8_takesOwnOff_64 (qr_800 hT k_x0) (by decide) (by decide) hR_m11 r_v12 e_m13 (fun hR_m13 => ?_) 
        refine qn_aload_n hX (pc := 65) dX8_takesOwnOff_65 0 rfl rfl ?_
        refine qn_iload_n hX (pc := 66) dX8_takesOwnOff_66 3 rfl rfl ?_
        obtain ⟨m14, e_m14, h⟩ := kb_e h
        refine qn_callVv hX (pc := 67) [.int (iZ x3)] [.int (iZ x3)] 1 dX8_takesOwnOff_67 gX8_takesOwnOff_X8_goes rfl dd_X8_goes ⟨rfl, rfl⟩ rfl rfl (by decide) k_x0 rfl rfl hR_m13 (k_X8_goes (xl X) hT k_x0 r_x3 e_m14) (fun r_v15 hR_m14 => ?_)
        refine qn_sub (ls' := [(0, .ref x0), (1, .int (iZ x1)), (2, .int (iZ x2)), (3, .int (iZ x3))]) [0, 1, 2, 3] rfl ?_
        exact w_X8_takesOwnOff_70 hX hE hk9 k_x0 r_x1 r_x2 r_x3 hR_m14 h
      · have h := ite_f h c7
        refine qn_goto hX (pc := 36) 70 dX8_takesOwnOff_36 (by decide) ?_
        refine qn_sub (ls' := [(0, .ref x0), (1, .int (iZ x1)), (2, .int (iZ x2)), (3, .int (iZ x3))]) [0, 1, 2, 3] rfl ?_
        exact w_X8_takesOwnOff_70 hX hE hk9 k_x0 r_x1 r_x2 r_x3 hR_m5 h
set_option maxHeartbeats 4000000 in
set_option maxRecDepth 20000 in
theorem w_X8_takesOwnOff_L9 {X : qB} {N : Nat} (hX : qOk X cX8_takesOwnOff RX8 4 none wsX8_takesOwnOff 2 45) {r : qM} (hE : xr X = none ∧ (True → xΦ X) ∧ xμ X = r) 
    {x0 : Nat} {x1 : Int} {x2 : Int} {x3 : Int} (k_x0 : gK (xG X) x0 = 9) (r_x1 : in32 x1) (r_x2 : in32 x2) (r_x3 : in32 x3) {m0 : qM} (hR_m0 : qR (xG X) m0)
    (h : f_X8_takesOwnOff_L9 N (xG X)  x0 x1 x2 x3 m0 = some r) : qN X 4 9 [(0, .ref x0), (1, .int (iZ x1)), (2, .int (iZ x2)), (3, .int (iZ x3))] [] m0 := by
  unfold f_X8_takesOwnOff_L9 at h
  exact qLoop_w (σ := Nat × Int × Int × Int × qM) (P := fun p => gK (xG X) p.1 = 9 ∧ in32 p.2.1 ∧ in32 p.2.2.1 ∧ in32 p.2.2.2.1 ∧ qR (xG X) p.2.2.2.2) (Q := fun p => qN X 4 9 [(0, .ref p.1), (1, .int (iZ p.2.1)), (2, .int (iZ p.2.2.1)), (3, .int (iZ p.2.2.2.1))] [] p.2.2.2.2) (fun k hrec p hp hh => w_X8_takesOwnOff_9 hX hE (fun x0 x1 x2 x3 m0 q0 q1 q2 q3 hRm hh => hrec (x0, x1, x2, x3, m0) ⟨q0, q1, q2, q3, hRm⟩ hh) hp.1 hp.2.1 hp.2.2.1 hp.2.2.2.1 hp.2.2.2.2 hh) N (x0, x1, x2, x3, m0) ⟨k_x0, r_x1, r_x2, r_x3, hR_m0⟩ h
set_option maxHeartbeats 4000000 in
set_option maxRecDepth 20000 in
theorem w_X8_takesOwnOff {X : qB} {N : Nat} (hX : qOk X cX8_takesOwnOff RX8 4 none wsX8_takesOwnOff 2 45) {r : qM} (hE : xr X = none ∧ (True → xΦ X) ∧ xμ X = r) 
    {x0 : Nat} {x1 : Int} {x2 : Int} (k_x0 : gK (xG X) x0 = 9) (r_x1 : in32 x1) (r_x2 : in32 x2) {m0 : qM} (hR_m0 : qR (xG X) m0)
    (h : f_X8_takesOwnOff N (xG X)  x0 x1 x2 m0 = some r) : qN X 4 0 [(0, .ref x0), (1, .int (iZ x1)), (2, .int (iZ x2))] [] m0 := by
  have hT := hX.T
  unfold f_X8_takesOwnOff at h
  refine qn_aload_n hX (pc := 0) dX8_takesOwnOff_0 0 rfl rfl ?_
  refine qn_getR hX (pc := 1) fd_X8_takesOwnOff_7 dX8_takesOwnOff_1 k_x0 ?_
  refine qn_iconst hX (pc := 4) dX8_takesOwnOff_4 ?_
  refine qn_iald hX (pc := 5) (v := gA m0 (gR (xG X) 800 x0) 5) 684 dX8_takesOwnOff_5 (qr_800 hT k_x0) (by decide) (by decide) rfl ?_
  refine qn_iconst hX (pc := 6) dX8_takesOwnOff_6 ?_
  obtain ⟨v1, e_v1, r_v1, h⟩ := ckI_e h
  refine qn_isub hX (pc := 7) dX8_takesOwnOff_7 e_v1 ?_
  refine qn_istore_n hX (pc := 8) (ls' := [(3, .int (iZ v1)), (0, .ref x0), (1, .int (iZ x1)), (2, .int (iZ x2))]) dX8_takesOwnOff_8 rfl rfl rfl ?_
  refine qn_sub (ls' := [(0, .ref x0), (1, .int (iZ x1)), (2, .int (iZ x2)), (3, .int (iZ v1))]) [1, 2, 3, 0] rfl ?_
  exact w_X8_takesOwnOff_L9 hX hE  k_x0 r_x1 r_x2 r_v1 hR_m0 h
theorem k_X8_takesOwnOff (l : Launch) {G : qG} (hT : qT G) {N : Nat} {x0 : Nat} {x1 : Int} {x2 : Int} (k_x0 : gK G x0 = 9) (r_x1 : in32 x1) (r_x2 : in32 x2) {m0 : qM} {r : qM} (h : f_X8_takesOwnOff N G x0 x1 x2 m0 = some r) : qC l yX8_takesOwnOff wsX8_takesOwnOff 2 45 G [.ref x0, .int (iZ x1), .int (iZ x2)] m0 none True r := by
  refine qn_start (hy := by decide) hT (hw := rfl) (hn := Nat.le_of_ble_eq_true rfl) ?_
  intro X h1 h2 h3 h4 hX hR
  subst h4
  exact w_X8_takesOwnOff hX ⟨h1, fun q => h2 ▸ q, h3⟩ k_x0 r_x1 r_x2 hR h
theorem dd_X8_takesOwnOff : yX8_takesOwnOff.cls = RX8 ∧ yX8_takesOwnOff.cls ≠ "java/lang/invoke/MethodHandle" ∧ yX8_takesOwnOff.cls ≠ "java/lang/invoke/VarHandle" ∧ (parseMethodDescriptor yX8_takesOwnOff.desc).map (fun d => d.parameters.length) = some 2 := by decide +kernel
-- ProRataMarketModel.makesLess
theorem hi_X8_makesLess_8 : ∀ w ∈ wsX80, w ∈ wsX8_makesLess := fun w h => List.mem_cons_of_mem _ (List.mem_append_right _ h)
theorem fd_X8_makesLess_123 : qFd RX8 wsX8_makesLess 123 8 17 0 817 := ⟨RX8, TX8, 32, _, rfl, hi_X8_makesLess_8, by decide, (by decide +kernel : Cond.fieldLink RX8 123 (TX8 17).1 (TX8 17).2.1 (TX8 17).2.2.1 ∈ wsX8_makesLess), rfl, rfl, by decide⟩
theorem fp_X8_makesLess_123 : qFp RX8 wsX8_makesLess 123 8 17 0 817 .int := ⟨RX8, TX8, 32, _, tyX8, rfl, hi_X8_makesLess_8, by decide, (by decide +kernel : Cond.fieldLink RX8 123 (TX8 17).1 (TX8 17).2.1 (TX8 17).2.2.1 ∈ wsX8_makesLess), rfl, rfl, by decide, tyX8_ok, nmX8, rfl, by decide +kernel⟩
theorem fd_X8_makesLess_7 : qFd RX8 wsX8_makesLess 7 8 0 1 800 := ⟨RX8, TX8, 32, _, rfl, hi_X8_makesLess_8, by decide, (by decide +kernel : Cond.fieldLink RX8 7 (TX8 0).1 (TX8 0).2.1 (TX8 0).2.2.1 ∈ wsX8_makesLess), rfl, rfl, by decide⟩
theorem fd_X8_makesLess_87 : qFd RX8 wsX8_makesLess 87 8 12 0 812 := ⟨RX8, TX8, 32, _, rfl, hi_X8_makesLess_8, by decide, (by decide +kernel : Cond.fieldLink RX8 87 (TX8 12).1 (TX8 12).2.1 (TX8 12).2.2.1 ∈ wsX8_makesLess), rfl, rfl, by decide⟩
set_option maxHeartbeats 4000000 in
set_option maxRecDepth 20000 in
theorem w_X8_makesLess_47 {X : qB} {N : Nat} (hX : qOk X cX8_makesLess RX8 7 (some .int) wsX8_makesLess 2 45) {r : Int} {nu : qM} (hE : xr X = some (.int (iZ r)) ∧ (in32 r → xΦ X) ∧ xμ X = nu) {k6 : (Nat → Int → Int → Int → Int → qM → Option (Int × qM))} (hk6 : ∀ (x0 : Nat) (x1 : Int) (x2 : Int) (x4 : Int) (x5 : Int) (m0 : qM), gK (xG X) x0 = 9 → in32 x1 → in32 x2 → in32 x4 → in32 x5 → qR (xG X) m0 → k6 x0 x1 x2 x4 x5 m0 = some (r, nu) → qN X 7 6 [(0, .ref x0), (1, .int (iZ x1)), (2, .int (iZ x2)), (4, .int (iZ x4)), (5, .int (iZ x5))] [] m0)
    {x0 : Nat} {x1 : Int} {x2 : Int} {x4 : Int} {x5 : Int} (k_x0 : gK (xG X) x0 = 9) (r_x1 : in32 x1) (r_x2 : in32 x2) (r_x4 : in32 x4) (r_x5 : in32 x5) {m0 : qM} (hR_m0 : qR (xG X) m0)
    (h : f_X8_makesLess_47 N (xG X) k6 x0 x1 x2 x4 x5 m0 = some (r, nu)) : qN X 7 47 [(0, .ref x0), (1, .int (iZ x1)), (2, .int (iZ x2)), (4, .int (iZ x4)), (5, .int (iZ x5))] [] m0 := by
  have hT := hX.T
  unfold f_X8_makesLess_47 at h
  obtain ⟨v1, e_v1, r_v1, h⟩ := ckI_e h
  refine qn_iinc hX (pc := 47) (ls' := [(5, .int (iZ v1)), (0, .ref x0), (1, .int (iZ x1)), (2, .int (iZ x2)), (4, .int (iZ x4))]) dX8_makesLess_47 4 rfl e_v1 rfl rfl ?_
  refine qn_goto hX (pc := 50) 6 dX8_makesLess_50 (by decide) ?_
  refine qn_sub (ls' := [(0, .ref x0), (1, .int (iZ x1)), (2, .int (iZ x2)), (4, .int (iZ x4)), (5, .int (iZ v1))]) [1, 2, 3, 4, 0] rfl ?_
  exact hk6 x0 x1 x2 x4 v1 m0 k_x0 r_x1 r_x2 r_x4 r_v1 hR_m0 h
set_option maxHeartbeats 4000000 in
set_option maxRecDepth 20000 in
theorem w_X8_makesLess_159 {X : qB} {N : Nat} (hX : qOk X cX8_makesLess RX8 7 (some .int) wsX8_makesLess 2 45) {r : Int} {nu : qM} (hE : xr X = some (.int (iZ r)) ∧ (in32 r → xΦ X) ∧ xμ X = nu) {k6 : (Nat → Int → Int → Int → Int → qM → Option (Int × qM))} (hk6 : ∀ (x0 : Nat) (x1 : Int) (x2 : Int) (x4 : Int) (x5 : Int) (m0 : qM), gK (xG X) x0 = 9 → in32 x1 → in32 x2 → in32 x4 → in32 x5 → qR (xG X) m0 → k6 x0 x1 x2 x4 x5 m0 = some (r, nu) → qN X 7 6 [(0, .ref x0), (1, .int (iZ x1)), (2, .int (iZ x2)), (4, .int (iZ x4)), (5, .int (iZ x5))] [] m0)
    {x0 : Nat} {x1 : Int} {x2 : Int} {x4 : Int} {x5 : Int} (k_x0 : gK (xG X) x0 = 9) (r_x1 : in32 x1) (r_x2 : in32 x2) (r_x4 : in32 x4) (r_x5 : in32 x5) {m0 : qM} (hR_m0 : qR (xG X) m0)
    (h : f_X8_makesLess_159 N (xG X) k6 x0 x1 x2 x4 x5 m0 = some (r, nu)) : qN X 7 159 [(0, .ref x0), (1, .int (iZ x1)), (2, .int (iZ x2)), (4, .int (iZ x4)), (5, .int (iZ x5))] [] m0 := by
  have hT := hX.T
  unfold f_X8_makesLess_159 at h
  refine qn_goto hX (pc := 159) 6 dX8_makesLess_159 (by decide) ?_
  refine qn_sub (ls' := [(0, .ref x0), (1, .int (iZ x1)), (2, .int (iZ x2)), (4, .int (iZ x4)), (5, .int (iZ x5))]) [0, 1, 2, 3, 4] rfl ?_
  exact hk6 x0 x1 x2 x4 x5 m0 k_x0 r_x1 r_x2 r_x4 r_x5 hR_m0 h
set_option maxHeartbeats 4000000 in
set_option maxRecDepth 20000 in
theorem w_X8_makesLess_77 {X : qB} {N : Nat} (hX : qOk X cX8_makesLess RX8 7 (some .int) wsX8_makesLess 2 45) {r : Int} {nu : qM} (hE : xr X = some (.int (iZ r)) ∧ (in32 r → xΦ X) ∧ xμ X = nu) {k6 : (Nat → Int → Int → Int → Int → qM → Option (Int × qM))} (hk6 : ∀ (x0 : Nat) (x1 : Int) (x2 : Int) (x4 : Int) (x5 : Int) (m0 : qM), gK (xG X) x0 = 9 → in32 x1 → in32 x2 → in32 x4 → in32 x5 → qR (xG X) m0 → k6 x0 x1 x2 x4 x5 m0 = some (r, nu) → qN X 7 6 [(0, .ref x0), (1, .int (iZ x1)), (2, .int (iZ x2)), (4, .int (iZ x4)), (5, .int (iZ x5))] [] m0)
    {x0 : Nat} {x1 : Int} {x2 : Int} {x4 : Int} {x5 : Int} {s0 : Int} (k_x0 : gK (xG X) x0 = 9) (r_x1 : in32 x1) (r_x2 : in32 x2) (r_x4 : in32 x4) (r_x5 : in32 x5) (r_s0 : in32 s0) {m0 : qM} (hR_m0 : qR (xG X) m0)
    (h : f_X8_makesLess_77 N (xG X) k6 x0 x1 x2 x4 x5 s0 m0 = some (r, nu)) : qN X 7 77 [(0, .ref x0), (1, .int (iZ x1)), (2, .int (iZ x2)), (4, .int (iZ x4)), (5, .int (iZ x5))] [.int (iZ s0)] m0 := by
  have hT := hX.T
  unfold f_X8_makesLess_77 at h
  refine qn_istore hX (pc := 77) (ls' := [(6, .int (iZ s0)), (0, .ref x0), (1, .int (iZ x1)), (2, .int (iZ x2)), (4, .int (iZ x4)), (5, .int (iZ x5))]) dX8_makesLess_77 rfl rfl ?_
  refine qn_iload hX (pc := 79) dX8_makesLess_79 4 rfl ?_
  refine qn_iload hX (pc := 81) dX8_makesLess_81 0 rfl ?_
  obtain ⟨v1, e_v1, r_v1, h⟩ := ckI_e h
  refine qn_isub hX (pc := 83) dX8_makesLess_83 e_v1 ?_
  refine qn_istore hX (pc := 84) (ls' := [(4, .int (iZ v1)), (6, .int (iZ s0)), (0, .ref x0), (1, .int (iZ x1)), (2, .int (iZ x2)), (5, .int (iZ x5))]) dX8_makesLess_84 rfl rfl ?_
  refine qn_aload_n hX (pc := 86) dX8_makesLess_86 2 rfl rfl ?_
  refine qn_dup hX (pc := 87) dX8_makesLess_87 rfl ?_
  refine qn_getI hX (pc := 88) fd_X8_makesLess_123 dX8_makesLess_88 k_x0 ?_
  refine qn_iload hX (pc := 91) dX8_makesLess_91 1 rfl ?_
  obtain ⟨v2, e_v2, h⟩ := kp_e h
  have r_v2 : in32 v2 := by rw [e_v2]; exact w32_in _
  refine qn_iaddw hX (pc := 93) dX8_makesLess_93 e_v2 ?_
  obtain ⟨m3, e_m3, h⟩ := kp_e h
  refine qn_putI hX (pc := 94) fp_X8_makesLess_123 dX8_makesLess_94 k_x0 hR_m0 r_v2 e_m3 (fun hR_m3 => ?_) 
  refine qn_aload_n hX (pc := 97) dX8_makesLess_97 2 rfl rfl ?_
  refine qn_getR hX (pc := 98) fd_X8_makesLess_7 dX8_makesLess_98 k_x0 ?_
  refine qn_bipush hX (pc := 101) dX8_makesLess_101 (by decide) ?_
  refine qn_dup2 hX (pc := 103) dX8_makesLess_103 rfl rfl ?_
  refine qn_iald hX (pc := 104) (v := gA m3 (gR (xG X) 800 x0) 13) 684 dX8_makesLess_104 (qr_800 hT k_x0) (by decide) (by decide) rfl ?_
  refine qn_iload hX (pc := 105) dX8_makesLess_105 1 rfl ?_
  obtain ⟨v4, e_v4, h⟩ := kp_e h
  have r_v4 : in32 v4 := by rw [e_v4]; exact w32_in _
  refine qn_iaddw hX (pc := 107) dX8_makesLess_107 e_v4 ?_
  obtain ⟨m5, e_m5, h⟩ := kp_e h
  refine qn_iast hX (pc := 108) 684 dX8_makesLess_108 (qr_800 hT k_x0) (by decide) (by decide) hR_m3 r_v4 e_m5 (fun hR_m5 => ?_) 
  refine qn_aload_n hX (pc := 109) dX8_makesLess_109 2 rfl rfl ?_
  refine qn_iload hX (pc := 110) dX8_makesLess_110 5 rfl ?_
  refine qn_iconst hX (pc := 112) dX8_makesLess_112 ?_
  refine qn_aload_n hX (pc := 113) dX8_makesLess_113 2 rfl rfl ?_
  refine qn_iload hX (pc := 114) dX8_makesLess_114 5 rfl ?_
  refine qn_iconst hX (pc := 116) dX8_makesLess_116 ?_
  obtain ⟨v7, m6, e_m6, h⟩ := kb2_e h
  refine qn_callVi hX (pc := 117) [.int (iZ x5), .int (iZ 4)] [.int (iZ 4), .int (iZ x5)] 2 dX8_makesLess_117 gX8_makesLess_X8_ofOrder rfl dd_X8_ofOrder ⟨rfl, rfl⟩ rfl rfl (by decide) k_x0 rfl rfl hR_m5 (k_X8_ofOrder (xl X) hT k_x0 r_x5 (by decide) e_m6) (fun r_v7 hR_m6 => ?_)
  refine qn_iload hX (pc := 120) dX8_makesLess_120 1 rfl ?_
  obtain ⟨v8, e_v8, r_v8, h⟩ := ckI_e h
  refine qn_isub hX (pc := 122) dX8_makesLess_122 e_v8 ?_
  obtain ⟨m9, e_m9, h⟩ := kb_e h
  refine qn_callVv hX (pc := 123) [.int (iZ x5), .int (iZ 4), .int (iZ v8)] [.int (iZ v8), .int (iZ 4), .int (iZ x5)] 3 dX8_makesLess_123 gX8_makesLess_X8_setOrder rfl dd_X8_setOrder ⟨rfl, rfl⟩ rfl rfl (by decide) k_x0 rfl rfl hR_m6 (k_X8_setOrder (xl X) hT k_x0 r_x5 (by decide) r_v8 e_m9) (fun r_v10 hR_m9 => ?_)
  refine qn_aload_n hX (pc := 126) dX8_makesLess_126 2 rfl rfl ?_
  refine qn_iload hX (pc := 127) dX8_makesLess_127 5 rfl ?_
  refine qn_iconst hX (pc := 129) dX8_makesLess_129 ?_
  obtain ⟨v12, m11, e_m11, h⟩ := kb2_e h
  refine qn_callVi hX (pc := 130) [.int (iZ x5), .int (iZ 4)] [.int (iZ 4), .int (iZ x5)] 2 dX8_makesLess_130 gX8_makesLess_X8_ofOrder rfl dd_X8_ofOrder ⟨rfl, rfl⟩ rfl rfl (by decide) k_x0 rfl rfl hR_m9 (k_X8_ofOrder (xl X) hT k_x0 r_x5 (by decide) e_m11) (fun r_v12 hR_m11 => ?_)
  refine qn_if_ne hX (pc := 133) r_v12 156 dX8_makesLess_133 (by decide) (fun c13 => ?_) (fun c13 => ?_)
  · have h := ite_f h c13
    obtain ⟨v14, e_v14, r_v14, h⟩ := ckI_e h
    refine qn_iinc hX (pc := 156) (ls' := [(5, .int (iZ v14)), (4, .int (iZ v1)), (6, .int (iZ s0)), (0, .ref x0), (1, .int (iZ x1)), (2, .int (iZ x2))]) dX8_makesLess_156 5 rfl e_v14 rfl rfl ?_
    refine qn_sub (ls' := [(0, .ref x0), (1, .int (iZ x1)), (2, .int (iZ x2)), (4, .int (iZ v1)), (5, .int (iZ v14))]) [3, 4, 5, 1, 0] rfl ?_
    exact w_X8_makesLess_159 hX hE hk6 k_x0 r_x1 r_x2 r_v1 r_v14 hR_m11 h
  · have h := ite_t h c13
    refine qn_aload_n hX (pc := 136) dX8_makesLess_136 2 rfl rfl ?_
    refine qn_getR hX (pc := 137) fd_X8_makesLess_7 dX8_makesLess_137 k_x0 ?_
    refine qn_bipush hX (pc := 140) dX8_makesLess_140 (by decide) ?_
    refine qn_dup2 hX (pc := 142) dX8_makesLess_142 rfl rfl ?_
    refine qn_iald hX (pc := 143) (v := gA m11 (gR (xG X) 800 x0) 12) 684 dX8_makesLess_143 (qr_800 hT k_x0) (by decide) (by decide) rfl ?_
    refine qn_iconst hX (pc := 144) dX8_makesLess_144 ?_
    obtain ⟨v15, e_v15, h⟩ := kp_e h
    have r_v15 : in32 v15 := by rw [e_v15]; exact w32_in _
    refine qn_iaddw hX (pc := 145) dX8_makesLess_145 e_v15 ?_
    obtain ⟨m16, e_m16, h⟩ := kp_e h
    refine qn_iast hX (pc := 146) 684 dX8_makesLess_146 (qr_800 hT k_x0) (by decide) (by decide) hR_m11 r_v15 e_m16 (fun hR_m16 => ?_) 
    refine qn_aload_n hX (pc := 147) dX8_makesLess_147 2 rfl rfl ?_
    refine qn_iload hX (pc := 148) dX8_makesLess_148 5 rfl ?_
    obtain ⟨m17, e_m17, h⟩ := kb_e h
    refine qn_callVv hX (pc := 150) [.int (iZ x5)] [.int (iZ x5)] 1 dX8_makesLess_150 gX8_makesLess_X8_goes rfl dd_X8_goes ⟨rfl, rfl⟩ rfl rfl (by decide) k_x0 rfl rfl hR_m16 (k_X8_goes (xl X) hT k_x0 r_x5 e_m17) (fun r_v18 hR_m17 => ?_)
    refine qn_goto hX (pc := 153) 159 dX8_makesLess_153 (by decide) ?_
    refine qn_sub (ls' := [(0, .ref x0), (1, .int (iZ x1)), (2, .int (iZ x2)), (4, .int (iZ v1)), (5, .int (iZ x5))]) [2, 3, 4, 0, 5] rfl ?_
    exact w_X8_makesLess_159 hX hE hk6 k_x0 r_x1 r_x2 r_v1 r_x5 hR_m17 h
set_option maxHeartbeats 4000000 in
set_option maxRecDepth 20000 in
theorem w_X8_makesLess_6 {X : qB} {N : Nat} (hX : qOk X cX8_makesLess RX8 7 (some .int) wsX8_makesLess 2 45) {r : Int} {nu : qM} (hE : xr X = some (.int (iZ r)) ∧ (in32 r → xΦ X) ∧ xμ X = nu) {k6 : (Nat → Int → Int → Int → Int → qM → Option (Int × qM))} (hk6 : ∀ (x0 : Nat) (x1 : Int) (x2 : Int) (x4 : Int) (x5 : Int) (m0 : qM), gK (xG X) x0 = 9 → in32 x1 → in32 x2 → in32 x4 → in32 x5 → qR (xG X) m0 → k6 x0 x1 x2 x4 x5 m0 = some (r, nu) → qN X 7 6 [(0, .ref x0), (1, .int (iZ x1)), (2, .int (iZ x2)), (4, .int (iZ x4)), (5, .int (iZ x5))] [] m0)
    {x0 : Nat} {x1 : Int} {x2 : Int} {x4 : Int} {x5 : Int} (k_x0 : gK (xG X) x0 = 9) (r_x1 : in32 x1) (r_x2 : in32 x2) (r_x4 : in32 x4) (r_x5 : in32 x5) {m0 : qM} (hR_m0 : qR (xG X) m0)
    (h : f_X8_makesLess_6 N (xG X) k6 x0 x1 x2 x4 x5 m0 = some (r, nu)) : qN X 7 6 [(0, .ref x0), (1, .int (iZ x1)), (2, .int (iZ x2)), (4, .int (iZ x4)), (5, .int (iZ x5))] [] m0 := by
  have hT := hX.T
  unfold f_X8_makesLess_6 at h
  refine qn_iload hX (pc := 6) dX8_makesLess_6 4 rfl ?_
  refine qn_aload_n hX (pc := 8) dX8_makesLess_8 0 rfl rfl ?_
  refine qn_getR hX (pc := 9) fd_X8_makesLess_7 dX8_makesLess_9 k_x0 ?_
  refine qn_iconst hX (pc := 12) dX8_makesLess_12 ?_
  refine qn_iald hX (pc := 13) (v := gA m0 (gR (xG X) 800 x0) 5) 684 dX8_makesLess_13 (qr_800 hT k_x0) (by decide) (by decide) rfl ?_
  refine qn_icmp_ge hX (pc := 14) r_x5 (hR_m0.a (n := 684) _ (qr_800 hT k_x0) (by decide)) 162 dX8_makesLess_14 (by decide) (fun c1 => ?_) (fun c1 => ?_)
  · have h := ite_f h c1
    refine qn_iload hX (pc := 162) dX8_makesLess_162 3 rfl ?_
    exact qn_iret hX (pc := 164) dX8_makesLess_164 hE hR_m0 r_x4 (Option.some.inj h)
  · have h := ite_t h c1
    refine qn_iload hX (pc := 17) dX8_makesLess_17 3 rfl ?_
    refine qn_if_le hX (pc := 19) r_x4 162 dX8_makesLess_19 (by decide) (fun c2 => ?_) (fun c2 => ?_)
    · have h := ite_f h c2
      refine qn_iload hX (pc := 162) dX8_makesLess_162 3 rfl ?_
      exact qn_iret hX (pc := 164) dX8_makesLess_164 hE hR_m0 r_x4 (Option.some.inj h)
    · have h := ite_t h c2
      refine qn_aload_n hX (pc := 22) dX8_makesLess_22 0 rfl rfl ?_
      refine qn_iload hX (pc := 23) dX8_makesLess_23 4 rfl ?_
      refine qn_iload_n hX (pc := 25) dX8_makesLess_25 1 rfl rfl ?_
      refine qn_iload_n hX (pc := 26) dX8_makesLess_26 2 rfl rfl ?_
      obtain ⟨v4, m3, e_m3, h⟩ := kb2_e h
      refine qn_callVi hX (pc := 27) [.int (iZ x5), .int (iZ x1), .int (iZ x2)] [.int (iZ x2), .int (iZ x1), .int (iZ x5)] 3 dX8_makesLess_27 gX8_makesLess_X8_isAt rfl dd_X8_isAt ⟨rfl, rfl⟩ rfl rfl (by decide) k_x0 rfl rfl hR_m0 (k_X8_isAt (xl X) hT k_x0 r_x5 r_x1 r_x2 e_m3) (fun r_v4 hR_m3 => ?_)
      refine qn_if_eq hX (pc := 30) r_v4.i 47 dX8_makesLess_30 (by decide) (fun c5 => ?_) (fun c5 => ?_)
      · have h := ite_t h c5
        refine qn_sub (ls' := [(0, .ref x0), (1, .int (iZ x1)), (2, .int (iZ x2)), (4, .int (iZ x4)), (5, .int (iZ x5))]) [0, 1, 2, 3, 4] rfl ?_
        exact w_X8_makesLess_47 hX hE hk6 k_x0 r_x1 r_x2 r_x4 r_x5 hR_m3 h
      · have h := ite_f h c5
        refine qn_aload_n hX (pc := 33) dX8_makesLess_33 0 rfl rfl ?_
        refine qn_iload hX (pc := 34) dX8_makesLess_34 4 rfl ?_
        refine qn_iconst hX (pc := 36) dX8_makesLess_36 ?_
        obtain ⟨v7, m6, e_m6, h⟩ := kb2_e h
        refine qn_callVi hX (pc := 37) [.int (iZ x5), .int (iZ 1)] [.int (iZ 1), .int (iZ x5)] 2 dX8_makesLess_37 gX8_makesLess_X8_ofOrder rfl dd_X8_ofOrder ⟨rfl, rfl⟩ rfl rfl (by decide) k_x0 rfl rfl hR_m3 (k_X8_ofOrder (xl X) hT k_x0 r_x5 (by decide) e_m6) (fun r_v7 hR_m6 => ?_)
        refine qn_aload_n hX (pc := 40) dX8_makesLess_40 0 rfl rfl ?_
        refine qn_getI hX (pc := 41) fd_X8_makesLess_87 dX8_makesLess_41 k_x0 ?_
        refine qn_icmp_eq hX (pc := 44) r_v7 (hR_m6.i 812 _ rfl) 53 dX8_makesLess_44 (by decide) (fun c8 => ?_) (fun c8 => ?_)
        · have h := ite_t h c8
          refine qn_aload_n hX (pc := 53) dX8_makesLess_53 0 rfl rfl ?_
          refine qn_iload hX (pc := 54) dX8_makesLess_54 4 rfl ?_
          refine qn_iconst hX (pc := 56) dX8_makesLess_56 ?_
          obtain ⟨v10, m9, e_m9, h⟩ := kb2_e h
          refine qn_callVi hX (pc := 57) [.int (iZ x5), .int (iZ 4)] [.int (iZ 4), .int (iZ x5)] 2 dX8_makesLess_57 gX8_makesLess_X8_ofOrder rfl dd_X8_ofOrder ⟨rfl, rfl⟩ rfl rfl (by decide) k_x0 rfl rfl hR_m6 (k_X8_ofOrder (xl X) hT k_x0 r_x5 (by decide) e_m9) (fun r_v10 hR_m9 => ?_)
          refine qn_iload hX (pc := 60) dX8_makesLess_60 3 rfl ?_
          refine qn_icmp_ge hX (pc := 62) r_v10 r_x4 75 dX8_makesLess_62 (by decide) (fun c11 => ?_) (fun c11 => ?_)
          · have h := ite_f h c11
            refine qn_iload hX (pc := 75) dX8_makesLess_75 3 rfl ?_
            refine qn_sub (ls' := [(0, .ref x0), (1, .int (iZ x1)), (2, .int (iZ x2)), (4, .int (iZ x4)), (5, .int (iZ x5))]) [0, 1, 2, 3, 4] rfl ?_
            exact w_X8_makesLess_77 hX hE hk6 k_x0 r_x1 r_x2 r_x4 r_x5 r_x4 hR_m9 h
          · have h := ite_t h c11
            refine qn_aload_n hX (pc := 65) dX8_makesLess_65 0 rfl rfl ?_
            refine qn_iload hX (pc := 66) dX8_makesLess_66 4 rfl ?_
            refine qn_iconst hX (pc := 68) dX8_makesLess_68 ?_
            obtain ⟨v13, m12, e_m12, h⟩ := kb2_e h
            refine qn_callVi hX (pc := 69) [.int (iZ x5), .int (iZ 4)] [.int (iZ 4), .int (iZ x5)] 2 dX8_makesLess_69 gX8_makesLess_X8_ofOrder rfl dd_X8_ofOrder ⟨rfl, rfl⟩ rfl rfl (by decide) k_x0 rfl rfl hR_m9 (k_X8_ofOrder (xl X) hT k_x0 r_x5 (by decide) e_m12) (fun r_v13 hR_m12 => ?_)
            refine qn_goto hX (pc := 72) 77 dX8_makesLess_72 (by decide) ?_
            refine qn_sub (ls' := [(0, .ref x0), (1, .int (iZ x1)), (2, .int (iZ x2)), (4, .int (iZ x4)), (5, .int (iZ x5))]) [0, 1, 2, 3, 4] rfl ?_
            exact w_X8_makesLess_77 hX hE hk6 k_x0 r_x1 r_x2 r_x4 r_x5 r_v13 hR_m12 h
        · have h := ite_f h c8
          refine qn_sub (ls' := [(0, .ref x0), (1, .int (iZ x1)), (2, .int (iZ x2)), (4, .int (iZ x4)), (5, .int (iZ x5))]) [0, 1, 2, 3, 4] rfl ?_
          exact w_X8_makesLess_47 hX hE hk6 k_x0 r_x1 r_x2 r_x4 r_x5 hR_m6 h
set_option maxHeartbeats 4000000 in
set_option maxRecDepth 20000 in
theorem w_X8_makesLess_L6 {X : qB} {N : Nat} (hX : qOk X cX8_makesLess RX8 7 (some .int) wsX8_makesLess 2 45) {r : Int} {nu : qM} (hE : xr X = some (.int (iZ r)) ∧ (in32 r → xΦ X) ∧ xμ X = nu) 
    {x0 : Nat} {x1 : Int} {x2 : Int} {x4 : Int} {x5 : Int} (k_x0 : gK (xG X) x0 = 9) (r_x1 : in32 x1) (r_x2 : in32 x2) (r_x4 : in32 x4) (r_x5 : in32 x5) {m0 : qM} (hR_m0 : qR (xG X) m0)
    (h : f_X8_makesLess_L6 N (xG X)  x0 x1 x2 x4 x5 m0 = some (r, nu)) : qN X 7 6 [(0, .ref x0), (1, .int (iZ x1)), (2, .int (iZ x2)), (4, .int (iZ x4)), (5, .int (iZ x5))] [] m0 := by
  unfold f_X8_makesLess_L6 at h
  exact qLoop_w (σ := Nat × Int × Int × Int × Int × qM) (P := fun p => gK (xG X) p.1 = 9 ∧ in32 p.2.1 ∧ in32 p.2.2.1 ∧ in32 p.2.2.2.1 ∧ in32 p.2.2.2.2.1 ∧ qR (xG X) p.2.2.2.2.2) (Q := fun p => qN X 7 6 [(0, .ref p.1), (1, .int (iZ p.2.1)), (2, .int (iZ p.2.2.1)), (4, .int (iZ p.2.2.2.1)), (5, .int (iZ p.2.2.2.2.1))] [] p.2.2.2.2.2) (fun k hrec p hp hh => w_X8_makesLess_6 hX hE (fun x0 x1 x2 x4 x5 m0 q0 q1 q2 q3 q4 hRm hh => hrec (x0, x1, x2, x4, x5, m0) ⟨q0, q1, q2, q3, q4, hRm⟩ hh) hp.1 hp.2.1 hp.2.2.1 hp.2.2.2.1 hp.2.2.2.2.1 hp.2.2.2.2.2 hh) N (x0, x1, x2, x4, x5, m0) ⟨k_x0, r_x1, r_x2, r_x4, r_x5, hR_m0⟩ h
set_option maxHeartbeats 4000000 in
set_option maxRecDepth 20000 in
theorem w_X8_makesLess {X : qB} {N : Nat} (hX : qOk X cX8_makesLess RX8 7 (some .int) wsX8_makesLess 2 45) {r : Int} {nu : qM} (hE : xr X = some (.int (iZ r)) ∧ (in32 r → xΦ X) ∧ xμ X = nu) 
    {x0 : Nat} {x1 : Int} {x2 : Int} {x3 : Int} (k_x0 : gK (xG X) x0 = 9) (r_x1 : in32 x1) (r_x2 : in32 x2) (r_x3 : in32 x3) {m0 : qM} (hR_m0 : qR (xG X) m0)
    (h : f_X8_makesLess N (xG X)  x0 x1 x2 x3 m0 = some (r, nu)) : qN X 7 0 [(0, .ref x0), (1, .int (iZ x1)), (2, .int (iZ x2)), (3, .int (iZ x3))] [] m0 := by
  have hT := hX.T
  unfold f_X8_makesLess at h
  refine qn_iload_n hX (pc := 0) dX8_makesLess_0 3 rfl rfl ?_
  refine qn_istore hX (pc := 1) (ls' := [(4, .int (iZ x3)), (0, .ref x0), (1, .int (iZ x1)), (2, .int (iZ x2)), (3, .int (iZ x3))]) dX8_makesLess_1 rfl rfl ?_
  refine qn_iconst hX (pc := 3) dX8_makesLess_3 ?_
  refine qn_istore hX (pc := 4) (ls' := [(5, .int (iZ 0)), (4, .int (iZ x3)), (0, .ref x0), (1, .int (iZ x1)), (2, .int (iZ x2)), (3, .int (iZ x3))]) dX8_makesLess_4 rfl rfl ?_
  refine qn_sub (ls' := [(0, .ref x0), (1, .int (iZ x1)), (2, .int (iZ x2)), (4, .int (iZ x3)), (5, .int (iZ 0))]) [2, 3, 4, 1, 0] rfl ?_
  exact w_X8_makesLess_L6 hX hE  k_x0 r_x1 r_x2 r_x3 (by decide) hR_m0 h
theorem k_X8_makesLess (l : Launch) {G : qG} (hT : qT G) {N : Nat} {x0 : Nat} {x1 : Int} {x2 : Int} {x3 : Int} (k_x0 : gK G x0 = 9) (r_x1 : in32 x1) (r_x2 : in32 x2) (r_x3 : in32 x3) {m0 : qM} {r : Int} {nu : qM} (h : f_X8_makesLess N G x0 x1 x2 x3 m0 = some (r, nu)) : qC l yX8_makesLess wsX8_makesLess 2 45 G [.ref x0, .int (iZ x1), .int (iZ x2), .int (iZ x3)] m0 (some (.int (iZ r))) (in32 r) nu := by
  refine qn_start (hy := by decide) hT (hw := rfl) (hn := Nat.le_of_ble_eq_true rfl) ?_
  intro X h1 h2 h3 h4 hX hR
  subst h4
  exact w_X8_makesLess hX ⟨h1, fun q => h2 ▸ q, h3⟩ k_x0 r_x1 r_x2 r_x3 hR h
theorem dd_X8_makesLess : yX8_makesLess.cls = RX8 ∧ yX8_makesLess.cls ≠ "java/lang/invoke/MethodHandle" ∧ yX8_makesLess.cls ≠ "java/lang/invoke/VarHandle" ∧ (parseMethodDescriptor yX8_makesLess.desc).map (fun d => d.parameters.length) = some 3 := by decide +kernel
-- ProRataMarketModel.sizesAt
theorem hi_X8_sizesAt_8 : ∀ w ∈ wsX80, w ∈ wsX8_sizesAt := fun w h => List.mem_cons_of_mem _ (List.mem_append_right _ h)
theorem fd_X8_sizesAt_7 : qFd RX8 wsX8_sizesAt 7 8 0 1 800 := ⟨RX8, TX8, 32, _, rfl, hi_X8_sizesAt_8, by decide, (by decide +kernel : Cond.fieldLink RX8 7 (TX8 0).1 (TX8 0).2.1 (TX8 0).2.2.1 ∈ wsX8_sizesAt), rfl, rfl, by decide⟩
set_option maxHeartbeats 4000000 in
set_option maxRecDepth 20000 in
theorem w_X8_sizesAt_37 {X : qB} {N : Nat} (hX : qOk X cX8_sizesAt RX8 5 (some .int) wsX8_sizesAt 2 45) {r : Int} {nu : qM} (hE : xr X = some (.int (iZ r)) ∧ (in32 r → xΦ X) ∧ xμ X = nu) {k5 : (Nat → Int → Int → Int → Int → qM → Option (Int × qM))} (hk5 : ∀ (x0 : Nat) (x1 : Int) (x2 : Int) (x3 : Int) (x4 : Int) (m0 : qM), gK (xG X) x0 = 9 → in32 x1 → in32 x2 → in32 x3 → in32 x4 → qR (xG X) m0 → k5 x0 x1 x2 x3 x4 m0 = some (r, nu) → qN X 5 5 [(0, .ref x0), (1, .int (iZ x1)), (2, .int (iZ x2)), (3, .int (iZ x3)), (4, .int (iZ x4))] [] m0)
    {x0 : Nat} {x1 : Int} {x2 : Int} {x3 : Int} {x4 : Int} (k_x0 : gK (xG X) x0 = 9) (r_x1 : in32 x1) (r_x2 : in32 x2) (r_x3 : in32 x3) (r_x4 : in32 x4) {m0 : qM} (hR_m0 : qR (xG X) m0)
    (h : f_X8_sizesAt_37 N (xG X) k5 x0 x1 x2 x3 x4 m0 = some (r, nu)) : qN X 5 37 [(0, .ref x0), (1, .int (iZ x1)), (2, .int (iZ x2)), (3, .int (iZ x3)), (4, .int (iZ x4))] [] m0 := by
  have hT := hX.T
  unfold f_X8_sizesAt_37 at h
  obtain ⟨v1, e_v1, r_v1, h⟩ := ckI_e h
  refine qn_iinc hX (pc := 37) (ls' := [(4, .int (iZ v1)), (0, .ref x0), (1, .int (iZ x1)), (2, .int (iZ x2)), (3, .int (iZ x3))]) dX8_sizesAt_37 4 rfl e_v1 rfl rfl ?_
  refine qn_goto hX (pc := 40) 5 dX8_sizesAt_40 (by decide) ?_
  refine qn_sub (ls' := [(0, .ref x0), (1, .int (iZ x1)), (2, .int (iZ x2)), (3, .int (iZ x3)), (4, .int (iZ v1))]) [1, 2, 3, 4, 0] rfl ?_
  exact hk5 x0 x1 x2 x3 v1 m0 k_x0 r_x1 r_x2 r_x3 r_v1 hR_m0 h
set_option maxHeartbeats 4000000 in
set_option maxRecDepth 20000 in
theorem w_X8_sizesAt_5 {X : qB} {N : Nat} (hX : qOk X cX8_sizesAt RX8 5 (some .int) wsX8_sizesAt 2 45) {r : Int} {nu : qM} (hE : xr X = some (.int (iZ r)) ∧ (in32 r → xΦ X) ∧ xμ X = nu) {k5 : (Nat → Int → Int → Int → Int → qM → Option (Int × qM))} (hk5 : ∀ (x0 : Nat) (x1 : Int) (x2 : Int) (x3 : Int) (x4 : Int) (m0 : qM), gK (xG X) x0 = 9 → in32 x1 → in32 x2 → in32 x3 → in32 x4 → qR (xG X) m0 → k5 x0 x1 x2 x3 x4 m0 = some (r, nu) → qN X 5 5 [(0, .ref x0), (1, .int (iZ x1)), (2, .int (iZ x2)), (3, .int (iZ x3)), (4, .int (iZ x4))] [] m0)
    {x0 : Nat} {x1 : Int} {x2 : Int} {x3 : Int} {x4 : Int} (k_x0 : gK (xG X) x0 = 9) (r_x1 : in32 x1) (r_x2 : in32 x2) (r_x3 : in32 x3) (r_x4 : in32 x4) {m0 : qM} (hR_m0 : qR (xG X) m0)
    (h : f_X8_sizesAt_5 N (xG X) k5 x0 x1 x2 x3 x4 m0 = some (r, nu)) : qN X 5 5 [(0, .ref x0), (1, .int (iZ x1)), (2, .int (iZ x2)), (3, .int (iZ x3)), (4, .int (iZ x4))] [] m0 := by
  have hT := hX.T
  unfold f_X8_sizesAt_5 at h
  refine qn_iload hX (pc := 5) dX8_sizesAt_5 4 rfl ?_
  refine qn_aload_n hX (pc := 7) dX8_sizesAt_7 0 rfl rfl ?_
  refine qn_getR hX (pc := 8) fd_X8_sizesAt_7 dX8_sizesAt_8 k_x0 ?_
  refine qn_iconst hX (pc := 11) dX8_sizesAt_11 ?_
  refine qn_iald hX (pc := 12) (v := gA m0 (gR (xG X) 800 x0) 5) 684 dX8_sizesAt_12 (qr_800 hT k_x0) (by decide) (by decide) rfl ?_
  refine qn_icmp_ge hX (pc := 13) r_x4 (hR_m0.a (n := 684) _ (qr_800 hT k_x0) (by decide)) 43 dX8_sizesAt_13 (by decide) (fun c1 => ?_) (fun c1 => ?_)
  · have h := ite_f h c1
    refine qn_iload_n hX (pc := 43) dX8_sizesAt_43 3 rfl rfl ?_
    exact qn_iret hX (pc := 44) dX8_sizesAt_44 hE hR_m0 r_x3 (Option.some.inj h)
  · have h := ite_t h c1
    refine qn_aload_n hX (pc := 16) dX8_sizesAt_16 0 rfl rfl ?_
    refine qn_iload hX (pc := 17) dX8_sizesAt_17 4 rfl ?_
    refine qn_iload_n hX (pc := 19) dX8_sizesAt_19 1 rfl rfl ?_
    refine qn_iload_n hX (pc := 20) dX8_sizesAt_20 2 rfl rfl ?_
    obtain ⟨v3, m2, e_m2, h⟩ := kb2_e h
    refine qn_callVi hX (pc := 21) [.int (iZ x4), .int (iZ x1), .int (iZ x2)] [.int (iZ x2), .int (iZ x1), .int (iZ x4)] 3 dX8_sizesAt_21 gX8_sizesAt_X8_isAt rfl dd_X8_isAt ⟨rfl, rfl⟩ rfl rfl (by decide) k_x0 rfl rfl hR_m0 (k_X8_isAt (xl X) hT k_x0 r_x4 r_x1 r_x2 e_m2) (fun r_v3 hR_m2 => ?_)
    refine qn_if_eq hX (pc := 24) r_v3.i 37 dX8_sizesAt_24 (by decide) (fun c4 => ?_) (fun c4 => ?_)
    · have h := ite_t h c4
      refine qn_sub (ls' := [(0, .ref x0), (1, .int (iZ x1)), (2, .int (iZ x2)), (3, .int (iZ x3)), (4, .int (iZ x4))]) [0, 1, 2, 3, 4] rfl ?_
      exact w_X8_sizesAt_37 hX hE hk5 k_x0 r_x1 r_x2 r_x3 r_x4 hR_m2 h
    · have h := ite_f h c4
      refine qn_iload_n hX (pc := 27) dX8_sizesAt_27 3 rfl rfl ?_
      refine qn_aload_n hX (pc := 28) dX8_sizesAt_28 0 rfl rfl ?_
      refine qn_iload hX (pc := 29) dX8_sizesAt_29 4 rfl ?_
      refine qn_iconst hX (pc := 31) dX8_sizesAt_31 ?_
      obtain ⟨v6, m5, e_m5, h⟩ := kb2_e h
      refine qn_callVi hX (pc := 32) [.int (iZ x4), .int (iZ 4)] [.int (iZ 4), .int (iZ x4)] 2 dX8_sizesAt_32 gX8_sizesAt_X8_ofOrder rfl dd_X8_ofOrder ⟨rfl, rfl⟩ rfl rfl (by decide) k_x0 rfl rfl hR_m2 (k_X8_ofOrder (xl X) hT k_x0 r_x4 (by decide) e_m5) (fun r_v6 hR_m5 => ?_)
      obtain ⟨v7, e_v7, r_v7, h⟩ := ckI_e h
      refine qn_iadd hX (pc := 35) dX8_sizesAt_35 e_v7 ?_
      refine qn_istore_n hX (pc := 36) (ls' := [(3, .int (iZ v7)), (0, .ref x0), (1, .int (iZ x1)), (2, .int (iZ x2)), (4, .int (iZ x4))]) dX8_sizesAt_36 rfl rfl rfl ?_
      refine qn_sub (ls' := [(0, .ref x0), (1, .int (iZ x1)), (2, .int (iZ x2)), (3, .int (iZ v7)), (4, .int (iZ x4))]) [1, 2, 3, 0, 4] rfl ?_
      exact w_X8_sizesAt_37 hX hE hk5 k_x0 r_x1 r_x2 r_v7 r_x4 hR_m5 h
set_option maxHeartbeats 4000000 in
set_option maxRecDepth 20000 in
theorem w_X8_sizesAt_L5 {X : qB} {N : Nat} (hX : qOk X cX8_sizesAt RX8 5 (some .int) wsX8_sizesAt 2 45) {r : Int} {nu : qM} (hE : xr X = some (.int (iZ r)) ∧ (in32 r → xΦ X) ∧ xμ X = nu) 
    {x0 : Nat} {x1 : Int} {x2 : Int} {x3 : Int} {x4 : Int} (k_x0 : gK (xG X) x0 = 9) (r_x1 : in32 x1) (r_x2 : in32 x2) (r_x3 : in32 x3) (r_x4 : in32 x4) {m0 : qM} (hR_m0 : qR (xG X) m0)
    (h : f_X8_sizesAt_L5 N (xG X)  x0 x1 x2 x3 x4 m0 = some (r, nu)) : qN X 5 5 [(0, .ref x0), (1, .int (iZ x1)), (2, .int (iZ x2)), (3, .int (iZ x3)), (4, .int (iZ x4))] [] m0 := by
  unfold f_X8_sizesAt_L5 at h
  exact qLoop_w (σ := Nat × Int × Int × Int × Int × qM) (P := fun p => gK (xG X) p.1 = 9 ∧ in32 p.2.1 ∧ in32 p.2.2.1 ∧ in32 p.2.2.2.1 ∧ in32 p.2.2.2.2.1 ∧ qR (xG X) p.2.2.2.2.2) (Q := fun p => qN X 5 5 [(0, .ref p.1), (1, .int (iZ p.2.1)), (2, .int (iZ p.2.2.1)), (3, .int (iZ p.2.2.2.1)), (4, .int (iZ p.2.2.2.2.1))] [] p.2.2.2.2.2) (fun k hrec p hp hh => w_X8_sizesAt_5 hX hE (fun x0 x1 x2 x3 x4 m0 q0 q1 q2 q3 q4 hRm hh => hrec (x0, x1, x2, x3, x4, m0) ⟨q0, q1, q2, q3, q4, hRm⟩ hh) hp.1 hp.2.1 hp.2.2.1 hp.2.2.2.1 hp.2.2.2.2.1 hp.2.2.2.2.2 hh) N (x0, x1, x2, x3, x4, m0) ⟨k_x0, r_x1, r_x2, r_x3, r_x4, hR_m0⟩ h
set_option maxHeartbeats 4000000 in
set_option maxRecDepth 20000 in
theorem w_X8_sizesAt {X : qB} {N : Nat} (hX : qOk X cX8_sizesAt RX8 5 (some .int) wsX8_sizesAt 2 45) {r : Int} {nu : qM} (hE : xr X = some (.int (iZ r)) ∧ (in32 r → xΦ X) ∧ xμ X = nu) 
    {x0 : Nat} {x1 : Int} {x2 : Int} (k_x0 : gK (xG X) x0 = 9) (r_x1 : in32 x1) (r_x2 : in32 x2) {m0 : qM} (hR_m0 : qR (xG X) m0)
    (h : f_X8_sizesAt N (xG X)  x0 x1 x2 m0 = some (r, nu)) : qN X 5 0 [(0, .ref x0), (1, .int (iZ x1)), (2, .int (iZ x2))] [] m0 := by
  have hT := hX.T
  unfold f_X8_sizesAt at h
  refine qn_iconst hX (pc := 0) dX8_sizesAt_0 ?_
  refine qn_istore_n hX (pc := 1) (ls' := [(3, .int (iZ 0)), (0, .ref x0), (1, .int (iZ x1)), (2, .int (iZ x2))]) dX8_sizesAt_1 rfl rfl rfl ?_
  refine qn_iconst hX (pc := 2) dX8_sizesAt_2 ?_
  refine qn_istore hX (pc := 3) (ls' := [(4, .int (iZ 0)), (3, .int (iZ 0)), (0, .ref x0), (1, .int (iZ x1)), (2, .int (iZ x2))]) dX8_sizesAt_3 rfl rfl ?_
  refine qn_sub (ls' := [(0, .ref x0), (1, .int (iZ x1)), (2, .int (iZ x2)), (3, .int (iZ 0)), (4, .int (iZ 0))]) [2, 3, 4, 1, 0] rfl ?_
  exact w_X8_sizesAt_L5 hX hE  k_x0 r_x1 r_x2 (by decide) (by decide) hR_m0 h
theorem k_X8_sizesAt (l : Launch) {G : qG} (hT : qT G) {N : Nat} {x0 : Nat} {x1 : Int} {x2 : Int} (k_x0 : gK G x0 = 9) (r_x1 : in32 x1) (r_x2 : in32 x2) {m0 : qM} {r : Int} {nu : qM} (h : f_X8_sizesAt N G x0 x1 x2 m0 = some (r, nu)) : qC l yX8_sizesAt wsX8_sizesAt 2 45 G [.ref x0, .int (iZ x1), .int (iZ x2)] m0 (some (.int (iZ r))) (in32 r) nu := by
  refine qn_start (hy := by decide) hT (hw := rfl) (hn := Nat.le_of_ble_eq_true rfl) ?_
  intro X h1 h2 h3 h4 hX hR
  subst h4
  exact w_X8_sizesAt hX ⟨h1, fun q => h2 ▸ q, h3⟩ k_x0 r_x1 r_x2 hR h
theorem dd_X8_sizesAt : yX8_sizesAt.cls = RX8 ∧ yX8_sizesAt.cls ≠ "java/lang/invoke/MethodHandle" ∧ yX8_sizesAt.cls ≠ "java/lang/invoke/VarHandle" ∧ (parseMethodDescriptor yX8_sizesAt.desc).map (fun d => d.parameters.length) = some 2 := by decide +kernel
-- ProRataMarketModel.lays
theorem hi_X8_lays_8 : ∀ w ∈ wsX80, w ∈ wsX8_lays := fun w h => List.mem_cons_of_mem _ (List.mem_append_right _ h)
theorem fd_X8_lays_7 : qFd RX8 wsX8_lays 7 8 0 1 800 := ⟨RX8, TX8, 32, _, rfl, hi_X8_lays_8, by decide, (by decide +kernel : Cond.fieldLink RX8 7 (TX8 0).1 (TX8 0).2.1 (TX8 0).2.2.1 ∈ wsX8_lays), rfl, rfl, by decide⟩
theorem fd_X8_lays_23 : qFd RX8 wsX8_lays 23 8 6 1 806 := ⟨RX8, TX8, 32, _, rfl, hi_X8_lays_8, by decide, (by decide +kernel : Cond.fieldLink RX8 23 (TX8 6).1 (TX8 6).2.1 (TX8 6).2.2.1 ∈ wsX8_lays), rfl, rfl, by decide⟩
theorem fd_X8_lays_68 : qFd RX8 wsX8_lays 68 8 5 0 805 := ⟨RX8, TX8, 32, _, rfl, hi_X8_lays_8, by decide, (by decide +kernel : Cond.fieldLink RX8 68 (TX8 5).1 (TX8 5).2.1 (TX8 5).2.2.1 ∈ wsX8_lays), rfl, rfl, by decide⟩
theorem fd_X8_lays_26 : qFd RX8 wsX8_lays 26 8 7 1 807 := ⟨RX8, TX8, 32, _, rfl, hi_X8_lays_8, by decide, (by decide +kernel : Cond.fieldLink RX8 26 (TX8 7).1 (TX8 7).2.1 (TX8 7).2.2.1 ∈ wsX8_lays), rfl, rfl, by decide⟩
theorem fp_X8_lays_68 : qFp RX8 wsX8_lays 68 8 5 0 805 .int := ⟨RX8, TX8, 32, _, tyX8, rfl, hi_X8_lays_8, by decide, (by decide +kernel : Cond.fieldLink RX8 68 (TX8 5).1 (TX8 5).2.1 (TX8 5).2.2.1 ∈ wsX8_lays), rfl, rfl, by decide, tyX8_ok, nmX8, rfl, by decide +kernel⟩
set_option maxHeartbeats 4000000 in
set_option maxRecDepth 20000 in
theorem w_X8_lays_65 {X : qB} {N : Nat} (hX : qOk X cX8_lays RX8 4 none wsX8_lays 2 45) {r : qM} (hE : xr X = none ∧ (True → xΦ X) ∧ xμ X = r) {k7 : (Nat → Int → Int → Int → qM → Option (qM))} (hk7 : ∀ (x0 : Nat) (x1 : Int) (x2 : Int) (x3 : Int) (m0 : qM), gK (xG X) x0 = 9 → in32 x1 → in32 x2 → in32 x3 → qR (xG X) m0 → k7 x0 x1 x2 x3 m0 = some r → qN X 4 7 [(0, .ref x0), (1, .int (iZ x1)), (2, .int (iZ x2)), (3, .int (iZ x3))] [] m0)
    {x0 : Nat} {x1 : Int} {x2 : Int} {x3 : Int} (k_x0 : gK (xG X) x0 = 9) (r_x1 : in32 x1) (r_x2 : in32 x2) (r_x3 : in32 x3) {m0 : qM} (hR_m0 : qR (xG X) m0)
    (h : f_X8_lays_65 N (xG X) k7 x0 x1 x2 x3 m0 = some r) : qN X 4 65 [(0, .ref x0), (1, .int (iZ x1)), (2, .int (iZ x2)), (3, .int (iZ x3))] [] m0 := by
  have hT := hX.T
  unfold f_X8_lays_65 at h
  obtain ⟨v1, e_v1, r_v1, h⟩ := ckI_e h
  refine qn_iinc hX (pc := 65) (ls' := [(3, .int (iZ v1)), (0, .ref x0), (1, .int (iZ x1)), (2, .int (iZ x2))]) dX8_lays_65 3 rfl e_v1 rfl rfl ?_
  refine qn_goto hX (pc := 68) 7 dX8_lays_68 (by decide) ?_
  refine qn_sub (ls' := [(0, .ref x0), (1, .int (iZ x1)), (2, .int (iZ x2)), (3, .int (iZ v1))]) [1, 2, 3, 0] rfl ?_
  exact hk7 x0 x1 x2 v1 m0 k_x0 r_x1 r_x2 r_v1 hR_m0 h
set_option maxHeartbeats 4000000 in
set_option maxRecDepth 20000 in
theorem w_X8_lays_7 {X : qB} {N : Nat} (hX : qOk X cX8_lays RX8 4 none wsX8_lays 2 45) {r : qM} (hE : xr X = none ∧ (True → xΦ X) ∧ xμ X = r) {k7 : (Nat → Int → Int → Int → qM → Option (qM))} (hk7 : ∀ (x0 : Nat) (x1 : Int) (x2 : Int) (x3 : Int) (m0 : qM), gK (xG X) x0 = 9 → in32 x1 → in32 x2 → in32 x3 → qR (xG X) m0 → k7 x0 x1 x2 x3 m0 = some r → qN X 4 7 [(0, .ref x0), (1, .int (iZ x1)), (2, .int (iZ x2)), (3, .int (iZ x3))] [] m0)
    {x0 : Nat} {x1 : Int} {x2 : Int} {x3 : Int} (k_x0 : gK (xG X) x0 = 9) (r_x1 : in32 x1) (r_x2 : in32 x2) (r_x3 : in32 x3) {m0 : qM} (hR_m0 : qR (xG X) m0)
    (h : f_X8_lays_7 N (xG X) k7 x0 x1 x2 x3 m0 = some r) : qN X 4 7 [(0, .ref x0), (1, .int (iZ x1)), (2, .int (iZ x2)), (3, .int (iZ x3))] [] m0 := by
  have hT := hX.T
  unfold f_X8_lays_7 at h
  refine qn_iload_n hX (pc := 7) dX8_lays_7 3 rfl rfl ?_
  refine qn_aload_n hX (pc := 8) dX8_lays_8 0 rfl rfl ?_
  refine qn_getR hX (pc := 9) fd_X8_lays_7 dX8_lays_9 k_x0 ?_
  refine qn_iconst hX (pc := 12) dX8_lays_12 ?_
  refine qn_iald hX (pc := 13) (v := gA m0 (gR (xG X) 800 x0) 5) 684 dX8_lays_13 (qr_800 hT k_x0) (by decide) (by decide) rfl ?_
  refine qn_icmp_ge hX (pc := 14) r_x3 (hR_m0.a (n := 684) _ (qr_800 hT k_x0) (by decide)) 71 dX8_lays_14 (by decide) (fun c1 => ?_) (fun c1 => ?_)
  · have h := ite_f h c1
    exact qn_vret hX (pc := 71) dX8_lays_71 hE hR_m0 (Option.some.inj h)
  · have h := ite_t h c1
    refine qn_aload_n hX (pc := 17) dX8_lays_17 0 rfl rfl ?_
    refine qn_iload_n hX (pc := 18) dX8_lays_18 3 rfl rfl ?_
    refine qn_iload_n hX (pc := 19) dX8_lays_19 1 rfl rfl ?_
    refine qn_iload_n hX (pc := 20) dX8_lays_20 2 rfl rfl ?_
    obtain ⟨v3, m2, e_m2, h⟩ := kb2_e h
    refine qn_callVi hX (pc := 21) [.int (iZ x3), .int (iZ x1), .int (iZ x2)] [.int (iZ x2), .int (iZ x1), .int (iZ x3)] 3 dX8_lays_21 gX8_lays_X8_isAt rfl dd_X8_isAt ⟨rfl, rfl⟩ rfl rfl (by decide) k_x0 rfl rfl hR_m0 (k_X8_isAt (xl X) hT k_x0 r_x3 r_x1 r_x2 e_m2) (fun r_v3 hR_m2 => ?_)
    refine qn_if_ne hX (pc := 24) r_v3.i 30 dX8_lays_24 (by decide) (fun c4 => ?_) (fun c4 => ?_)
    · have h := ite_f h c4
      refine qn_aload_n hX (pc := 30) dX8_lays_30 0 rfl rfl ?_
      refine qn_getR hX (pc := 31) fd_X8_lays_23 dX8_lays_31 k_x0 ?_
      refine qn_aload_n hX (pc := 34) dX8_lays_34 0 rfl rfl ?_
      refine qn_getI hX (pc := 35) fd_X8_lays_68 dX8_lays_35 k_x0 ?_
      refine qn_iload_n hX (pc := 38) dX8_lays_38 3 rfl rfl ?_
      obtain ⟨m5, e_m5, b_m5, h⟩ := wrA_e h
      refine qn_iast hX (pc := 39) 70 dX8_lays_39 (qr_806 hT k_x0) (by decide) b_m5 hR_m2 r_x3 e_m5 (fun hR_m5 => ?_) 
      refine qn_aload_n hX (pc := 40) dX8_lays_40 0 rfl rfl ?_
      refine qn_getR hX (pc := 41) fd_X8_lays_26 dX8_lays_41 k_x0 ?_
      refine qn_aload_n hX (pc := 44) dX8_lays_44 0 rfl rfl ?_
      refine qn_getI hX (pc := 45) fd_X8_lays_68 dX8_lays_45 k_x0 ?_
      refine qn_aload_n hX (pc := 48) dX8_lays_48 0 rfl rfl ?_
      refine qn_iload_n hX (pc := 49) dX8_lays_49 3 rfl rfl ?_
      refine qn_iconst hX (pc := 50) dX8_lays_50 ?_
      obtain ⟨v7, m6, e_m6, h⟩ := kb2_e h
      refine qn_callVi hX (pc := 51) [.int (iZ x3), .int (iZ 4)] [.int (iZ 4), .int (iZ x3)] 2 dX8_lays_51 gX8_lays_X8_ofOrder rfl dd_X8_ofOrder ⟨rfl, rfl⟩ rfl rfl (by decide) k_x0 rfl rfl hR_m5 (k_X8_ofOrder (xl X) hT k_x0 r_x3 (by decide) e_m6) (fun r_v7 hR_m6 => ?_)
      obtain ⟨m8, e_m8, b_m8, h⟩ := wrA_e h
      refine qn_iast hX (pc := 54) 70 dX8_lays_54 (qr_807 hT k_x0) (by decide) b_m8 hR_m6 r_v7 e_m8 (fun hR_m8 => ?_) 
      refine qn_aload_n hX (pc := 55) dX8_lays_55 0 rfl rfl ?_
      refine qn_dup hX (pc := 56) dX8_lays_56 rfl ?_
      refine qn_getI hX (pc := 57) fd_X8_lays_68 dX8_lays_57 k_x0 ?_
      refine qn_iconst hX (pc := 60) dX8_lays_60 ?_
      obtain ⟨v9, e_v9, r_v9, h⟩ := ckI_e h
      refine qn_iadd hX (pc := 61) dX8_lays_61 e_v9 ?_
      obtain ⟨m10, e_m10, h⟩ := kp_e h
      refine qn_putI hX (pc := 62) fp_X8_lays_68 dX8_lays_62 k_x0 hR_m8 r_v9 e_m10 (fun hR_m10 => ?_) 
      refine qn_sub (ls' := [(0, .ref x0), (1, .int (iZ x1)), (2, .int (iZ x2)), (3, .int (iZ x3))]) [0, 1, 2, 3] rfl ?_
      exact w_X8_lays_65 hX hE hk7 k_x0 r_x1 r_x2 r_x3 hR_m10 h
    · have h := ite_t h c4
      refine qn_goto hX (pc := 27) 65 dX8_lays_27 (by decide) ?_
      refine qn_sub (ls' := [(0, .ref x0), (1, .int (iZ x1)), (2, .int (iZ x2)), (3, .int (iZ x3))]) [0, 1, 2, 3] rfl ?_
      exact w_X8_lays_65 hX hE hk7 k_x0 r_x1 r_x2 r_x3 hR_m2 h
set_option maxHeartbeats 4000000 in
set_option maxRecDepth 20000 in
theorem w_X8_lays_L7 {X : qB} {N : Nat} (hX : qOk X cX8_lays RX8 4 none wsX8_lays 2 45) {r : qM} (hE : xr X = none ∧ (True → xΦ X) ∧ xμ X = r) 
    {x0 : Nat} {x1 : Int} {x2 : Int} {x3 : Int} (k_x0 : gK (xG X) x0 = 9) (r_x1 : in32 x1) (r_x2 : in32 x2) (r_x3 : in32 x3) {m0 : qM} (hR_m0 : qR (xG X) m0)
    (h : f_X8_lays_L7 N (xG X)  x0 x1 x2 x3 m0 = some r) : qN X 4 7 [(0, .ref x0), (1, .int (iZ x1)), (2, .int (iZ x2)), (3, .int (iZ x3))] [] m0 := by
  unfold f_X8_lays_L7 at h
  exact qLoop_w (σ := Nat × Int × Int × Int × qM) (P := fun p => gK (xG X) p.1 = 9 ∧ in32 p.2.1 ∧ in32 p.2.2.1 ∧ in32 p.2.2.2.1 ∧ qR (xG X) p.2.2.2.2) (Q := fun p => qN X 4 7 [(0, .ref p.1), (1, .int (iZ p.2.1)), (2, .int (iZ p.2.2.1)), (3, .int (iZ p.2.2.2.1))] [] p.2.2.2.2) (fun k hrec p hp hh => w_X8_lays_7 hX hE (fun x0 x1 x2 x3 m0 q0 q1 q2 q3 hRm hh => hrec (x0, x1, x2, x3, m0) ⟨q0, q1, q2, q3, hRm⟩ hh) hp.1 hp.2.1 hp.2.2.1 hp.2.2.2.1 hp.2.2.2.2 hh) N (x0, x1, x2, x3, m0) ⟨k_x0, r_x1, r_x2, r_x3, hR_m0⟩ h
set_option maxHeartbeats 4000000 in
set_option maxRecDepth 20000 in
theorem w_X8_lays {X : qB} {N : Nat} (hX : qOk X cX8_lays RX8 4 none wsX8_lays 2 45) {r : qM} (hE : xr X = none ∧ (True → xΦ X) ∧ xμ X = r) 
    {x0 : Nat} {x1 : Int} {x2 : Int} (k_x0 : gK (xG X) x0 = 9) (r_x1 : in32 x1) (r_x2 : in32 x2) {m0 : qM} (hR_m0 : qR (xG X) m0)
    (h : f_X8_lays N (xG X)  x0 x1 x2 m0 = some r) : qN X 4 0 [(0, .ref x0), (1, .int (iZ x1)), (2, .int (iZ x2))] [] m0 := by
  have hT := hX.T
  unfold f_X8_lays at h
  refine qn_aload_n hX (pc := 0) dX8_lays_0 0 rfl rfl ?_
  refine qn_iconst hX (pc := 1) dX8_lays_1 ?_
  obtain ⟨m1, e_m1, h⟩ := kp_e h
  refine qn_putI hX (pc := 2) fp_X8_lays_68 dX8_lays_2 k_x0 hR_m0 (show in32 0 by decide) e_m1 (fun hR_m1 => ?_) 
  refine qn_iconst hX (pc := 5) dX8_lays_5 ?_
  refine qn_istore_n hX (pc := 6) (ls' := [(3, .int (iZ 0)), (0, .ref x0), (1, .int (iZ x1)), (2, .int (iZ x2))]) dX8_lays_6 rfl rfl rfl ?_
  refine qn_sub (ls' := [(0, .ref x0), (1, .int (iZ x1)), (2, .int (iZ x2)), (3, .int (iZ 0))]) [1, 2, 3, 0] rfl ?_
  exact w_X8_lays_L7 hX hE  k_x0 r_x1 r_x2 (by decide) hR_m1 h
theorem k_X8_lays (l : Launch) {G : qG} (hT : qT G) {N : Nat} {x0 : Nat} {x1 : Int} {x2 : Int} (k_x0 : gK G x0 = 9) (r_x1 : in32 x1) (r_x2 : in32 x2) {m0 : qM} {r : qM} (h : f_X8_lays N G x0 x1 x2 m0 = some r) : qC l yX8_lays wsX8_lays 2 45 G [.ref x0, .int (iZ x1), .int (iZ x2)] m0 none True r := by
  refine qn_start (hy := by decide) hT (hw := rfl) (hn := Nat.le_of_ble_eq_true rfl) ?_
  intro X h1 h2 h3 h4 hX hR
  subst h4
  exact w_X8_lays hX ⟨h1, fun q => h2 ▸ q, h3⟩ k_x0 r_x1 r_x2 hR h
theorem dd_X8_lays : yX8_lays.cls = RX8 ∧ yX8_lays.cls ≠ "java/lang/invoke/MethodHandle" ∧ yX8_lays.cls ≠ "java/lang/invoke/VarHandle" ∧ (parseMethodDescriptor yX8_lays.desc).map (fun d => d.parameters.length) = some 2 := by decide +kernel
-- ProRataMarketModel.topLaid
theorem hi_X8_topLaid_8 : ∀ w ∈ wsX80, w ∈ wsX8_topLaid := fun w h => List.mem_cons_of_mem _ (List.mem_append_right _ h)
theorem fd_X8_topLaid_68 : qFd RX8 wsX8_topLaid 68 8 5 0 805 := ⟨RX8, TX8, 32, _, rfl, hi_X8_topLaid_8, by decide, (by decide +kernel : Cond.fieldLink RX8 68 (TX8 5).1 (TX8 5).2.1 (TX8 5).2.2.1 ∈ wsX8_topLaid), rfl, rfl, by decide⟩
theorem fd_X8_topLaid_23 : qFd RX8 wsX8_topLaid 23 8 6 1 806 := ⟨RX8, TX8, 32, _, rfl, hi_X8_topLaid_8, by decide, (by decide +kernel : Cond.fieldLink RX8 23 (TX8 6).1 (TX8 6).2.1 (TX8 6).2.2.1 ∈ wsX8_topLaid), rfl, rfl, by decide⟩
theorem fd_X8_topLaid_7 : qFd RX8 wsX8_topLaid 7 8 0 1 800 := ⟨RX8, TX8, 32, _, rfl, hi_X8_topLaid_8, by decide, (by decide +kernel : Cond.fieldLink RX8 7 (TX8 0).1 (TX8 0).2.1 (TX8 0).2.2.1 ∈ wsX8_topLaid), rfl, rfl, by decide⟩
set_option maxHeartbeats 4000000 in
set_option maxRecDepth 20000 in
theorem w_X8_topLaid_44 {X : qB} {N : Nat} (hX : qOk X cX8_topLaid RX8 3 (some .int) wsX8_topLaid 1 22) {r : Int} {nu : qM} (hE : xr X = some (.int (iZ r)) ∧ (in32 r → xΦ X) ∧ xμ X = nu) {k2 : (Nat → Int → Int → qM → Option (Int × qM))} (hk2 : ∀ (x0 : Nat) (x1 : Int) (x2 : Int) (m0 : qM), gK (xG X) x0 = 9 → in32 x1 → in32 x2 → qR (xG X) m0 → k2 x0 x1 x2 m0 = some (r, nu) → qN X 3 2 [(0, .ref x0), (1, .int (iZ x1)), (2, .int (iZ x2))] [] m0)
    {x0 : Nat} {x1 : Int} {x2 : Int} (k_x0 : gK (xG X) x0 = 9) (r_x1 : in32 x1) (r_x2 : in32 x2) {m0 : qM} (hR_m0 : qR (xG X) m0)
    (h : f_X8_topLaid_44 N (xG X) k2 x0 x1 x2 m0 = some (r, nu)) : qN X 3 44 [(0, .ref x0), (1, .int (iZ x1)), (2, .int (iZ x2))] [] m0 := by
  have hT := hX.T
  unfold f_X8_topLaid_44 at h
  obtain ⟨v1, e_v1, r_v1, h⟩ := ckI_e h
  refine qn_iinc hX (pc := 44) (ls' := [(2, .int (iZ v1)), (0, .ref x0), (1, .int (iZ x1))]) dX8_topLaid_44 2 rfl e_v1 rfl rfl ?_
  refine qn_goto hX (pc := 47) 2 dX8_topLaid_47 (by decide) ?_
  refine qn_sub (ls' := [(0, .ref x0), (1, .int (iZ x1)), (2, .int (iZ v1))]) [1, 2, 0] rfl ?_
  exact hk2 x0 x1 v1 m0 k_x0 r_x1 r_v1 hR_m0 h
set_option maxHeartbeats 4000000 in
set_option maxRecDepth 20000 in
theorem w_X8_topLaid_2 {X : qB} {N : Nat} (hX : qOk X cX8_topLaid RX8 3 (some .int) wsX8_topLaid 1 22) {r : Int} {nu : qM} (hE : xr X = some (.int (iZ r)) ∧ (in32 r → xΦ X) ∧ xμ X = nu) {k2 : (Nat → Int → Int → qM → Option (Int × qM))} (hk2 : ∀ (x0 : Nat) (x1 : Int) (x2 : Int) (m0 : qM), gK (xG X) x0 = 9 → in32 x1 → in32 x2 → qR (xG X) m0 → k2 x0 x1 x2 m0 = some (r, nu) → qN X 3 2 [(0, .ref x0), (1, .int (iZ x1)), (2, .int (iZ x2))] [] m0)
    {x0 : Nat} {x1 : Int} {x2 : Int} (k_x0 : gK (xG X) x0 = 9) (r_x1 : in32 x1) (r_x2 : in32 x2) {m0 : qM} (hR_m0 : qR (xG X) m0)
    (h : f_X8_topLaid_2 N (xG X) k2 x0 x1 x2 m0 = some (r, nu)) : qN X 3 2 [(0, .ref x0), (1, .int (iZ x1)), (2, .int (iZ x2))] [] m0 := by
  have hT := hX.T
  unfold f_X8_topLaid_2 at h
  refine qn_iload_n hX (pc := 2) dX8_topLaid_2 2 rfl rfl ?_
  refine qn_aload_n hX (pc := 3) dX8_topLaid_3 0 rfl rfl ?_
  refine qn_getI hX (pc := 4) fd_X8_topLaid_68 dX8_topLaid_4 k_x0 ?_
  refine qn_icmp_ge hX (pc := 7) r_x2 (hR_m0.i 805 _ rfl) 50 dX8_topLaid_7 (by decide) (fun c1 => ?_) (fun c1 => ?_)
  · have h := ite_f h c1
    refine qn_iconst hX (pc := 50) dX8_topLaid_50 ?_
    exact qn_iret hX (pc := 51) dX8_topLaid_51 hE hR_m0 (by decide) (Option.some.inj h)
  · have h := ite_t h c1
    refine qn_aload_n hX (pc := 10) dX8_topLaid_10 0 rfl rfl ?_
    refine qn_getR hX (pc := 11) fd_X8_topLaid_23 dX8_topLaid_11 k_x0 ?_
    refine qn_iload_n hX (pc := 14) dX8_topLaid_14 2 rfl rfl ?_
    obtain ⟨v2, e_v2, b_v2, h⟩ := rdA_e h
    have r_v2 : in32 v2 := by rw [e_v2]; exact hR_m0.a (n := 70) _ (qr_806 hT k_x0) (by decide)
    refine qn_iald hX (pc := 15) 70 dX8_topLaid_15 (qr_806 hT k_x0) (by decide) b_v2 e_v2 ?_
    refine qn_if_lt hX (pc := 16) r_v2 44 dX8_topLaid_16 (by decide) (fun c3 => ?_) (fun c3 => ?_)
    · have h := ite_t h c3
      refine qn_sub (ls' := [(0, .ref x0), (1, .int (iZ x1)), (2, .int (iZ x2))]) [0, 1, 2] rfl ?_
      exact w_X8_topLaid_44 hX hE hk2 k_x0 r_x1 r_x2 hR_m0 h
    · have h := ite_f h c3
      refine qn_aload_n hX (pc := 19) dX8_topLaid_19 0 rfl rfl ?_
      refine qn_aload_n hX (pc := 20) dX8_topLaid_20 0 rfl rfl ?_
      refine qn_getR hX (pc := 21) fd_X8_topLaid_23 dX8_topLaid_21 k_x0 ?_
      refine qn_iload_n hX (pc := 24) dX8_topLaid_24 2 rfl rfl ?_
      obtain ⟨v4, e_v4, b_v4, h⟩ := rdA_e h
      have r_v4 : in32 v4 := by rw [e_v4]; exact hR_m0.a (n := 70) _ (qr_806 hT k_x0) (by decide)
      refine qn_iald hX (pc := 25) 70 dX8_topLaid_25 (qr_806 hT k_x0) (by decide) b_v4 e_v4 ?_
      refine qn_iconst hX (pc := 26) dX8_topLaid_26 ?_
      obtain ⟨v6, m5, e_m5, h⟩ := kb2_e h
      refine qn_callVi hX (pc := 27) [.int (iZ v4), .int (iZ 0)] [.int (iZ 0), .int (iZ v4)] 2 dX8_topLaid_27 gX8_topLaid_X8_ofOrder rfl dd_X8_ofOrder ⟨rfl, rfl⟩ rfl rfl (by decide) k_x0 rfl rfl hR_m0 (k_X8_ofOrder (xl X) hT k_x0 r_v4 (by decide) e_m5) (fun r_v6 hR_m5 => ?_)
      refine qn_aload_n hX (pc := 30) dX8_topLaid_30 0 rfl rfl ?_
      refine qn_getR hX (pc := 31) fd_X8_topLaid_7 dX8_topLaid_31 k_x0 ?_
      refine qn_bipush hX (pc := 34) dX8_topLaid_34 (by decide) ?_
      refine qn_iload_n hX (pc := 36) dX8_topLaid_36 1 rfl rfl ?_
      obtain ⟨v7, e_v7, r_v7, h⟩ := ckI_e h
      refine qn_iadd hX (pc := 37) dX8_topLaid_37 e_v7 ?_
      obtain ⟨v8, e_v8, b_v8, h⟩ := rdA_e h
      have r_v8 : in32 v8 := by rw [e_v8]; exact hR_m5.a (n := 684) _ (qr_800 hT k_x0) (by decide)
      refine qn_iald hX (pc := 38) 684 dX8_topLaid_38 (qr_800 hT k_x0) (by decide) b_v8 e_v8 ?_
      refine qn_icmp_ne hX (pc := 39) r_v6 r_v8 44 dX8_topLaid_39 (by decide) (fun c9 => ?_) (fun c9 => ?_)
      · have h := ite_f h c9
        refine qn_sub (ls' := [(0, .ref x0), (1, .int (iZ x1)), (2, .int (iZ x2))]) [0, 1, 2] rfl ?_
        exact w_X8_topLaid_44 hX hE hk2 k_x0 r_x1 r_x2 hR_m5 h
      · have h := ite_t h c9
        refine qn_iload_n hX (pc := 42) dX8_topLaid_42 2 rfl rfl ?_
        exact qn_iret hX (pc := 43) dX8_topLaid_43 hE hR_m5 r_x2 (Option.some.inj h)
set_option maxHeartbeats 4000000 in
set_option maxRecDepth 20000 in
theorem w_X8_topLaid_L2 {X : qB} {N : Nat} (hX : qOk X cX8_topLaid RX8 3 (some .int) wsX8_topLaid 1 22) {r : Int} {nu : qM} (hE : xr X = some (.int (iZ r)) ∧ (in32 r → xΦ X) ∧ xμ X = nu) 
    {x0 : Nat} {x1 : Int} {x2 : Int} (k_x0 : gK (xG X) x0 = 9) (r_x1 : in32 x1) (r_x2 : in32 x2) {m0 : qM} (hR_m0 : qR (xG X) m0)
    (h : f_X8_topLaid_L2 N (xG X)  x0 x1 x2 m0 = some (r, nu)) : qN X 3 2 [(0, .ref x0), (1, .int (iZ x1)), (2, .int (iZ x2))] [] m0 := by
  unfold f_X8_topLaid_L2 at h
  exact qLoop_w (σ := Nat × Int × Int × qM) (P := fun p => gK (xG X) p.1 = 9 ∧ in32 p.2.1 ∧ in32 p.2.2.1 ∧ qR (xG X) p.2.2.2) (Q := fun p => qN X 3 2 [(0, .ref p.1), (1, .int (iZ p.2.1)), (2, .int (iZ p.2.2.1))] [] p.2.2.2) (fun k hrec p hp hh => w_X8_topLaid_2 hX hE (fun x0 x1 x2 m0 q0 q1 q2 hRm hh => hrec (x0, x1, x2, m0) ⟨q0, q1, q2, hRm⟩ hh) hp.1 hp.2.1 hp.2.2.1 hp.2.2.2 hh) N (x0, x1, x2, m0) ⟨k_x0, r_x1, r_x2, hR_m0⟩ h
set_option maxHeartbeats 4000000 in
set_option maxRecDepth 20000 in
theorem w_X8_topLaid {X : qB} {N : Nat} (hX : qOk X cX8_topLaid RX8 3 (some .int) wsX8_topLaid 1 22) {r : Int} {nu : qM} (hE : xr X = some (.int (iZ r)) ∧ (in32 r → xΦ X) ∧ xμ X = nu) 
    {x0 : Nat} {x1 : Int} (k_x0 : gK (xG X) x0 = 9) (r_x1 : in32 x1) {m0 : qM} (hR_m0 : qR (xG X) m0)
    (h : f_X8_topLaid N (xG X)  x0 x1 m0 = some (r, nu)) : qN X 3 0 [(0, .ref x0), (1, .int (iZ x1))] [] m0 := by
  have hT := hX.T
  unfold f_X8_topLaid at h
  refine qn_iconst hX (pc := 0) dX8_topLaid_0 ?_
  refine qn_istore_n hX (pc := 1) (ls' := [(2, .int (iZ 0)), (0, .ref x0), (1, .int (iZ x1))]) dX8_topLaid_1 rfl rfl rfl ?_
  refine qn_sub (ls' := [(0, .ref x0), (1, .int (iZ x1)), (2, .int (iZ 0))]) [1, 2, 0] rfl ?_
  exact w_X8_topLaid_L2 hX hE  k_x0 r_x1 (by decide) hR_m0 h
theorem k_X8_topLaid (l : Launch) {G : qG} (hT : qT G) {N : Nat} {x0 : Nat} {x1 : Int} (k_x0 : gK G x0 = 9) (r_x1 : in32 x1) {m0 : qM} {r : Int} {nu : qM} (h : f_X8_topLaid N G x0 x1 m0 = some (r, nu)) : qC l yX8_topLaid wsX8_topLaid 1 22 G [.ref x0, .int (iZ x1)] m0 (some (.int (iZ r))) (in32 r) nu := by
  refine qn_start (hy := by decide) hT (hw := rfl) (hn := Nat.le_of_ble_eq_true rfl) ?_
  intro X h1 h2 h3 h4 hX hR
  subst h4
  exact w_X8_topLaid hX ⟨h1, fun q => h2 ▸ q, h3⟩ k_x0 r_x1 hR h
theorem dd_X8_topLaid : yX8_topLaid.cls = RX8 ∧ yX8_topLaid.cls ≠ "java/lang/invoke/MethodHandle" ∧ yX8_topLaid.cls ≠ "java/lang/invoke/VarHandle" ∧ (parseMethodDescriptor yX8_topLaid.desc).map (fun d => d.parameters.length) = some 1 := by decide +kernel
