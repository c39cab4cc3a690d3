-- ProRataMarketModel.wanted
theorem hi_X8_wanted_8 : ∀ w ∈ wsX80, w ∈ wsX8_wanted := fun w h => List.mem_cons_of_mem _ (List.mem_append_right _ h)
theorem fd_X8_wanted_7 : qFd RX8 wsX8_wanted 7 8 0 1 800 := ⟨RX8, TX8, 32, _, rfl, hi_X8_wanted_8, by decide, (by decide +kernel : Cond.fieldLink RX8 7 (TX8 0).1 (TX8 0).2.1 (TX8 0).2.2.1 ∈ wsX8_wanted), rfl, rfl, by decide⟩
set_option maxHeartbeats 4000000 in
set_option maxRecDepth 20000 in
theorem w_X8_wanted_52 {X : qB} {N : Nat} (hX : qOk X cX8_wanted RX8 5 (some .int) wsX8_wanted 1 22) {r : Int} {nu : qM} (hE : xr X = some (.int (iZ r)) ∧ (in32 r → xΦ X) ∧ xμ X = nu) {k5 : (Nat → Int → Int → Int → Int → qM → Option (Int × qM))} (hk5 : ∀ (x0 : Nat) (x1 : Int) (x2 : Int) (x3 : Int) (x4 : Int) (m0 : qM), gK (xG X) x0 = 9 → in32 x1 → in32 x2 → in32 x3 → in32 x4 → qR (xG X) m0 → k5 x0 x1 x2 x3 x4 m0 = some (r, nu) → qN X 5 5 [(0, .ref x0), (1, .int (iZ x1)), (2, .int (iZ x2)), (3, .int (iZ x3)), (4, .int (iZ x4))] [] m0)
    {x0 : Nat} {x1 : Int} {x2 : Int} {x3 : Int} {x4 : Int} (k_x0 : gK (xG X) x0 = 9) (r_x1 : in32 x1) (r_x2 : in32 x2) (r_x3 : in32 x3) (r_x4 : in32 x4) {m0 : qM} (hR_m0 : qR (xG X) m0)
    (h : f_X8_wanted_52 N (xG X) k5 x0 x1 x2 x3 x4 m0 = some (r, nu)) : qN X 5 52 [(0, .ref x0), (1, .int (iZ x1)), (2, .int (iZ x2)), (3, .int (iZ x3)), (4, .int (iZ x4))] [] m0 := by
  have hT := hX.T
  unfold f_X8_wanted_52 at h
  obtain ⟨v1, e_v1, r_v1, h⟩ := ckI_e h
  refine qn_iinc hX (pc := 52) (ls' := [(4, .int (iZ v1)), (0, .ref x0), (1, .int (iZ x1)), (2, .int (iZ x2)), (3, .int (iZ x3))]) dX8_wanted_52 4 rfl e_v1 rfl rfl ?_
  refine qn_goto hX (pc := 55) 5 dX8_wanted_55 (by decide) ?_
  refine qn_sub (ls' := [(0, .ref x0), (1, .int (iZ x1)), (2, .int (iZ x2)), (3, .int (iZ x3)), (4, .int (iZ v1))]) [1, 2, 3, 4, 0] rfl ?_
  exact hk5 x0 x1 x2 x3 v1 m0 k_x0 r_x1 r_x2 r_x3 r_v1 hR_m0 h
set_option maxHeartbeats 4000000 in
set_option maxRecDepth 20000 in
theorem w_X8_wanted_5 {X : qB} {N : Nat} (hX : qOk X cX8_wanted RX8 5 (some .int) wsX8_wanted 1 22) {r : Int} {nu : qM} (hE : xr X = some (.int (iZ r)) ∧ (in32 r → xΦ X) ∧ xμ X = nu) {k5 : (Nat → Int → Int → Int → Int → qM → Option (Int × qM))} (hk5 : ∀ (x0 : Nat) (x1 : Int) (x2 : Int) (x3 : Int) (x4 : Int) (m0 : qM), gK (xG X) x0 = 9 → in32 x1 → in32 x2 → in32 x3 → in32 x4 → qR (xG X) m0 → k5 x0 x1 x2 x3 x4 m0 = some (r, nu) → qN X 5 5 [(0, .ref x0), (1, .int (iZ x1)), (2, .int (iZ x2)), (3, .int (iZ x3)), (4, .int (iZ x4))] [] m0)
    {x0 : Nat} {x1 : Int} {x2 : Int} {x3 : Int} {x4 : Int} (k_x0 : gK (xG X) x0 = 9) (r_x1 : in32 x1) (r_x2 : in32 x2) (r_x3 : in32 x3) (r_x4 : in32 x4) {m0 : qM} (hR_m0 : qR (xG X) m0)
    (h : f_X8_wanted_5 N (xG X) k5 x0 x1 x2 x3 x4 m0 = some (r, nu)) : qN X 5 5 [(0, .ref x0), (1, .int (iZ x1)), (2, .int (iZ x2)), (3, .int (iZ x3)), (4, .int (iZ x4))] [] m0 := by
  have hT := hX.T
  unfold f_X8_wanted_5 at h
  refine qn_iload hX (pc := 5) dX8_wanted_5 4 rfl ?_
  refine qn_aload_n hX (pc := 7) dX8_wanted_7 0 rfl rfl ?_
  refine qn_getR hX (pc := 8) fd_X8_wanted_7 dX8_wanted_8 k_x0 ?_
  refine qn_iconst hX (pc := 11) dX8_wanted_11 ?_
  refine qn_iald hX (pc := 12) (v := gA m0 (gR (xG X) 800 x0) 5) 684 dX8_wanted_12 (qr_800 hT k_x0) (by decide) (by decide) rfl ?_
  refine qn_icmp_ge hX (pc := 13) r_x4 (hR_m0.a (n := 684) _ (qr_800 hT k_x0) (by decide)) 58 dX8_wanted_13 (by decide) (fun c1 => ?_) (fun c1 => ?_)
  · have h := ite_f h c1
    refine qn_iload_n hX (pc := 58) dX8_wanted_58 3 rfl rfl ?_
    exact qn_iret hX (pc := 59) dX8_wanted_59 hE hR_m0 r_x3 (Option.some.inj h)
  · have h := ite_t h c1
    refine qn_aload_n hX (pc := 16) dX8_wanted_16 0 rfl rfl ?_
    refine qn_iload hX (pc := 17) dX8_wanted_17 4 rfl ?_
    refine qn_iconst hX (pc := 19) dX8_wanted_19 ?_
    obtain ⟨v3, m2, e_m2, h⟩ := kb2_e h
    refine qn_callVi hX (pc := 20) [.int (iZ x4), .int (iZ 2)] [.int (iZ 2), .int (iZ x4)] 2 dX8_wanted_20 gX8_wanted_X8_ofOrder rfl dd_X8_ofOrder ⟨rfl, rfl⟩ rfl rfl (by decide) k_x0 rfl rfl hR_m0 (k_X8_ofOrder (xl X) hT k_x0 r_x4 (by decide) e_m2) (fun r_v3 hR_m2 => ?_)
    refine qn_iload_n hX (pc := 23) dX8_wanted_23 1 rfl rfl ?_
    refine qn_icmp_ne hX (pc := 24) r_v3 r_x1 52 dX8_wanted_24 (by decide) (fun c4 => ?_) (fun c4 => ?_)
    · have h := ite_f h c4
      refine qn_sub (ls' := [(0, .ref x0), (1, .int (iZ x1)), (2, .int (iZ x2)), (3, .int (iZ x3)), (4, .int (iZ x4))]) [0, 1, 2, 3, 4] rfl ?_
      exact w_X8_wanted_52 hX hE hk5 k_x0 r_x1 r_x2 r_x3 r_x4 hR_m2 h
    · have h := ite_t h c4
      refine qn_iload_n hX (pc := 27) dX8_wanted_27 1 rfl rfl ?_
      refine qn_iload_n hX (pc := 28) dX8_wanted_28 2 rfl rfl ?_
      refine qn_aload_n hX (pc := 29) dX8_wanted_29 0 rfl rfl ?_
      refine qn_iload hX (pc := 30) dX8_wanted_30 4 rfl ?_
      refine qn_iconst hX (pc := 32) dX8_wanted_32 ?_
      obtain ⟨v6, m5, e_m5, h⟩ := kb2_e h
      refine qn_callVi hX (pc := 33) [.int (iZ x4), .int (iZ 3)] [.int (iZ 3), .int (iZ x4)] 2 dX8_wanted_33 gX8_wanted_X8_ofOrder rfl dd_X8_ofOrder ⟨rfl, rfl⟩ rfl rfl (by decide) k_x0 rfl rfl hR_m2 (k_X8_ofOrder (xl X) hT k_x0 r_x4 (by decide) e_m5) (fun r_v6 hR_m5 => ?_)
      obtain ⟨v8, m7, e_m7, h⟩ := kb2_e h
      refine qn_callSi hX (pc := 36) [.int (iZ x1), .int (iZ x2), .int (iZ v6)] [.int (iZ v6), .int (iZ x2), .int (iZ x1)] 3 dX8_wanted_36 gX8_wanted_X8_isBetter rfl dd_X8_isBetter ⟨rfl, rfl⟩ rfl rfl rfl hR_m5 (k_X8_isBetter (xl X) hT r_x1 r_x2 r_v6 e_m7) (fun r_v8 hR_m7 => ?_)
      refine qn_if_ne hX (pc := 39) r_v8.i 52 dX8_wanted_39 (by decide) (fun c9 => ?_) (fun c9 => ?_)
      · have h := ite_f h c9
        refine qn_sub (ls' := [(0, .ref x0), (1, .int (iZ x1)), (2, .int (iZ x2)), (3, .int (iZ x3)), (4, .int (iZ x4))]) [0, 1, 2, 3, 4] rfl ?_
        exact w_X8_wanted_52 hX hE hk5 k_x0 r_x1 r_x2 r_x3 r_x4 hR_m7 h
      · have h := ite_t h c9
        refine qn_iload_n hX (pc := 42) dX8_wanted_42 3 rfl rfl ?_
        refine qn_aload_n hX (pc := 43) dX8_wanted_43 0 rfl rfl ?_
        refine qn_iload hX (pc := 44) dX8_wanted_44 4 rfl ?_
        refine qn_iconst hX (pc := 46) dX8_wanted_46 ?_
        obtain ⟨v11, m10, e_m10, h⟩ := kb2_e h
        refine qn_callVi hX (pc := 47) [.int (iZ x4), .int (iZ 4)] [.int (iZ 4), .int (iZ x4)] 2 dX8_wanted_47 gX8_wanted_X8_ofOrder rfl dd_X8_ofOrder ⟨rfl, rfl⟩ rfl rfl (by decide) k_x0 rfl rfl hR_m7 (k_X8_ofOrder (xl X) hT k_x0 r_x4 (by decide) e_m10) (fun r_v11 hR_m10 => ?_)
        obtain ⟨v12, e_v12, r_v12, h⟩ := ckI_e h
        refine qn_iadd hX (pc := 50) dX8_wanted_50 e_v12 ?_
        refine qn_istore_n hX (pc := 51) (ls' := [(3, .int (iZ v12)), (0, .ref x0), (1, .int (iZ x1)), (2, .int (iZ x2)), (4, .int (iZ x4))]) dX8_wanted_51 rfl rfl rfl ?_
        refine qn_sub (ls' := [(0, .ref x0), (1, .int (iZ x1)), (2, .int (iZ x2)), (3, .int (iZ v12)), (4, .int (iZ x4))]) [1, 2, 3, 0, 4] rfl ?_
        exact w_X8_wanted_52 hX hE hk5 k_x0 r_x1 r_x2 r_v12 r_x4 hR_m10 h
set_option maxHeartbeats 4000000 in
set_option maxRecDepth 20000 in
theorem w_X8_wanted_L5 {X : qB} {N : Nat} (hX : qOk X cX8_wanted RX8 5 (some .int) wsX8_wanted 1 22) {r : Int} {nu : qM} (hE : xr X = some (.int (iZ r)) ∧ (in32 r → xΦ X) ∧ xμ X = nu) 
    {x0 : Nat} {x1 : Int} {x2 : Int} {x3 : Int} {x4 : Int} (k_x0 : gK (xG X) x0 = 9) (r_x1 : in32 x1) (r_x2 : in32 x2) (r_x3 : in32 x3) (r_x4 : in32 x4) {m0 : qM} (hR_m0 : qR (xG X) m0)
    (h : f_X8_wanted_L5 N (xG X)  x0 x1 x2 x3 x4 m0 = some (r, nu)) : qN X 5 5 [(0, .ref x0), (1, .int (iZ x1)), (2, .int (iZ x2)), (3, .int (iZ x3)), (4, .int (iZ x4))] [] m0 := by
  unfold f_X8_wanted_L5 at h
  exact qLoop_w (σ := Nat × Int × Int × Int × Int × qM) (P := fun p => gK (xG X) p.1 = 9 ∧ in32 p.2.1 ∧ in32 p.2.2.1 ∧ in32 p.2.2.2.1 ∧ in32 p.2.2.2.2.1 ∧ qR (xG X) p.2.2.2.2.2) (Q := fun p => qN X 5 5 [(0, .ref p.1), (1, .int (iZ p.2.1)), (2, .int (iZ p.2.2.1)), (3, .int (iZ p.2.2.2.1)), (4, .int (iZ p.2.2.2.2.1))] [] p.2.2.2.2.2) (fun k hrec p hp hh => w_X8_wanted_5 hX hE (fun x0 x1 x2 x3 x4 m0 q0 q1 q2 q3 q4 hRm hh => hrec (x0, x1, x2, x3, x4, m0) ⟨q0, q1, q2, q3, q4, hRm⟩ hh) hp.1 hp.2.1 hp.2.2.1 hp.2.2.2.1 hp.2.2.2.2.1 hp.2.2.2.2.2 hh) N (x0, x1, x2, x3, x4, m0) ⟨k_x0, r_x1, r_x2, r_x3, r_x4, hR_m0⟩ h
set_option maxHeartbeats 4000000 in
set_option maxRecDepth 20000 in
theorem w_X8_wanted {X : qB} {N : Nat} (hX : qOk X cX8_wanted RX8 5 (some .int) wsX8_wanted 1 22) {r : Int} {nu : qM} (hE : xr X = some (.int (iZ r)) ∧ (in32 r → xΦ X) ∧ xμ X = nu) 
    {x0 : Nat} {x1 : Int} {x2 : Int} (k_x0 : gK (xG X) x0 = 9) (r_x1 : in32 x1) (r_x2 : in32 x2) {m0 : qM} (hR_m0 : qR (xG X) m0)
    (h : f_X8_wanted N (xG X)  x0 x1 x2 m0 = some (r, nu)) : qN X 5 0 [(0, .ref x0), (1, .int (iZ x1)), (2, .int (iZ x2))] [] m0 := by
  have hT := hX.T
  unfold f_X8_wanted at h
  refine qn_iconst hX (pc := 0) dX8_wanted_0 ?_
  refine qn_istore_n hX (pc := 1) (ls' := [(3, .int (iZ 0)), (0, .ref x0), (1, .int (iZ x1)), (2, .int (iZ x2))]) dX8_wanted_1 rfl rfl rfl ?_
  refine qn_iconst hX (pc := 2) dX8_wanted_2 ?_
  refine qn_istore hX (pc := 3) (ls' := [(4, .int (iZ 0)), (3, .int (iZ 0)), (0, .ref x0), (1, .int (iZ x1)), (2, .int (iZ x2))]) dX8_wanted_3 rfl rfl ?_
  refine qn_sub (ls' := [(0, .ref x0), (1, .int (iZ x1)), (2, .int (iZ x2)), (3, .int (iZ 0)), (4, .int (iZ 0))]) [2, 3, 4, 1, 0] rfl ?_
  exact w_X8_wanted_L5 hX hE  k_x0 r_x1 r_x2 (by decide) (by decide) hR_m0 h
theorem k_X8_wanted (l : Launch) {G : qG} (hT : qT G) {N : Nat} {x0 : Nat} {x1 : Int} {x2 : Int} (k_x0 : gK G x0 = 9) (r_x1 : in32 x1) (r_x2 : in32 x2) {m0 : qM} {r : Int} {nu : qM} (h : f_X8_wanted N G x0 x1 x2 m0 = some (r, nu)) : qC l yX8_wanted wsX8_wanted 1 22 G [.ref x0, .int (iZ x1), .int (iZ x2)] m0 (some (.int (iZ r))) (in32 r) nu := by
  refine qn_start (hy := by decide) hT (hw := rfl) (hn := Nat.le_of_ble_eq_true rfl) ?_
  intro X h1 h2 h3 h4 hX hR
  subst h4
  exact w_X8_wanted hX ⟨h1, fun q => h2 ▸ q, h3⟩ k_x0 r_x1 r_x2 hR h
theorem dd_X8_wanted : yX8_wanted.cls = RX8 ∧ yX8_wanted.cls ≠ "java/lang/invoke/MethodHandle" ∧ yX8_wanted.cls ≠ "java/lang/invoke/VarHandle" ∧ (parseMethodDescriptor yX8_wanted.desc).map (fun d => d.parameters.length) = some 2 := by decide +kernel
-- ProRataMarketModel.off0
set_option maxHeartbeats 4000000 in
set_option maxRecDepth 20000 in
theorem w_X8_off0 {X : qB} {N : Nat} (hX : qOk X cX8_off0 RX8 2 (some .int) wsX8_off0 0 0) {r : Int} {nu : qM} (hE : xr X = some (.int (iZ r)) ∧ (in32 r → xΦ X) ∧ xμ X = nu) 
    {x0 : Int} {x1 : Int} (r_x0 : in32 x0) (r_x1 : in32 x1) {m0 : qM} (hR_m0 : qR (xG X) m0)
    (h : f_X8_off0 N (xG X)  x0 x1 m0 = some (r, nu)) : qN X 2 0 [(0, .int (iZ x0)), (1, .int (iZ x1))] [] m0 := by
  have hT := hX.T
  unfold f_X8_off0 at h
  refine qn_iload_n hX (pc := 0) dX8_off0_0 0 rfl rfl ?_
  refine qn_iload_n hX (pc := 1) dX8_off0_1 1 rfl rfl ?_
  refine qn_icmp_le hX (pc := 2) r_x0 r_x1 11 dX8_off0_2 (by decide) (fun c1 => ?_) (fun c1 => ?_)
  · have h := ite_f h c1
    refine qn_iload_n hX (pc := 11) dX8_off0_11 1 rfl rfl ?_
    refine qn_iload_n hX (pc := 12) dX8_off0_12 0 rfl rfl ?_
    obtain ⟨v2, e_v2, r_v2, h⟩ := ckI_e h
    refine qn_isub hX (pc := 13) dX8_off0_13 e_v2 ?_
    exact qn_iret hX (pc := 14) dX8_off0_14 hE hR_m0 r_v2 (Option.some.inj h)
  · have h := ite_t h c1
    refine qn_iload_n hX (pc := 5) dX8_off0_5 0 rfl rfl ?_
    refine qn_iload_n hX (pc := 6) dX8_off0_6 1 rfl rfl ?_
    obtain ⟨v3, e_v3, r_v3, h⟩ := ckI_e h
    refine qn_isub hX (pc := 7) dX8_off0_7 e_v3 ?_
    refine qn_goto hX (pc := 8) 14 dX8_off0_8 (by decide) ?_
    exact qn_iret hX (pc := 14) dX8_off0_14 hE hR_m0 r_v3 (Option.some.inj h)
theorem k_X8_off0 (l : Launch) {G : qG} (hT : qT G) {N : Nat} {x0 : Int} {x1 : Int} (r_x0 : in32 x0) (r_x1 : in32 x1) {m0 : qM} {r : Int} {nu : qM} (h : f_X8_off0 N G x0 x1 m0 = some (r, nu)) : qC l yX8_off0 wsX8_off0 0 0 G [.int (iZ x0), .int (iZ x1)] m0 (some (.int (iZ r))) (in32 r) nu := by
  refine qn_start (hy := by decide) hT (hw := rfl) (hn := Nat.le_of_ble_eq_true rfl) ?_
  intro X h1 h2 h3 h4 hX hR
  subst h4
  exact w_X8_off0 hX ⟨h1, fun q => h2 ▸ q, h3⟩ r_x0 r_x1 hR h
theorem dd_X8_off0 : yX8_off0.cls ≠ "java/lang/invoke/MethodHandle" ∧ yX8_off0.cls ≠ "java/lang/invoke/VarHandle" ∧ (parseMethodDescriptor yX8_off0.desc).map (fun d => d.parameters.length) = some 2 := by decide +kernel
-- ProRataMarketModel.weighs
theorem hi_X8_weighs_8 : ∀ w ∈ wsX80, w ∈ wsX8_weighs := fun w h => List.mem_cons_of_mem _ (List.mem_append_right _ h)
theorem fp_X8_weighs_217 : qFp RX8 wsX8_weighs 217 8 18 0 818 .int := ⟨RX8, TX8, 32, _, tyX8, rfl, hi_X8_weighs_8, by decide, (by decide +kernel : Cond.fieldLink RX8 217 (TX8 18).1 (TX8 18).2.1 (TX8 18).2.2.1 ∈ wsX8_weighs), rfl, rfl, by decide, tyX8_ok, nmX8, rfl, by decide +kernel⟩
theorem fp_X8_weighs_208 : qFp RX8 wsX8_weighs 208 8 19 0 819 .int := ⟨RX8, TX8, 32, _, tyX8, rfl, hi_X8_weighs_8, by decide, (by decide +kernel : Cond.fieldLink RX8 208 (TX8 19).1 (TX8 19).2.1 (TX8 19).2.2.1 ∈ wsX8_weighs), rfl, rfl, by decide, tyX8_ok, nmX8, rfl, by decide +kernel⟩
theorem fp_X8_weighs_214 : qFp RX8 wsX8_weighs 214 8 20 0 820 .int := ⟨RX8, TX8, 32, _, tyX8, rfl, hi_X8_weighs_8, by decide, (by decide +kernel : Cond.fieldLink RX8 214 (TX8 20).1 (TX8 20).2.1 (TX8 20).2.2.1 ∈ wsX8_weighs), rfl, rfl, by decide, tyX8_ok, nmX8, rfl, by decide +kernel⟩
theorem fd_X8_weighs_7 : qFd RX8 wsX8_weighs 7 8 0 1 800 := ⟨RX8, TX8, 32, _, rfl, hi_X8_weighs_8, by decide, (by decide +kernel : Cond.fieldLink RX8 7 (TX8 0).1 (TX8 0).2.1 (TX8 0).2.2.1 ∈ wsX8_weighs), rfl, rfl, by decide⟩
theorem fd_X8_weighs_217 : qFd RX8 wsX8_weighs 217 8 18 0 818 := ⟨RX8, TX8, 32, _, rfl, hi_X8_weighs_8, by decide, (by decide +kernel : Cond.fieldLink RX8 217 (TX8 18).1 (TX8 18).2.1 (TX8 18).2.2.1 ∈ wsX8_weighs), rfl, rfl, by decide⟩
theorem fd_X8_weighs_208 : qFd RX8 wsX8_weighs 208 8 19 0 819 := ⟨RX8, TX8, 32, _, rfl, hi_X8_weighs_8, by decide, (by decide +kernel : Cond.fieldLink RX8 208 (TX8 19).1 (TX8 19).2.1 (TX8 19).2.2.1 ∈ wsX8_weighs), rfl, rfl, by decide⟩
theorem fd_X8_weighs_214 : qFd RX8 wsX8_weighs 214 8 20 0 820 := ⟨RX8, TX8, 32, _, rfl, hi_X8_weighs_8, by decide, (by decide +kernel : Cond.fieldLink RX8 214 (TX8 20).1 (TX8 20).2.1 (TX8 20).2.2.1 ∈ wsX8_weighs), rfl, rfl, by decide⟩
set_option maxHeartbeats 4000000 in
set_option maxRecDepth 20000 in
theorem w_X8_weighs_168 {X : qB} {N : Nat} (hX : qOk X cX8_weighs RX8 9 none wsX8_weighs 2 46) {r : qM} (hE : xr X = none ∧ (True → xΦ X) ∧ xμ X = r) 
    {x0 : Nat} {x3 : Int} {x4 : Int} {x5 : Int} {x6 : Int} (k_x0 : gK (xG X) x0 = 9) (r_x3 : in32 x3) (r_x4 : in32 x4) (r_x5 : in32 x5) (r_x6 : in32 x6) {m0 : qM} (hR_m0 : qR (xG X) m0)
    (h : f_X8_weighs_168 N (xG X)  x0 x3 x4 x5 x6 m0 = some r) : qN X 9 168 [(0, .ref x0), (3, .int (iZ x3)), (4, .int (iZ x4)), (5, .int (iZ x5)), (6, .int (iZ x6))] [] m0 := by
  have hT := hX.T
  unfold f_X8_weighs_168 at h
  refine qn_aload_n hX (pc := 168) dX8_weighs_168 0 rfl rfl ?_
  refine qn_iload_n hX (pc := 169) dX8_weighs_169 1 rfl rfl ?_
  obtain ⟨m1, e_m1, h⟩ := kp_e h
  refine qn_putI hX (pc := 170) fp_X8_weighs_217 dX8_weighs_170 k_x0 hR_m0 r_x3 e_m1 (fun hR_m1 => ?_) 
  refine qn_aload_n hX (pc := 173) dX8_weighs_173 0 rfl rfl ?_
  refine qn_iload hX (pc := 174) dX8_weighs_174 4 rfl ?_
  obtain ⟨m2, e_m2, h⟩ := kp_e h
  refine qn_putI hX (pc := 176) fp_X8_weighs_208 dX8_weighs_176 k_x0 hR_m1 r_x6 e_m2 (fun hR_m2 => ?_) 
  refine qn_aload_n hX (pc := 179) dX8_weighs_179 0 rfl rfl ?_
  refine qn_iload hX (pc := 180) dX8_weighs_180 2 rfl ?_
  refine qn_iload hX (pc := 182) dX8_weighs_182 3 rfl ?_
  obtain ⟨v3, e_v3, r_v3, h⟩ := ckI_e h
  refine qn_isub hX (pc := 184) dX8_weighs_184 e_v3 ?_
  obtain ⟨m4, e_m4, h⟩ := kp_e h
  refine qn_putI hX (pc := 185) fp_X8_weighs_214 dX8_weighs_185 k_x0 hR_m2 r_v3 e_m4 (fun hR_m4 => ?_) 
  exact qn_vret hX (pc := 188) dX8_weighs_188 hE hR_m4 (Option.some.inj h)
set_option maxHeartbeats 4000000 in
set_option maxRecDepth 20000 in
theorem w_X8_weighs_125 {X : qB} {N : Nat} (hX : qOk X cX8_weighs RX8 9 none wsX8_weighs 2 46) {r : qM} (hE : xr X = none ∧ (True → xΦ X) ∧ xμ X = r) 
    {x0 : Nat} {x3 : Int} {x4 : Int} {x5 : Int} {x6 : Int} {x7 : Int} {s0 : Int} (k_x0 : gK (xG X) x0 = 9) (r_x3 : in32 x3) (r_x4 : in32 x4) (r_x5 : in32 x5) (r_x6 : in32 x6) (r_x7 : in32 x7) (r_s0 : in32 s0) {m0 : qM} (hR_m0 : qR (xG X) m0)
    (h : f_X8_weighs_125 N (xG X)  x0 x3 x4 x5 x6 x7 s0 m0 = some r) : qN X 9 125 [(0, .ref x0), (3, .int (iZ x3)), (4, .int (iZ x4)), (5, .int (iZ x5)), (6, .int (iZ x6)), (7, .int (iZ x7))] [.int (iZ s0)] m0 := by
  have hT := hX.T
  unfold f_X8_weighs_125 at h
  refine qn_istore hX (pc := 125) (ls' := [(8, .int (iZ s0)), (0, .ref x0), (3, .int (iZ x3)), (4, .int (iZ x4)), (5, .int (iZ x5)), (6, .int (iZ x6)), (7, .int (iZ x7))]) dX8_weighs_125 rfl rfl ?_
  refine qn_iload hX (pc := 127) dX8_weighs_127 6 rfl ?_
  refine qn_iload hX (pc := 129) dX8_weighs_129 0 rfl ?_
  refine qn_icmp_gt hX (pc := 131) r_x7 r_s0 167 dX8_weighs_131 (by decide) (fun c1 => ?_) (fun c1 => ?_)
  · have h := ite_t h c1
    exact qn_vret hX (pc := 167) dX8_weighs_167 hE hR_m0 (Option.some.inj h)
  · have h := ite_f h c1
    refine qn_iload hX (pc := 134) dX8_weighs_134 6 rfl ?_
    refine qn_iload hX (pc := 136) dX8_weighs_136 0 rfl ?_
    refine qn_icmp_ne hX (pc := 138) r_x7 r_s0 168 dX8_weighs_138 (by decide) (fun c2 => ?_) (fun c2 => ?_)
    · have h := ite_f h c2
      refine qn_sub (ls' := [(0, .ref x0), (3, .int (iZ x3)), (4, .int (iZ x4)), (5, .int (iZ x5)), (6, .int (iZ x6))]) [1, 2, 3, 4, 5] rfl ?_
      exact w_X8_weighs_168 hX hE  k_x0 r_x3 r_x4 r_x5 r_x6 hR_m0 h
    · have h := ite_t h c2
      refine qn_iload_n hX (pc := 141) dX8_weighs_141 2 rfl rfl ?_
      refine qn_aload_n hX (pc := 142) dX8_weighs_142 1 rfl rfl ?_
      refine qn_getR hX (pc := 143) fd_X8_weighs_7 dX8_weighs_143 k_x0 ?_
      refine qn_iconst hX (pc := 146) dX8_weighs_146 ?_
      refine qn_iald hX (pc := 147) (v := gA m0 (gR (xG X) 800 x0) 3) 684 dX8_weighs_147 (qr_800 hT k_x0) (by decide) (by decide) rfl ?_
      obtain ⟨v4, m3, e_m3, h⟩ := kb2_e h
      refine qn_callSi hX (pc := 148) [.int (iZ x3), .int (iZ (gA m0 (gR (xG X) 800 x0) 3))] [.int (iZ (gA m0 (gR (xG X) 800 x0) 3)), .int (iZ x3)] 2 dX8_weighs_148 gX8_weighs_X8_off0 rfl dd_X8_off0 ⟨rfl, rfl⟩ rfl rfl rfl hR_m0 (k_X8_off0 (xl X) hT r_x3 (hR_m0.a (n := 684) _ (qr_800 hT k_x0) (by decide)) e_m3) (fun r_v4 hR_m3 => ?_)
      refine qn_aload_n hX (pc := 151) dX8_weighs_151 1 rfl rfl ?_
      refine qn_getI hX (pc := 152) fd_X8_weighs_217 dX8_weighs_152 k_x0 ?_
      refine qn_aload_n hX (pc := 155) dX8_weighs_155 1 rfl rfl ?_
      refine qn_getR hX (pc := 156) fd_X8_weighs_7 dX8_weighs_156 k_x0 ?_
      refine qn_iconst hX (pc := 159) dX8_weighs_159 ?_
      refine qn_iald hX (pc := 160) (v := gA m3 (gR (xG X) 800 x0) 3) 684 dX8_weighs_160 (qr_800 hT k_x0) (by decide) (by decide) rfl ?_
      obtain ⟨v6, m5, e_m5, h⟩ := kb2_e h
      refine qn_callSi hX (pc := 161) [.int (iZ (gI m3 818 x0)), .int (iZ (gA m3 (gR (xG X) 800 x0) 3))] [.int (iZ (gA m3 (gR (xG X) 800 x0) 3)), .int (iZ (gI m3 818 x0))] 2 dX8_weighs_161 gX8_weighs_X8_off0 rfl dd_X8_off0 ⟨rfl, rfl⟩ rfl rfl rfl hR_m3 (k_X8_off0 (xl X) hT (hR_m3.i 818 _ rfl) (hR_m3.a (n := 684) _ (qr_800 hT k_x0) (by decide)) e_m5) (fun r_v6 hR_m5 => ?_)
      refine qn_icmp_lt hX (pc := 164) r_v4 r_v6 168 dX8_weighs_164 (by decide) (fun c7 => ?_) (fun c7 => ?_)
      · have h := ite_t h c7
        refine qn_sub (ls' := [(0, .ref x0), (3, .int (iZ x3)), (4, .int (iZ x4)), (5, .int (iZ x5)), (6, .int (iZ x6))]) [1, 2, 3, 4, 5] rfl ?_
        exact w_X8_weighs_168 hX hE  k_x0 r_x3 r_x4 r_x5 r_x6 hR_m5 h
      · have h := ite_f h c7
        exact qn_vret hX (pc := 167) dX8_weighs_167 hE hR_m5 (Option.some.inj h)
set_option maxHeartbeats 4000000 in
set_option maxRecDepth 20000 in
theorem w_X8_weighs_71 {X : qB} {N : Nat} (hX : qOk X cX8_weighs RX8 9 none wsX8_weighs 2 46) {r : qM} (hE : xr X = none ∧ (True → xΦ X) ∧ xμ X = r) 
    {x0 : Nat} {x3 : Int} {x4 : Int} {x5 : Int} {s0 : Int} (k_x0 : gK (xG X) x0 = 9) (r_x3 : in32 x3) (r_x4 : in32 x4) (r_x5 : in32 x5) (r_s0 : in32 s0) {m0 : qM} (hR_m0 : qR (xG X) m0)
    (h : f_X8_weighs_71 N (xG X)  x0 x3 x4 x5 s0 m0 = some r) : qN X 9 71 [(0, .ref x0), (3, .int (iZ x3)), (4, .int (iZ x4)), (5, .int (iZ x5))] [.int (iZ s0)] m0 := by
  have hT := hX.T
  unfold f_X8_weighs_71 at h
  refine qn_istore hX (pc := 71) (ls' := [(6, .int (iZ s0)), (0, .ref x0), (3, .int (iZ x3)), (4, .int (iZ x4)), (5, .int (iZ x5))]) dX8_weighs_71 rfl rfl ?_
  refine qn_iload hX (pc := 73) dX8_weighs_73 0 rfl ?_
  refine qn_if_eq hX (pc := 75) r_s0 87 dX8_weighs_75 (by decide) (fun c1 => ?_) (fun c1 => ?_)
  · have h := ite_t h c1
    exact qn_vret hX (pc := 87) dX8_weighs_87 hE hR_m0 (Option.some.inj h)
  · have h := ite_f h c1
    refine qn_iload hX (pc := 78) dX8_weighs_78 0 rfl ?_
    refine qn_aload_n hX (pc := 80) dX8_weighs_80 1 rfl rfl ?_
    refine qn_getI hX (pc := 81) fd_X8_weighs_208 dX8_weighs_81 k_x0 ?_
    refine qn_icmp_ge hX (pc := 84) r_s0 (hR_m0.i 819 _ rfl) 88 dX8_weighs_84 (by decide) (fun c2 => ?_) (fun c2 => ?_)
    · have h := ite_f h c2
      refine qn_iload hX (pc := 88) dX8_weighs_88 0 rfl ?_
      refine qn_aload_n hX (pc := 90) dX8_weighs_90 1 rfl rfl ?_
      refine qn_getI hX (pc := 91) fd_X8_weighs_208 dX8_weighs_91 k_x0 ?_
      refine qn_icmp_ne hX (pc := 94) r_s0 (hR_m0.i 819 _ rfl) 168 dX8_weighs_94 (by decide) (fun c3 => ?_) (fun c3 => ?_)
      · have h := ite_f h c3
        refine qn_sub (ls' := [(0, .ref x0), (3, .int (iZ x3)), (4, .int (iZ x4)), (5, .int (iZ x5)), (6, .int (iZ s0))]) [1, 2, 3, 4, 0] rfl ?_
        exact w_X8_weighs_168 hX hE  k_x0 r_x3 r_x4 r_x5 r_s0 hR_m0 h
      · have h := ite_t h c3
        refine qn_iload hX (pc := 97) dX8_weighs_97 4 rfl ?_
        refine qn_iload hX (pc := 99) dX8_weighs_99 3 rfl ?_
        obtain ⟨v5, m4, e_m4, h⟩ := kb2_e h
        refine qn_callSi hX (pc := 101) [.int (iZ x5), .int (iZ x4)] [.int (iZ x4), .int (iZ x5)] 2 dX8_weighs_101 gX8_weighs_X8_off0 rfl dd_X8_off0 ⟨rfl, rfl⟩ rfl rfl rfl hR_m0 (k_X8_off0 (xl X) hT r_x5 r_x4 e_m4) (fun r_v5 hR_m4 => ?_)
        refine qn_istore hX (pc := 104) (ls' := [(7, .int (iZ v5)), (6, .int (iZ s0)), (0, .ref x0), (3, .int (iZ x3)), (4, .int (iZ x4)), (5, .int (iZ x5))]) dX8_weighs_104 rfl rfl ?_
        refine qn_aload_n hX (pc := 106) dX8_weighs_106 2 rfl rfl ?_
        refine qn_getI hX (pc := 107) fd_X8_weighs_214 dX8_weighs_107 k_x0 ?_
        refine qn_if_ge hX (pc := 110) (hR_m4.i 820 _ rfl) 121 dX8_weighs_110 (by decide) (fun c6 => ?_) (fun c6 => ?_)
        · have h := ite_f h c6
          refine qn_aload_n hX (pc := 121) dX8_weighs_121 2 rfl rfl ?_
          refine qn_getI hX (pc := 122) fd_X8_weighs_214 dX8_weighs_122 k_x0 ?_
          refine qn_sub (ls' := [(0, .ref x0), (3, .int (iZ x3)), (4, .int (iZ x4)), (5, .int (iZ x5)), (6, .int (iZ s0)), (7, .int (iZ v5))]) [2, 3, 4, 5, 1, 0] rfl ?_
          exact w_X8_weighs_125 hX hE  k_x0 r_x3 r_x4 r_x5 r_s0 r_v5 (hR_m4.i 820 _ rfl) hR_m4 h
        · have h := ite_t h c6
          refine qn_aload_n hX (pc := 113) dX8_weighs_113 2 rfl rfl ?_
          refine qn_getI hX (pc := 114) fd_X8_weighs_214 dX8_weighs_114 k_x0 ?_
          obtain ⟨v7, e_v7, r_v7, h⟩ := ckI_e h
          refine qn_ineg hX (pc := 117) dX8_weighs_117 e_v7 ?_
          refine qn_goto hX (pc := 118) 125 dX8_weighs_118 (by decide) ?_
          refine qn_sub (ls' := [(0, .ref x0), (3, .int (iZ x3)), (4, .int (iZ x4)), (5, .int (iZ x5)), (6, .int (iZ s0)), (7, .int (iZ v5))]) [2, 3, 4, 5, 1, 0] rfl ?_
          exact w_X8_weighs_125 hX hE  k_x0 r_x3 r_x4 r_x5 r_s0 r_v5 r_v7 hR_m4 h
    · have h := ite_t h c2
      exact qn_vret hX (pc := 87) dX8_weighs_87 hE hR_m0 (Option.some.inj h)
set_option maxHeartbeats 4000000 in
set_option maxRecDepth 20000 in
theorem w_X8_weighs_40 {X : qB} {N : Nat} (hX : qOk X cX8_weighs RX8 9 none wsX8_weighs 2 46) {r : qM} (hE : xr X = none ∧ (True → xΦ X) ∧ xμ X = r) 
    {x0 : Nat} {s0 : Int} (k_x0 : gK (xG X) x0 = 9) (r_s0 : in32 s0) {m0 : qM} (hR_m0 : qR (xG X) m0)
    (h : f_X8_weighs_40 N (xG X)  x0 s0 m0 = some r) : qN X 9 40 [(0, .ref x0)] [.int (iZ s0)] m0 := by
  have hT := hX.T
  unfold f_X8_weighs_40 at h
  refine qn_istore_n hX (pc := 40) (ls' := [(3, .int (iZ s0)), (0, .ref x0)]) dX8_weighs_40 rfl rfl rfl ?_
  refine qn_aload_n hX (pc := 41) dX8_weighs_41 1 rfl rfl ?_
  refine qn_iconst hX (pc := 42) dX8_weighs_42 ?_
  refine qn_iload_n hX (pc := 43) dX8_weighs_43 0 rfl rfl ?_
  obtain ⟨v2, m1, e_m1, h⟩ := kb2_e h
  refine qn_callVi hX (pc := 44) [.int (iZ 0), .int (iZ s0)] [.int (iZ s0), .int (iZ 0)] 2 dX8_weighs_44 gX8_weighs_X8_wanted rfl dd_X8_wanted ⟨rfl, rfl⟩ rfl rfl (by decide) k_x0 rfl rfl hR_m0 (k_X8_wanted (xl X) hT k_x0 (by decide) r_s0 e_m1) (fun r_v2 hR_m1 => ?_)
  refine qn_istore hX (pc := 47) (ls' := [(4, .int (iZ v2)), (3, .int (iZ s0)), (0, .ref x0)]) dX8_weighs_47 rfl rfl ?_
  refine qn_aload_n hX (pc := 49) dX8_weighs_49 2 rfl rfl ?_
  refine qn_iconst hX (pc := 50) dX8_weighs_50 ?_
  refine qn_iload_n hX (pc := 51) dX8_weighs_51 1 rfl rfl ?_
  obtain ⟨v4, m3, e_m3, h⟩ := kb2_e h
  refine qn_callVi hX (pc := 52) [.int (iZ 1), .int (iZ s0)] [.int (iZ s0), .int (iZ 1)] 2 dX8_weighs_52 gX8_weighs_X8_wanted rfl dd_X8_wanted ⟨rfl, rfl⟩ rfl rfl (by decide) k_x0 rfl rfl hR_m1 (k_X8_wanted (xl X) hT k_x0 (by decide) r_s0 e_m3) (fun r_v4 hR_m3 => ?_)
  refine qn_istore hX (pc := 55) (ls' := [(5, .int (iZ v4)), (4, .int (iZ v2)), (3, .int (iZ s0)), (0, .ref x0)]) dX8_weighs_55 rfl rfl ?_
  refine qn_iload hX (pc := 57) dX8_weighs_57 0 rfl ?_
  refine qn_iload hX (pc := 59) dX8_weighs_59 1 rfl ?_
  refine qn_icmp_ge hX (pc := 61) r_v4 r_v2 69 dX8_weighs_61 (by decide) (fun c5 => ?_) (fun c5 => ?_)
  · have h := ite_f h c5
    refine qn_iload hX (pc := 69) dX8_weighs_69 1 rfl ?_
    refine qn_sub (ls' := [(0, .ref x0), (3, .int (iZ s0)), (4, .int (iZ v2)), (5, .int (iZ v4))]) [3, 2, 1, 0] rfl ?_
    exact w_X8_weighs_71 hX hE  k_x0 r_s0 r_v2 r_v4 r_v2 hR_m3 h
  · have h := ite_t h c5
    refine qn_iload hX (pc := 64) dX8_weighs_64 0 rfl ?_
    refine qn_goto hX (pc := 66) 71 dX8_weighs_66 (by decide) ?_
    refine qn_sub (ls' := [(0, .ref x0), (3, .int (iZ s0)), (4, .int (iZ v2)), (5, .int (iZ v4))]) [3, 2, 1, 0] rfl ?_
    exact w_X8_weighs_71 hX hE  k_x0 r_s0 r_v2 r_v4 r_v4 hR_m3 h
set_option maxHeartbeats 4000000 in
set_option maxRecDepth 20000 in
theorem w_X8_weighs {X : qB} {N : Nat} (hX : qOk X cX8_weighs RX8 9 none wsX8_weighs 2 46) {r : qM} (hE : xr X = none ∧ (True → xΦ X) ∧ xμ X = r) 
    {x0 : Nat} {x1 : Int} (k_x0 : gK (xG X) x0 = 9) (r_x1 : in32 x1) {m0 : qM} (hR_m0 : qR (xG X) m0)
    (h : f_X8_weighs N (xG X)  x0 x1 m0 = some r) : qN X 9 0 [(0, .ref x0), (1, .int (iZ x1))] [] m0 := by
  have hT := hX.T
  unfold f_X8_weighs at h
  refine qn_aload_n hX (pc := 0) dX8_weighs_0 0 rfl rfl ?_
  refine qn_iload_n hX (pc := 1) dX8_weighs_1 1 rfl rfl ?_
  obtain ⟨v2, m1, e_m1, h⟩ := kb2_e h
  refine qn_callVi hX (pc := 2) [.int (iZ x1)] [.int (iZ x1)] 1 dX8_weighs_2 gX8_weighs_X8_endOf rfl dd_X8_endOf ⟨rfl, rfl⟩ rfl rfl (by decide) k_x0 rfl rfl hR_m0 (k_X8_endOf (xl X) hT k_x0 r_x1 e_m1) (fun r_v2 hR_m1 => ?_)
  refine qn_istore_n hX (pc := 5) (ls' := [(2, .int (iZ v2)), (0, .ref x0), (1, .int (iZ x1))]) dX8_weighs_5 rfl rfl rfl ?_
  refine qn_aload_n hX (pc := 6) dX8_weighs_6 1 rfl rfl ?_
  refine qn_getR hX (pc := 7) fd_X8_weighs_7 dX8_weighs_7 k_x0 ?_
  refine qn_iconst hX (pc := 10) dX8_weighs_10 ?_
  refine qn_iald hX (pc := 11) (v := gA m1 (gR (xG X) 800 x0) 3) 684 dX8_weighs_11 (qr_800 hT k_x0) (by decide) (by decide) rfl ?_
  refine qn_iload_n hX (pc := 12) dX8_weighs_12 2 rfl rfl ?_
  refine qn_icmp_ge hX (pc := 13) (hR_m1.a (n := 684) _ (qr_800 hT k_x0) (by decide)) r_x1 20 dX8_weighs_13 (by decide) (fun c3 => ?_) (fun c3 => ?_)
  · have h := ite_f h c3
    refine qn_aload_n hX (pc := 20) dX8_weighs_20 1 rfl rfl ?_
    refine qn_getR hX (pc := 21) fd_X8_weighs_7 dX8_weighs_21 k_x0 ?_
    refine qn_iconst hX (pc := 24) dX8_weighs_24 ?_
    refine qn_iald hX (pc := 25) (v := gA m1 (gR (xG X) 800 x0) 3) 684 dX8_weighs_25 (qr_800 hT k_x0) (by decide) (by decide) rfl ?_
    refine qn_iload_n hX (pc := 26) dX8_weighs_26 0 rfl rfl ?_
    refine qn_icmp_le hX (pc := 27) (hR_m1.a (n := 684) _ (qr_800 hT k_x0) (by decide)) r_v2 34 dX8_weighs_27 (by decide) (fun c4 => ?_) (fun c4 => ?_)
    · have h := ite_f h c4
      refine qn_aload_n hX (pc := 34) dX8_weighs_34 1 rfl rfl ?_
      refine qn_getR hX (pc := 35) fd_X8_weighs_7 dX8_weighs_35 k_x0 ?_
      refine qn_iconst hX (pc := 38) dX8_weighs_38 ?_
      refine qn_iald hX (pc := 39) (v := gA m1 (gR (xG X) 800 x0) 3) 684 dX8_weighs_39 (qr_800 hT k_x0) (by decide) (by decide) rfl ?_
      refine qn_sub (ls' := [(0, .ref x0)]) [1] rfl ?_
      exact w_X8_weighs_40 hX hE  k_x0 (hR_m1.a (n := 684) _ (qr_800 hT k_x0) (by decide)) hR_m1 h
    · have h := ite_t h c4
      refine qn_iload_n hX (pc := 30) dX8_weighs_30 0 rfl rfl ?_
      refine qn_goto hX (pc := 31) 40 dX8_weighs_31 (by decide) ?_
      refine qn_sub (ls' := [(0, .ref x0)]) [1] rfl ?_
      exact w_X8_weighs_40 hX hE  k_x0 r_v2 hR_m1 h
  · have h := ite_t h c3
    refine qn_iload_n hX (pc := 16) dX8_weighs_16 2 rfl rfl ?_
    refine qn_goto hX (pc := 17) 40 dX8_weighs_17 (by decide) ?_
    refine qn_sub (ls' := [(0, .ref x0)]) [1] rfl ?_
    exact w_X8_weighs_40 hX hE  k_x0 r_x1 hR_m1 h
theorem k_X8_weighs (l : Launch) {G : qG} (hT : qT G) {N : Nat} {x0 : Nat} {x1 : Int} (k_x0 : gK G x0 = 9) (r_x1 : in32 x1) {m0 : qM} {r : qM} (h : f_X8_weighs N G x0 x1 m0 = some r) : qC l yX8_weighs wsX8_weighs 2 46 G [.ref x0, .int (iZ x1)] m0 none True r := by
  refine qn_start (hy := by decide) hT (hw := rfl) (hn := Nat.le_of_ble_eq_true rfl) ?_
  intro X h1 h2 h3 h4 hX hR
  subst h4
  exact w_X8_weighs hX ⟨h1, fun q => h2 ▸ q, h3⟩ k_x0 r_x1 hR h
theorem dd_X8_weighs : yX8_weighs.cls = RX8 ∧ yX8_weighs.cls ≠ "java/lang/invoke/MethodHandle" ∧ yX8_weighs.cls ≠ "java/lang/invoke/VarHandle" ∧ (parseMethodDescriptor yX8_weighs.desc).map (fun d => d.parameters.length) = some 1 := by decide +kernel
-- ProRataMarketModel.clearing
theorem hi_X8_clearing_8 : ∀ w ∈ wsX80, w ∈ wsX8_clearing := fun w h => List.mem_cons_of_mem _ (List.mem_append_right _ h)
theorem fp_X8_clearing_217 : qFp RX8 wsX8_clearing 217 8 18 0 818 .int := ⟨RX8, TX8, 32, _, tyX8, rfl, hi_X8_clearing_8, by decide, (by decide +kernel : Cond.fieldLink RX8 217 (TX8 18).1 (TX8 18).2.1 (TX8 18).2.2.1 ∈ wsX8_clearing), rfl, rfl, by decide, tyX8_ok, nmX8, rfl, by decide +kernel⟩
theorem fp_X8_clearing_208 : qFp RX8 wsX8_clearing 208 8 19 0 819 .int := ⟨RX8, TX8, 32, _, tyX8, rfl, hi_X8_clearing_8, by decide, (by decide +kernel : Cond.fieldLink RX8 208 (TX8 19).1 (TX8 19).2.1 (TX8 19).2.2.1 ∈ wsX8_clearing), rfl, rfl, by decide, tyX8_ok, nmX8, rfl, by decide +kernel⟩
theorem fp_X8_clearing_214 : qFp RX8 wsX8_clearing 214 8 20 0 820 .int := ⟨RX8, TX8, 32, _, tyX8, rfl, hi_X8_clearing_8, by decide, (by decide +kernel : Cond.fieldLink RX8 214 (TX8 20).1 (TX8 20).2.1 (TX8 20).2.2.1 ∈ wsX8_clearing), rfl, rfl, by decide, tyX8_ok, nmX8, rfl, by decide +kernel⟩
set_option maxHeartbeats 4000000 in
set_option maxRecDepth 20000 in
theorem w_X8_clearing_17 {X : qB} {N : Nat} (hX : qOk X cX8_clearing RX8 2 none wsX8_clearing 3 74) {r : qM} (hE : xr X = none ∧ (True → xΦ X) ∧ xμ X = r) {k17 : (Nat → Int → qM → Option (qM))} (hk17 : ∀ (x0 : Nat) (x1 : Int) (m0 : qM), gK (xG X) x0 = 9 → in32 x1 → qR (xG X) m0 → k17 x0 x1 m0 = some r → qN X 2 17 [(0, .ref x0), (1, .int (iZ x1))] [] m0)
    {x0 : Nat} {x1 : Int} (k_x0 : gK (xG X) x0 = 9) (r_x1 : in32 x1) {m0 : qM} (hR_m0 : qR (xG X) m0)
    (h : f_X8_clearing_17 N (xG X) k17 x0 x1 m0 = some r) : qN X 2 17 [(0, .ref x0), (1, .int (iZ x1))] [] m0 := by
  have hT := hX.T
  unfold f_X8_clearing_17 at h
  refine qn_iload_n hX (pc := 17) dX8_clearing_17 1 rfl rfl ?_
  refine qn_ldc hX (pc := 18) 9999999 dX8_clearing_18 (by decide +kernel : Cond.constant RX8 201 (9999999) ∈ wsX8_clearing) (by decide) ?_
  refine qn_icmp_gt hX (pc := 20) r_x1 (by decide) 39 dX8_clearing_20 (by decide) (fun c1 => ?_) (fun c1 => ?_)
  · have h := ite_t h c1
    exact qn_vret hX (pc := 39) dX8_clearing_39 hE hR_m0 (Option.some.inj h)
  · have h := ite_f h c1
    refine qn_aload_n hX (pc := 23) dX8_clearing_23 0 rfl rfl ?_
    refine qn_iload_n hX (pc := 24) dX8_clearing_24 1 rfl rfl ?_
    obtain ⟨m2, e_m2, h⟩ := kb_e h
    refine qn_callVv hX (pc := 25) [.int (iZ x1)] [.int (iZ x1)] 1 dX8_clearing_25 gX8_clearing_X8_weighs rfl dd_X8_weighs ⟨rfl, rfl⟩ rfl rfl (by decide) k_x0 rfl rfl hR_m0 (k_X8_weighs (xl X) hT k_x0 r_x1 e_m2) (fun r_v3 hR_m2 => ?_)
    refine qn_aload_n hX (pc := 28) dX8_clearing_28 0 rfl rfl ?_
    refine qn_iload_n hX (pc := 29) dX8_clearing_29 1 rfl rfl ?_
    obtain ⟨v5, m4, e_m4, h⟩ := kb2_e h
    refine qn_callVi hX (pc := 30) [.int (iZ x1)] [.int (iZ x1)] 1 dX8_clearing_30 gX8_clearing_X8_endOf rfl dd_X8_endOf ⟨rfl, rfl⟩ rfl rfl (by decide) k_x0 rfl rfl hR_m2 (k_X8_endOf (xl X) hT k_x0 r_x1 e_m4) (fun r_v5 hR_m4 => ?_)
    refine qn_iconst hX (pc := 33) dX8_clearing_33 ?_
    obtain ⟨v6, e_v6, r_v6, h⟩ := ckI_e h
    refine qn_iadd hX (pc := 34) dX8_clearing_34 e_v6 ?_
    refine qn_istore_n hX (pc := 35) (ls' := [(1, .int (iZ v6)), (0, .ref x0)]) dX8_clearing_35 rfl rfl rfl ?_
    refine qn_goto hX (pc := 36) 17 dX8_clearing_36 (by decide) ?_
    refine qn_sub (ls' := [(0, .ref x0), (1, .int (iZ v6))]) [1, 0] rfl ?_
    exact hk17 x0 v6 m4 k_x0 r_v6 hR_m4 h
set_option maxHeartbeats 4000000 in
set_option maxRecDepth 20000 in
theorem w_X8_clearing_L17 {X : qB} {N : Nat} (hX : qOk X cX8_clearing RX8 2 none wsX8_clearing 3 74) {r : qM} (hE : xr X = none ∧ (True → xΦ X) ∧ xμ X = r) 
    {x0 : Nat} {x1 : Int} (k_x0 : gK (xG X) x0 = 9) (r_x1 : in32 x1) {m0 : qM} (hR_m0 : qR (xG X) m0)
    (h : f_X8_clearing_L17 N (xG X)  x0 x1 m0 = some r) : qN X 2 17 [(0, .ref x0), (1, .int (iZ x1))] [] m0 := by
  unfold f_X8_clearing_L17 at h
  exact qLoop_w (σ := Nat × Int × qM) (P := fun p => gK (xG X) p.1 = 9 ∧ in32 p.2.1 ∧ qR (xG X) p.2.2) (Q := fun p => qN X 2 17 [(0, .ref p.1), (1, .int (iZ p.2.1))] [] p.2.2) (fun k hrec p hp hh => w_X8_clearing_17 hX hE (fun x0 x1 m0 q0 q1 hRm hh => hrec (x0, x1, m0) ⟨q0, q1, hRm⟩ hh) hp.1 hp.2.1 hp.2.2 hh) N (x0, x1, m0) ⟨k_x0, r_x1, hR_m0⟩ h
set_option maxHeartbeats 4000000 in
set_option maxRecDepth 20000 in
theorem w_X8_clearing {X : qB} {N : Nat} (hX : qOk X cX8_clearing RX8 2 none wsX8_clearing 3 74) {r : qM} (hE : xr X = none ∧ (True → xΦ X) ∧ xμ X = r) 
    {x0 : Nat} (k_x0 : gK (xG X) x0 = 9) {m0 : qM} (hR_m0 : qR (xG X) m0)
    (h : f_X8_clearing N (xG X)  x0 m0 = some r) : qN X 2 0 [(0, .ref x0)] [] m0 := by
  have hT := hX.T
  unfold f_X8_clearing at h
  refine qn_aload_n hX (pc := 0) dX8_clearing_0 0 rfl rfl ?_
  refine qn_iconst hX (pc := 1) dX8_clearing_1 ?_
  obtain ⟨m1, e_m1, h⟩ := kp_e h
  refine qn_putI hX (pc := 2) fp_X8_clearing_217 dX8_clearing_2 k_x0 hR_m0 (show in32 0 by decide) e_m1 (fun hR_m1 => ?_) 
  refine qn_aload_n hX (pc := 5) dX8_clearing_5 0 rfl rfl ?_
  refine qn_iconst hX (pc := 6) dX8_clearing_6 ?_
  obtain ⟨m2, e_m2, h⟩ := kp_e h
  refine qn_putI hX (pc := 7) fp_X8_clearing_208 dX8_clearing_7 k_x0 hR_m1 (show in32 0 by decide) e_m2 (fun hR_m2 => ?_) 
  refine qn_aload_n hX (pc := 10) dX8_clearing_10 0 rfl rfl ?_
  refine qn_iconst hX (pc := 11) dX8_clearing_11 ?_
  obtain ⟨m3, e_m3, h⟩ := kp_e h
  refine qn_putI hX (pc := 12) fp_X8_clearing_214 dX8_clearing_12 k_x0 hR_m2 (show in32 0 by decide) e_m3 (fun hR_m3 => ?_) 
  refine qn_iconst hX (pc := 15) dX8_clearing_15 ?_
  refine qn_istore_n hX (pc := 16) (ls' := [(1, .int (iZ 1)), (0, .ref x0)]) dX8_clearing_16 rfl rfl rfl ?_
  refine qn_sub (ls' := [(0, .ref x0), (1, .int (iZ 1))]) [1, 0] rfl ?_
  exact w_X8_clearing_L17 hX hE  k_x0 (by decide) hR_m3 h
theorem k_X8_clearing (l : Launch) {G : qG} (hT : qT G) {N : Nat} {x0 : Nat} (k_x0 : gK G x0 = 9) {m0 : qM} {r : qM} (h : f_X8_clearing N G x0 m0 = some r) : qC l yX8_clearing wsX8_clearing 3 74 G [.ref x0] m0 none True r := by
  refine qn_start (hy := by decide) hT (hw := rfl) (hn := Nat.le_of_ble_eq_true rfl) ?_
  intro X h1 h2 h3 h4 hX hR
  subst h4
  exact w_X8_clearing hX ⟨h1, fun q => h2 ▸ q, h3⟩ k_x0 hR h
theorem dd_X8_clearing : yX8_clearing.cls = RX8 ∧ yX8_clearing.cls ≠ "java/lang/invoke/MethodHandle" ∧ yX8_clearing.cls ≠ "java/lang/invoke/VarHandle" ∧ (parseMethodDescriptor yX8_clearing.desc).map (fun d => d.parameters.length) = some 0 := by decide +kernel
-- ProRataMarketModel.clears
theorem hi_X8_clears_8 : ∀ w ∈ wsX80, w ∈ wsX8_clears := fun w h => List.mem_cons_of_mem _ (List.mem_append_right _ h)
theorem fp_X8_clears_45 : qFp RX8 wsX8_clears 45 8 4 0 804 .int := ⟨RX8, TX8, 32, _, tyX8, rfl, hi_X8_clears_8, by decide, (by decide +kernel : Cond.fieldLink RX8 45 (TX8 4).1 (TX8 4).2.1 (TX8 4).2.2.1 ∈ wsX8_clears), rfl, rfl, by decide, tyX8_ok, nmX8, rfl, by decide +kernel⟩
theorem fd_X8_clears_7 : qFd RX8 wsX8_clears 7 8 0 1 800 := ⟨RX8, TX8, 32, _, rfl, hi_X8_clears_8, by decide, (by decide +kernel : Cond.fieldLink RX8 7 (TX8 0).1 (TX8 0).2.1 (TX8 0).2.2.1 ∈ wsX8_clears), rfl, rfl, by decide⟩
theorem fd_X8_clears_214 : qFd RX8 wsX8_clears 214 8 20 0 820 := ⟨RX8, TX8, 32, _, rfl, hi_X8_clears_8, by decide, (by decide +kernel : Cond.fieldLink RX8 214 (TX8 20).1 (TX8 20).2.1 (TX8 20).2.2.1 ∈ wsX8_clears), rfl, rfl, by decide⟩
theorem fd_X8_clears_208 : qFd RX8 wsX8_clears 208 8 19 0 819 := ⟨RX8, TX8, 32, _, rfl, hi_X8_clears_8, by decide, (by decide +kernel : Cond.fieldLink RX8 208 (TX8 19).1 (TX8 19).2.1 (TX8 19).2.2.1 ∈ wsX8_clears), rfl, rfl, by decide⟩
theorem fd_X8_clears_217 : qFd RX8 wsX8_clears 217 8 18 0 818 := ⟨RX8, TX8, 32, _, rfl, hi_X8_clears_8, by decide, (by decide +kernel : Cond.fieldLink RX8 217 (TX8 18).1 (TX8 18).2.1 (TX8 18).2.2.1 ∈ wsX8_clears), rfl, rfl, by decide⟩
set_option maxHeartbeats 4000000 in
set_option maxRecDepth 20000 in
theorem w_X8_clears {X : qB} {N : Nat} (hX : qOk X cX8_clears RX8 2 (some .int) wsX8_clears 4 95) {r : Int} {nu : qM} (hE : xr X = some (.int (iZ r)) ∧ (in32 r → xΦ X) ∧ xμ X = nu) 
    {x0 : Nat} {x1 : Int} (k_x0 : gK (xG X) x0 = 9) (r_x1 : in32 x1) {m0 : qM} (hR_m0 : qR (xG X) m0)
    (h : f_X8_clears N (xG X)  x0 x1 m0 = some (r, nu)) : qN X 2 0 [(0, .ref x0), (1, .int (iZ x1))] [] m0 := by
  have hT := hX.T
  unfold f_X8_clears at h
  refine qn_aload_n hX (pc := 0) dX8_clears_0 0 rfl rfl ?_
  refine qn_iconst hX (pc := 1) dX8_clears_1 ?_
  obtain ⟨m1, e_m1, h⟩ := kp_e h
  refine qn_putI hX (pc := 2) fp_X8_clears_45 dX8_clears_2 k_x0 hR_m0 (show in32 0 by decide) e_m1 (fun hR_m1 => ?_) 
  refine qn_iload_n hX (pc := 5) dX8_clears_5 1 rfl rfl ?_
  refine qn_i2l hX (pc := 6) r_x1 dX8_clears_6 ?_
  refine qn_lconst hX (pc := 7) 0 dX8_clears_7 (by decide) ?_
  refine qn_ldc2 hX (pc := 8) 2 dX8_clears_8 (by decide +kernel : Cond.constantLong RX8 238 (2) ∈ wsX8_clears) (by decide) ?_
  obtain ⟨v3, m2, e_m2, h⟩ := kb2_e h
  refine qn_callSi hX (pc := 11) [.long (lZ x1), .long (lZ 0), .long (lZ 2)] [.long (lZ 2), .long (lZ 0), .long (lZ x1)] 3 dX8_clears_11 gX8_clears_X8_within rfl dd_X8_within ⟨rfl, rfl⟩ rfl rfl rfl hR_m1 (k_X8_within (xl X) hT (in32.l r_x1) (by decide) (by decide) e_m2) (fun r_v3 hR_m2 => ?_)
  refine qn_if_ne hX (pc := 14) r_v3.i 19 dX8_clears_14 (by decide) (fun c4 => ?_) (fun c4 => ?_)
  · have h := ite_f h c4
    refine qn_aload_n hX (pc := 19) dX8_clears_19 0 rfl rfl ?_
    refine qn_getR hX (pc := 20) fd_X8_clears_7 dX8_clears_20 k_x0 ?_
    refine qn_iconst hX (pc := 23) dX8_clears_23 ?_
    refine qn_iald hX (pc := 24) (v := gA m2 (gR (xG X) 800 x0) 2) 684 dX8_clears_24 (qr_800 hT k_x0) (by decide) (by decide) rfl ?_
    refine qn_if_ne hX (pc := 25) (hR_m2.a (n := 684) _ (qr_800 hT k_x0) (by decide)) 30 dX8_clears_25 (by decide) (fun c5 => ?_) (fun c5 => ?_)
    · have h := ite_f h c5
      refine qn_aload_n hX (pc := 30) dX8_clears_30 0 rfl rfl ?_
      obtain ⟨m6, e_m6, h⟩ := kb_e h
      refine qn_callVv hX (pc := 31) [] [] 0 dX8_clears_31 gX8_clears_X8_clearing rfl dd_X8_clearing ⟨rfl, rfl⟩ rfl rfl (by decide) k_x0 rfl rfl hR_m2 (k_X8_clearing (xl X) hT k_x0 e_m6) (fun r_v7 hR_m6 => ?_)
      refine qn_iload_n hX (pc := 34) dX8_clears_34 1 rfl rfl ?_
      refine qn_if_ne hX (pc := 35) r_x1 45 dX8_clears_35 (by decide) (fun c8 => ?_) (fun c8 => ?_)
      · have h := ite_f h c8
        refine qn_iload_n hX (pc := 45) dX8_clears_45 1 rfl rfl ?_
        refine qn_iconst hX (pc := 46) dX8_clears_46 ?_
        refine qn_icmp_ne hX (pc := 47) r_x1 (by decide) 57 dX8_clears_47 (by decide) (fun c9 => ?_) (fun c9 => ?_)
        · have h := ite_f h c9
          refine qn_aload_n hX (pc := 57) dX8_clears_57 0 rfl rfl ?_
          refine qn_getI hX (pc := 58) fd_X8_clears_214 dX8_clears_58 k_x0 ?_
          exact qn_iret hX (pc := 61) dX8_clears_61 hE hR_m6 (hR_m6.i 820 _ rfl) (Option.some.inj h)
        · have h := ite_t h c9
          refine qn_aload_n hX (pc := 50) dX8_clears_50 0 rfl rfl ?_
          refine qn_getI hX (pc := 51) fd_X8_clears_208 dX8_clears_51 k_x0 ?_
          refine qn_goto hX (pc := 54) 61 dX8_clears_54 (by decide) ?_
          exact qn_iret hX (pc := 61) dX8_clears_61 hE hR_m6 (hR_m6.i 819 _ rfl) (Option.some.inj h)
      · have h := ite_t h c8
        refine qn_aload_n hX (pc := 38) dX8_clears_38 0 rfl rfl ?_
        refine qn_getI hX (pc := 39) fd_X8_clears_217 dX8_clears_39 k_x0 ?_
        refine qn_goto hX (pc := 42) 61 dX8_clears_42 (by decide) ?_
        exact qn_iret hX (pc := 61) dX8_clears_61 hE hR_m6 (hR_m6.i 818 _ rfl) (Option.some.inj h)
    · have h := ite_t h c5
      refine qn_iconst hX (pc := 28) dX8_clears_28 ?_
      exact qn_iret hX (pc := 29) dX8_clears_29 hE hR_m2 (by decide) (Option.some.inj h)
  · have h := ite_t h c4
    refine qn_iconst hX (pc := 17) dX8_clears_17 ?_
    exact qn_iret hX (pc := 18) dX8_clears_18 hE hR_m2 (by decide) (Option.some.inj h)
theorem k_X8_clears (l : Launch) {G : qG} (hT : qT G) {N : Nat} {x0 : Nat} {x1 : Int} (k_x0 : gK G x0 = 9) (r_x1 : in32 x1) {m0 : qM} {r : Int} {nu : qM} (h : f_X8_clears N G x0 x1 m0 = some (r, nu)) : qC l yX8_clears wsX8_clears 4 95 G [.ref x0, .int (iZ x1)] m0 (some (.int (iZ r))) (in32 r) nu := by
  refine qn_start (hy := by decide) hT (hw := rfl) (hn := Nat.le_of_ble_eq_true rfl) ?_
  intro X h1 h2 h3 h4 hX hR
  subst h4
  exact w_X8_clears hX ⟨h1, fun q => h2 ▸ q, h3⟩ k_x0 r_x1 hR h
theorem dd_X8_clears : yX8_clears.cls = RX8 ∧ yX8_clears.cls ≠ "java/lang/invoke/MethodHandle" ∧ yX8_clears.cls ≠ "java/lang/invoke/VarHandle" ∧ (parseMethodDescriptor yX8_clears.desc).map (fun d => d.parameters.length) = some 1 := by decide +kernel
-- ProRataMarketModel.comes
theorem hi_X8_comes_8 : ∀ w ∈ wsX80, w ∈ wsX8_comes := fun w h => List.mem_cons_of_mem _ (List.mem_append_right _ h)
theorem fd_X8_comes_7 : qFd RX8 wsX8_comes 7 8 0 1 800 := ⟨RX8, TX8, 32, _, rfl, hi_X8_comes_8, by decide, (by decide +kernel : Cond.fieldLink RX8 7 (TX8 0).1 (TX8 0).2.1 (TX8 0).2.2.1 ∈ wsX8_comes), rfl, rfl, by decide⟩
theorem fp_X8_comes_73 : qFp RX8 wsX8_comes 73 8 11 0 811 .int := ⟨RX8, TX8, 32, _, tyX8, rfl, hi_X8_comes_8, by decide, (by decide +kernel : Cond.fieldLink RX8 73 (TX8 11).1 (TX8 11).2.1 (TX8 11).2.2.1 ∈ wsX8_comes), rfl, rfl, by decide, tyX8_ok, nmX8, rfl, by decide +kernel⟩
theorem fp_X8_comes_87 : qFp RX8 wsX8_comes 87 8 12 0 812 .int := ⟨RX8, TX8, 32, _, tyX8, rfl, hi_X8_comes_8, by decide, (by decide +kernel : Cond.fieldLink RX8 87 (TX8 12).1 (TX8 12).2.1 (TX8 12).2.2.1 ∈ wsX8_comes), rfl, rfl, by decide, tyX8_ok, nmX8, rfl, by decide +kernel⟩
theorem fp_X8_comes_80 : qFp RX8 wsX8_comes 80 8 13 0 813 .int := ⟨RX8, TX8, 32, _, tyX8, rfl, hi_X8_comes_8, by decide, (by decide +kernel : Cond.fieldLink RX8 80 (TX8 13).1 (TX8 13).2.1 (TX8 13).2.2.1 ∈ wsX8_comes), rfl, rfl, by decide, tyX8_ok, nmX8, rfl, by decide +kernel⟩
theorem fp_X8_comes_90 : qFp RX8 wsX8_comes 90 8 14 0 814 .int := ⟨RX8, TX8, 32, _, tyX8, rfl, hi_X8_comes_8, by decide, (by decide +kernel : Cond.fieldLink RX8 90 (TX8 14).1 (TX8 14).2.1 (TX8 14).2.2.1 ∈ wsX8_comes), rfl, rfl, by decide, tyX8_ok, nmX8, rfl, by decide +kernel⟩
theorem fp_X8_comes_93 : qFp RX8 wsX8_comes 93 8 15 0 815 .int := ⟨RX8, TX8, 32, _, tyX8, rfl, hi_X8_comes_8, by decide, (by decide +kernel : Cond.fieldLink RX8 93 (TX8 15).1 (TX8 15).2.1 (TX8 15).2.2.1 ∈ wsX8_comes), rfl, rfl, by decide, tyX8_ok, nmX8, rfl, by decide +kernel⟩
theorem fp_X8_comes_96 : qFp RX8 wsX8_comes 96 8 16 2 816 .long := ⟨RX8, TX8, 32, _, tyX8, rfl, hi_X8_comes_8, by decide, (by decide +kernel : Cond.fieldLink RX8 96 (TX8 16).1 (TX8 16).2.1 (TX8 16).2.2.1 ∈ wsX8_comes), rfl, rfl, by decide, tyX8_ok, nmX8, rfl, by decide +kernel⟩
theorem fp_X8_comes_123 : qFp RX8 wsX8_comes 123 8 17 0 817 .int := ⟨RX8, TX8, 32, _, tyX8, rfl, hi_X8_comes_8, by decide, (by decide +kernel : Cond.fieldLink RX8 123 (TX8 17).1 (TX8 17).2.1 (TX8 17).2.2.1 ∈ wsX8_comes), rfl, rfl, by decide, tyX8_ok, nmX8, rfl, by decide +kernel⟩
set_option maxHeartbeats 4000000 in
set_option maxRecDepth 20000 in
theorem w_X8_comes {X : qB} {N : Nat} (hX : qOk X cX8_comes RX8 3 none wsX8_comes 0 0) {r : qM} (hE : xr X = none ∧ (True → xΦ X) ∧ xμ X = r) 
    {x0 : Nat} {x1 : Int} {x2 : Int} (k_x0 : gK (xG X) x0 = 9) (r_x1 : in32 x1) (r_x2 : in32 x2) {m0 : qM} (hR_m0 : qR (xG X) m0)
    (h : f_X8_comes N (xG X)  x0 x1 x2 m0 = some r) : qN X 3 0 [(0, .ref x0), (1, .int (iZ x1)), (2, .int (iZ x2))] [] m0 := by
  have hT := hX.T
  unfold f_X8_comes at h
  refine qn_aload_n hX (pc := 0) dX8_comes_0 0 rfl rfl ?_
  refine qn_getR hX (pc := 1) fd_X8_comes_7 dX8_comes_1 k_x0 ?_
  refine qn_iconst hX (pc := 4) dX8_comes_4 ?_
  refine qn_dup2 hX (pc := 5) dX8_comes_5 rfl rfl ?_
  refine qn_iald hX (pc := 6) (v := gA m0 (gR (xG X) 800 x0) 4) 684 dX8_comes_6 (qr_800 hT k_x0) (by decide) (by decide) rfl ?_
  refine qn_iconst hX (pc := 7) dX8_comes_7 ?_
  obtain ⟨v1, e_v1, r_v1, h⟩ := ckI_e h
  refine qn_iadd hX (pc := 8) dX8_comes_8 e_v1 ?_
  obtain ⟨m2, e_m2, h⟩ := kp_e h
  refine qn_iast hX (pc := 9) 684 dX8_comes_9 (qr_800 hT k_x0) (by decide) (by decide) hR_m0 r_v1 e_m2 (fun hR_m2 => ?_) 
  refine qn_aload_n hX (pc := 10) dX8_comes_10 0 rfl rfl ?_
  refine qn_aload_n hX (pc := 11) dX8_comes_11 0 rfl rfl ?_
  refine qn_getR hX (pc := 12) fd_X8_comes_7 dX8_comes_12 k_x0 ?_
  refine qn_iconst hX (pc := 15) dX8_comes_15 ?_
  refine qn_iald hX (pc := 16) (v := gA m2 (gR (xG X) 800 x0) 4) 684 dX8_comes_16 (qr_800 hT k_x0) (by decide) (by decide) rfl ?_
  obtain ⟨m3, e_m3, h⟩ := kp_e h
  refine qn_putI hX (pc := 17) fp_X8_comes_73 dX8_comes_17 k_x0 hR_m2 (hR_m2.a (n := 684) _ (qr_800 hT k_x0) (by decide)) e_m3 (fun hR_m3 => ?_) 
  refine qn_aload_n hX (pc := 20) dX8_comes_20 0 rfl rfl ?_
  refine qn_iload_n hX (pc := 21) dX8_comes_21 1 rfl rfl ?_
  obtain ⟨m4, e_m4, h⟩ := kp_e h
  refine qn_putI hX (pc := 22) fp_X8_comes_87 dX8_comes_22 k_x0 hR_m3 r_x1 e_m4 (fun hR_m4 => ?_) 
  refine qn_aload_n hX (pc := 25) dX8_comes_25 0 rfl rfl ?_
  refine qn_iload_n hX (pc := 26) dX8_comes_26 2 rfl rfl ?_
  obtain ⟨m5, e_m5, h⟩ := kp_e h
  refine qn_putI hX (pc := 27) fp_X8_comes_80 dX8_comes_27 k_x0 hR_m4 r_x2 e_m5 (fun hR_m5 => ?_) 
  refine qn_aload_n hX (pc := 30) dX8_comes_30 0 rfl rfl ?_
  refine qn_iconst hX (pc := 31) dX8_comes_31 ?_
  obtain ⟨m6, e_m6, h⟩ := kp_e h
  refine qn_putI hX (pc := 32) fp_X8_comes_90 dX8_comes_32 k_x0 hR_m5 (show in32 0 by decide) e_m6 (fun hR_m6 => ?_) 
  refine qn_aload_n hX (pc := 35) dX8_comes_35 0 rfl rfl ?_
  refine qn_iconst hX (pc := 36) dX8_comes_36 ?_
  obtain ⟨m7, e_m7, h⟩ := kp_e h
  refine qn_putI hX (pc := 37) fp_X8_comes_93 dX8_comes_37 k_x0 hR_m6 (show in32 0 by decide) e_m7 (fun hR_m7 => ?_) 
  refine qn_aload_n hX (pc := 40) dX8_comes_40 0 rfl rfl ?_
  refine qn_lconst hX (pc := 41) 0 dX8_comes_41 (by decide) ?_
  obtain ⟨m8, e_m8, h⟩ := kp_e h
  refine qn_putJ hX (pc := 42) fp_X8_comes_96 dX8_comes_42 k_x0 hR_m7 (show in64 0 by decide) e_m8 (fun hR_m8 => ?_) 
  refine qn_aload_n hX (pc := 45) dX8_comes_45 0 rfl rfl ?_
  refine qn_iconst hX (pc := 46) dX8_comes_46 ?_
  obtain ⟨m9, e_m9, h⟩ := kp_e h
  refine qn_putI hX (pc := 47) fp_X8_comes_123 dX8_comes_47 k_x0 hR_m8 (show in32 0 by decide) e_m9 (fun hR_m9 => ?_) 
  exact qn_vret hX (pc := 50) dX8_comes_50 hE hR_m9 (Option.some.inj h)
theorem k_X8_comes (l : Launch) {G : qG} (hT : qT G) {N : Nat} {x0 : Nat} {x1 : Int} {x2 : Int} (k_x0 : gK G x0 = 9) (r_x1 : in32 x1) (r_x2 : in32 x2) {m0 : qM} {r : qM} (h : f_X8_comes N G x0 x1 x2 m0 = some r) : qC l yX8_comes wsX8_comes 0 0 G [.ref x0, .int (iZ x1), .int (iZ x2)] m0 none True r := by
  refine qn_start (hy := by decide) hT (hw := rfl) (hn := Nat.le_of_ble_eq_true rfl) ?_
  intro X h1 h2 h3 h4 hX hR
  subst h4
  exact w_X8_comes hX ⟨h1, fun q => h2 ▸ q, h3⟩ k_x0 r_x1 r_x2 hR h
theorem dd_X8_comes : yX8_comes.cls = RX8 ∧ yX8_comes.cls ≠ "java/lang/invoke/MethodHandle" ∧ yX8_comes.cls ≠ "java/lang/invoke/VarHandle" ∧ (parseMethodDescriptor yX8_comes.desc).map (fun d => d.parameters.length) = some 2 := by decide +kernel
-- ProRataMarketModel.count
theorem hi_X8_count_8 : ∀ w ∈ wsX80, w ∈ wsX8_count := fun w h => List.mem_cons_of_mem _ (List.mem_append_right _ h)
theorem fp_X8_count_45 : qFp RX8 wsX8_count 45 8 4 0 804 .int := ⟨RX8, TX8, 32, _, tyX8, rfl, hi_X8_count_8, by decide, (by decide +kernel : Cond.fieldLink RX8 45 (TX8 4).1 (TX8 4).2.1 (TX8 4).2.2.1 ∈ wsX8_count), rfl, rfl, by decide, tyX8_ok, nmX8, rfl, by decide +kernel⟩
theorem fd_X8_count_7 : qFd RX8 wsX8_count 7 8 0 1 800 := ⟨RX8, TX8, 32, _, rfl, hi_X8_count_8, by decide, (by decide +kernel : Cond.fieldLink RX8 7 (TX8 0).1 (TX8 0).2.1 (TX8 0).2.2.1 ∈ wsX8_count), rfl, rfl, by decide⟩
theorem fd_X8_count_264 : qFd RX8 wsX8_count 264 8 22 0 822 := ⟨RX8, TX8, 32, _, rfl, hi_X8_count_8, by decide, (by decide +kernel : Cond.fieldLink RX8 264 (TX8 22).1 (TX8 22).2.1 (TX8 22).2.2.1 ∈ wsX8_count), rfl, rfl, by decide⟩
set_option maxHeartbeats 4000000 in
set_option maxRecDepth 20000 in
theorem w_X8_count {X : qB} {N : Nat} (hX : qOk X cX8_count RX8 2 (some .int) wsX8_count 0 0) {r : Int} {nu : qM} (hE : xr X = some (.int (iZ r)) ∧ (in32 r → xΦ X) ∧ xμ X = nu) 
    {x0 : Nat} {x1 : Int} (k_x0 : gK (xG X) x0 = 9) (r_x1 : in32 x1) {m0 : qM} (hR_m0 : qR (xG X) m0)
    (h : f_X8_count N (xG X)  x0 x1 m0 = some (r, nu)) : qN X 2 0 [(0, .ref x0), (1, .int (iZ x1))] [] m0 := by
  have hT := hX.T
  unfold f_X8_count at h
  refine qn_aload_n hX (pc := 0) dX8_count_0 0 rfl rfl ?_
  refine qn_iconst hX (pc := 1) dX8_count_1 ?_
  obtain ⟨m1, e_m1, h⟩ := kp_e h
  refine qn_putI hX (pc := 2) fp_X8_count_45 dX8_count_2 k_x0 hR_m0 (show in32 0 by decide) e_m1 (fun hR_m1 => ?_) 
  refine qn_iload_n hX (pc := 5) dX8_count_5 1 rfl rfl ?_
  by_cases c2 : x1 = 0
  · have h := ite_t h c2
    refine qn_tswIn hX (pc := 6) r_x1 64 dX8_count_6 0 c2 (by decide) rfl (by decide) ?_
    refine qn_aload_n hX (pc := 64) dX8_count_64 0 rfl rfl ?_
    refine qn_getR hX (pc := 65) fd_X8_count_7 dX8_count_65 k_x0 ?_
    refine qn_iconst hX (pc := 68) dX8_count_68 ?_
    refine qn_iald hX (pc := 69) (v := gA m1 (gR (xG X) 800 x0) 5) 684 dX8_count_69 (qr_800 hT k_x0) (by decide) (by decide) rfl ?_
    exact qn_iret hX (pc := 70) dX8_count_70 hE hR_m1 (hR_m1.a (n := 684) _ (qr_800 hT k_x0) (by decide)) (Option.some.inj h)
  have h := ite_f h c2
  by_cases c3 : x1 = 1
  · have h := ite_t h c3
    refine qn_tswIn hX (pc := 6) r_x1 71 dX8_count_6 1 c3 (by decide) rfl (by decide) ?_
    refine qn_aload_n hX (pc := 71) dX8_count_71 0 rfl rfl ?_
    refine qn_getR hX (pc := 72) fd_X8_count_7 dX8_count_72 k_x0 ?_
    refine qn_iconst hX (pc := 75) dX8_count_75 ?_
    refine qn_iald hX (pc := 76) (v := gA m1 (gR (xG X) 800 x0) 2) 684 dX8_count_76 (qr_800 hT k_x0) (by decide) (by decide) rfl ?_
    exact qn_iret hX (pc := 77) dX8_count_77 hE hR_m1 (hR_m1.a (n := 684) _ (qr_800 hT k_x0) (by decide)) (Option.some.inj h)
  have h := ite_f h c3
  by_cases c4 : x1 = 2
  · have h := ite_t h c4
    refine qn_tswIn hX (pc := 6) r_x1 78 dX8_count_6 2 c4 (by decide) rfl (by decide) ?_
    refine qn_aload_n hX (pc := 78) dX8_count_78 0 rfl rfl ?_
    refine qn_getR hX (pc := 79) fd_X8_count_7 dX8_count_79 k_x0 ?_
    refine qn_iconst hX (pc := 82) dX8_count_82 ?_
    refine qn_iald hX (pc := 83) (v := gA m1 (gR (xG X) 800 x0) 3) 684 dX8_count_83 (qr_800 hT k_x0) (by decide) (by decide) rfl ?_
    exact qn_iret hX (pc := 84) dX8_count_84 hE hR_m1 (hR_m1.a (n := 684) _ (qr_800 hT k_x0) (by decide)) (Option.some.inj h)
  have h := ite_f h c4
  by_cases c5 : x1 = 3
  · have h := ite_t h c5
    refine qn_tswIn hX (pc := 6) r_x1 85 dX8_count_6 3 c5 (by decide) rfl (by decide) ?_
    refine qn_aload_n hX (pc := 85) dX8_count_85 0 rfl rfl ?_
    refine qn_getR hX (pc := 86) fd_X8_count_7 dX8_count_86 k_x0 ?_
    refine qn_iconst hX (pc := 89) dX8_count_89 ?_
    refine qn_iald hX (pc := 90) (v := gA m1 (gR (xG X) 800 x0) 0) 684 dX8_count_90 (qr_800 hT k_x0) (by decide) (by decide) rfl ?_
    exact qn_iret hX (pc := 91) dX8_count_91 hE hR_m1 (hR_m1.a (n := 684) _ (qr_800 hT k_x0) (by decide)) (Option.some.inj h)
  have h := ite_f h c5
  by_cases c6 : x1 = 4
  · have h := ite_t h c6
    refine qn_tswIn hX (pc := 6) r_x1 92 dX8_count_6 4 c6 (by decide) rfl (by decide) ?_
    refine qn_aload_n hX (pc := 92) dX8_count_92 0 rfl rfl ?_
    refine qn_getR hX (pc := 93) fd_X8_count_7 dX8_count_93 k_x0 ?_
    refine qn_iconst hX (pc := 96) dX8_count_96 ?_
    refine qn_iald hX (pc := 97) (v := gA m1 (gR (xG X) 800 x0) 1) 684 dX8_count_97 (qr_800 hT k_x0) (by decide) (by decide) rfl ?_
    exact qn_iret hX (pc := 98) dX8_count_98 hE hR_m1 (hR_m1.a (n := 684) _ (qr_800 hT k_x0) (by decide)) (Option.some.inj h)
  have h := ite_f h c6
  by_cases c7 : x1 = 5
  · have h := ite_t h c7
    refine qn_tswIn hX (pc := 6) r_x1 99 dX8_count_6 5 c7 (by decide) rfl (by decide) ?_
    refine qn_aload_n hX (pc := 99) dX8_count_99 0 rfl rfl ?_
    refine qn_getR hX (pc := 100) fd_X8_count_7 dX8_count_100 k_x0 ?_
    refine qn_iconst hX (pc := 103) dX8_count_103 ?_
    refine qn_iald hX (pc := 104) (v := gA m1 (gR (xG X) 800 x0) 4) 684 dX8_count_104 (qr_800 hT k_x0) (by decide) (by decide) rfl ?_
    exact qn_iret hX (pc := 105) dX8_count_105 hE hR_m1 (hR_m1.a (n := 684) _ (qr_800 hT k_x0) (by decide)) (Option.some.inj h)
  have h := ite_f h c7
  by_cases c8 : x1 = 6
  · have h := ite_t h c8
    refine qn_tswIn hX (pc := 6) r_x1 106 dX8_count_6 6 c8 (by decide) rfl (by decide) ?_
    refine qn_aload_n hX (pc := 106) dX8_count_106 0 rfl rfl ?_
    refine qn_getI hX (pc := 107) fd_X8_count_264 dX8_count_107 k_x0 ?_
    exact qn_iret hX (pc := 110) dX8_count_110 hE hR_m1 (hR_m1.i 822 _ rfl) (Option.some.inj h)
  have h := ite_f h c8
  by_cases c9 : x1 = 7
  · have h := ite_t h c9
    refine qn_tswIn hX (pc := 6) r_x1 111 dX8_count_6 7 c9 (by decide) rfl (by decide) ?_
    refine qn_aload_n hX (pc := 111) dX8_count_111 0 rfl rfl ?_
    refine qn_getR hX (pc := 112) fd_X8_count_7 dX8_count_112 k_x0 ?_
    refine qn_bipush hX (pc := 115) dX8_count_115 (by decide) ?_
    refine qn_iald hX (pc := 117) (v := gA m1 (gR (xG X) 800 x0) 10) 684 dX8_count_117 (qr_800 hT k_x0) (by decide) (by decide) rfl ?_
    exact qn_iret hX (pc := 118) dX8_count_118 hE hR_m1 (hR_m1.a (n := 684) _ (qr_800 hT k_x0) (by decide)) (Option.some.inj h)
  have h := ite_f h c9
  by_cases c10 : x1 = 8
  · have h := ite_t h c10
    refine qn_tswIn hX (pc := 6) r_x1 119 dX8_count_6 8 c10 (by decide) rfl (by decide) ?_
    refine qn_aload_n hX (pc := 119) dX8_count_119 0 rfl rfl ?_
    refine qn_getR hX (pc := 120) fd_X8_count_7 dX8_count_120 k_x0 ?_
    refine qn_bipush hX (pc := 123) dX8_count_123 (by decide) ?_
    refine qn_iald hX (pc := 125) (v := gA m1 (gR (xG X) 800 x0) 11) 684 dX8_count_125 (qr_800 hT k_x0) (by decide) (by decide) rfl ?_
    exact qn_iret hX (pc := 126) dX8_count_126 hE hR_m1 (hR_m1.a (n := 684) _ (qr_800 hT k_x0) (by decide)) (Option.some.inj h)
  have h := ite_f h c10
  by_cases c11 : x1 = 9
  · have h := ite_t h c11
    refine qn_tswIn hX (pc := 6) r_x1 127 dX8_count_6 9 c11 (by decide) rfl (by decide) ?_
    refine qn_aload_n hX (pc := 127) dX8_count_127 0 rfl rfl ?_
    refine qn_getR hX (pc := 128) fd_X8_count_7 dX8_count_128 k_x0 ?_
    refine qn_bipush hX (pc := 131) dX8_count_131 (by decide) ?_
    refine qn_iald hX (pc := 133) (v := gA m1 (gR (xG X) 800 x0) 12) 684 dX8_count_133 (qr_800 hT k_x0) (by decide) (by decide) rfl ?_
    exact qn_iret hX (pc := 134) dX8_count_134 hE hR_m1 (hR_m1.a (n := 684) _ (qr_800 hT k_x0) (by decide)) (Option.some.inj h)
  have h := ite_f h c11
  by_cases c12 : x1 = 10
  · have h := ite_t h c12
    refine qn_tswIn hX (pc := 6) r_x1 135 dX8_count_6 10 c12 (by decide) rfl (by decide) ?_
    refine qn_aload_n hX (pc := 135) dX8_count_135 0 rfl rfl ?_
    refine qn_getR hX (pc := 136) fd_X8_count_7 dX8_count_136 k_x0 ?_
    refine qn_bipush hX (pc := 139) dX8_count_139 (by decide) ?_
    refine qn_iald hX (pc := 141) (v := gA m1 (gR (xG X) 800 x0) 13) 684 dX8_count_141 (qr_800 hT k_x0) (by decide) (by decide) rfl ?_
    exact qn_iret hX (pc := 142) dX8_count_142 hE hR_m1 (hR_m1.a (n := 684) _ (qr_800 hT k_x0) (by decide)) (Option.some.inj h)
  have h := ite_f h c12
  refine qn_tswOut hX (pc := 6) r_x1 143 dX8_count_6 (by omega) (by decide) ?_
  refine qn_iconst hX (pc := 143) dX8_count_143 ?_
  exact qn_iret hX (pc := 144) dX8_count_144 hE hR_m1 (by decide) (Option.some.inj h)
theorem k_X8_count (l : Launch) {G : qG} (hT : qT G) {N : Nat} {x0 : Nat} {x1 : Int} (k_x0 : gK G x0 = 9) (r_x1 : in32 x1) {m0 : qM} {r : Int} {nu : qM} (h : f_X8_count N G x0 x1 m0 = some (r, nu)) : qC l yX8_count wsX8_count 0 0 G [.ref x0, .int (iZ x1)] m0 (some (.int (iZ r))) (in32 r) nu := by
  refine qn_start (hy := by decide) hT (hw := rfl) (hn := Nat.le_of_ble_eq_true rfl) ?_
  intro X h1 h2 h3 h4 hX hR
  subst h4
  exact w_X8_count hX ⟨h1, fun q => h2 ▸ q, h3⟩ k_x0 r_x1 hR h
theorem dd_X8_count : yX8_count.cls = RX8 ∧ yX8_count.cls ≠ "java/lang/invoke/MethodHandle" ∧ yX8_count.cls ≠ "java/lang/invoke/VarHandle" ∧ (parseMethodDescriptor yX8_count.desc).map (fun d => d.parameters.length) = some 1 := by decide +kernel
-- ProRataMarketModel.setOrder
theorem hi_X8_setOrder_8 : ∀ w ∈ wsX80, w ∈ wsX8_setOrder := fun w h => List.mem_cons_of_mem _ (List.mem_append_right _ h)
theorem fd_X8_setOrder_7 : qFd RX8 wsX8_setOrder 7 8 0 1 800 := ⟨RX8, TX8, 32, _, rfl, hi_X8_setOrder_8, by decide, (by decide +kernel : Cond.fieldLink RX8 7 (TX8 0).1 (TX8 0).2.1 (TX8 0).2.2.1 ∈ wsX8_setOrder), rfl, rfl, by decide⟩
set_option maxHeartbeats 4000000 in
set_option maxRecDepth 20000 in
theorem w_X8_setOrder {X : qB} {N : Nat} (hX : qOk X cX8_setOrder RX8 4 none wsX8_setOrder 0 0) {r : qM} (hE : xr X = none ∧ (True → xΦ X) ∧ xμ X = r) 
    {x0 : Nat} {x1 : Int} {x2 : Int} {x3 : Int} (k_x0 : gK (xG X) x0 = 9) (r_x1 : in32 x1) (r_x2 : in32 x2) (r_x3 : in32 x3) {m0 : qM} (hR_m0 : qR (xG X) m0)
    (h : f_X8_setOrder N (xG X)  x0 x1 x2 x3 m0 = some r) : qN X 4 0 [(0, .ref x0), (1, .int (iZ x1)), (2, .int (iZ x2)), (3, .int (iZ x3))] [] m0 := by
  have hT := hX.T
  unfold f_X8_setOrder at h
  refine qn_aload_n hX (pc := 0) dX8_setOrder_0 0 rfl rfl ?_
  refine qn_getR hX (pc := 1) fd_X8_setOrder_7 dX8_setOrder_1 k_x0 ?_
  refine qn_bipush hX (pc := 4) dX8_setOrder_4 (by decide) ?_
  refine qn_bipush hX (pc := 6) dX8_setOrder_6 (by decide) ?_
  refine qn_iload_n hX (pc := 8) dX8_setOrder_8 1 rfl rfl ?_
  obtain ⟨v1, e_v1, r_v1, h⟩ := ckI_e h
  refine qn_imul hX (pc := 9) dX8_setOrder_9 e_v1 ?_
  obtain ⟨v2, e_v2, r_v2, h⟩ := ckI_e h
  refine qn_iadd hX (pc := 10) dX8_setOrder_10 e_v2 ?_
  refine qn_iload_n hX (pc := 11) dX8_setOrder_11 2 rfl rfl ?_
  obtain ⟨v3, e_v3, r_v3, h⟩ := ckI_e h
  refine qn_iadd hX (pc := 12) dX8_setOrder_12 e_v3 ?_
  refine qn_iload_n hX (pc := 13) dX8_setOrder_13 3 rfl rfl ?_
  obtain ⟨m4, e_m4, b_m4, h⟩ := wrA_e h
  refine qn_iast hX (pc := 14) 684 dX8_setOrder_14 (qr_800 hT k_x0) (by decide) b_m4 hR_m0 r_x3 e_m4 (fun hR_m4 => ?_) 
  exact qn_vret hX (pc := 15) dX8_setOrder_15 hE hR_m4 (Option.some.inj h)
theorem k_X8_setOrder (l : Launch) {G : qG} (hT : qT G) {N : Nat} {x0 : Nat} {x1 : Int} {x2 : Int} {x3 : Int} (k_x0 : gK G x0 = 9) (r_x1 : in32 x1) (r_x2 : in32 x2) (r_x3 : in32 x3) {m0 : qM} {r : qM} (h : f_X8_setOrder N G x0 x1 x2 x3 m0 = some r) : qC l yX8_setOrder wsX8_setOrder 0 0 G [.ref x0, .int (iZ x1), .int (iZ x2), .int (iZ x3)] m0 none True r := by
  refine qn_start (hy := by decide) hT (hw := rfl) (hn := Nat.le_of_ble_eq_true rfl) ?_
  intro X h1 h2 h3 h4 hX hR
  subst h4
  exact w_X8_setOrder hX ⟨h1, fun q => h2 ▸ q, h3⟩ k_x0 r_x1 r_x2 r_x3 hR h
theorem dd_X8_setOrder : yX8_setOrder.cls = RX8 ∧ yX8_setOrder.cls ≠ "java/lang/invoke/MethodHandle" ∧ yX8_setOrder.cls ≠ "java/lang/invoke/VarHandle" ∧ (parseMethodDescriptor yX8_setOrder.desc).map (fun d => d.parameters.length) = some 3 := by decide +kernel
-- ProRataMarketModel.cuts
theorem hi_X8_cuts_8 : ∀ w ∈ wsX80, w ∈ wsX8_cuts := fun w h => List.mem_cons_of_mem _ (List.mem_append_right _ h)
theorem fd_X8_cuts_7 : qFd RX8 wsX8_cuts 7 8 0 1 800 := ⟨RX8, TX8, 32, _, rfl, hi_X8_cuts_8, by decide, (by decide +kernel : Cond.fieldLink RX8 7 (TX8 0).1 (TX8 0).2.1 (TX8 0).2.2.1 ∈ wsX8_cuts), rfl, rfl, by decide⟩
set_option maxHeartbeats 4000000 in
set_option maxRecDepth 20000 in
theorem w_X8_cuts {X : qB} {N : Nat} (hX : qOk X cX8_cuts RX8 6 (some .int) wsX8_cuts 2 44) {r : Int} {nu : qM} (hE : xr X = some (.int (iZ r)) ∧ (in32 r → xΦ X) ∧ xμ X = nu) 
    {x0 : Nat} {x1 : Int} {x2 : Int} (k_x0 : gK (xG X) x0 = 9) (r_x1 : in32 x1) (r_x2 : in32 x2) {m0 : qM} (hR_m0 : qR (xG X) m0)
    (h : f_X8_cuts N (xG X)  x0 x1 x2 m0 = some (r, nu)) : qN X 6 0 [(0, .ref x0), (1, .int (iZ x1)), (2, .int (iZ x2))] [] m0 := by
  have hT := hX.T
  unfold f_X8_cuts at h
  refine qn_aload_n hX (pc := 0) dX8_cuts_0 0 rfl rfl ?_
  refine qn_iload_n hX (pc := 1) dX8_cuts_1 1 rfl rfl ?_
  obtain ⟨v2, m1, e_m1, h⟩ := kb2_e h
  refine qn_callVi hX (pc := 2) [.int (iZ x1)] [.int (iZ x1)] 1 dX8_cuts_2 gX8_cuts_X8_placeOf rfl dd_X8_placeOf ⟨rfl, rfl⟩ rfl rfl (by decide) k_x0 rfl rfl hR_m0 (k_X8_placeOf (xl X) hT k_x0 r_x1 e_m1) (fun r_v2 hR_m1 => ?_)
  refine qn_istore_n hX (pc := 5) (ls' := [(3, .int (iZ v2)), (0, .ref x0), (1, .int (iZ x1)), (2, .int (iZ x2))]) dX8_cuts_5 rfl rfl rfl ?_
  refine qn_iload_n hX (pc := 6) dX8_cuts_6 0 rfl rfl ?_
  refine qn_if_lt hX (pc := 7) r_v2 25 dX8_cuts_7 (by decide) (fun c3 => ?_) (fun c3 => ?_)
  · have h := ite_t h c3
    refine qn_iconst hX (pc := 25) dX8_cuts_25 ?_
    exact qn_iret hX (pc := 26) dX8_cuts_26 hE hR_m1 (by decide) (Option.some.inj h)
  · have h := ite_f h c3
    refine qn_iload_n hX (pc := 10) dX8_cuts_10 3 rfl rfl ?_
    refine qn_iconst hX (pc := 11) dX8_cuts_11 ?_
    refine qn_icmp_lt hX (pc := 12) r_x2 (by decide) 25 dX8_cuts_12 (by decide) (fun c4 => ?_) (fun c4 => ?_)
    · have h := ite_t h c4
      refine qn_iconst hX (pc := 25) dX8_cuts_25 ?_
      exact qn_iret hX (pc := 26) dX8_cuts_26 hE hR_m1 (by decide) (Option.some.inj h)
    · have h := ite_f h c4
      refine qn_iload_n hX (pc := 15) dX8_cuts_15 3 rfl rfl ?_
      refine qn_aload_n hX (pc := 16) dX8_cuts_16 1 rfl rfl ?_
      refine qn_iload_n hX (pc := 17) dX8_cuts_17 0 rfl rfl ?_
      refine qn_iconst hX (pc := 18) dX8_cuts_18 ?_
      obtain ⟨v6, m5, e_m5, h⟩ := kb2_e h
      refine qn_callVi hX (pc := 19) [.int (iZ v2), .int (iZ 4)] [.int (iZ 4), .int (iZ v2)] 2 dX8_cuts_19 gX8_cuts_X8_ofOrder rfl dd_X8_ofOrder ⟨rfl, rfl⟩ rfl rfl (by decide) k_x0 rfl rfl hR_m1 (k_X8_ofOrder (xl X) hT k_x0 r_v2 (by decide) e_m5) (fun r_v6 hR_m5 => ?_)
      refine qn_icmp_lt hX (pc := 22) r_x2 r_v6 27 dX8_cuts_22 (by decide) (fun c7 => ?_) (fun c7 => ?_)
      · have h := ite_t h c7
        refine qn_aload_n hX (pc := 27) dX8_cuts_27 1 rfl rfl ?_
        refine qn_iload_n hX (pc := 28) dX8_cuts_28 0 rfl rfl ?_
        refine qn_iconst hX (pc := 29) dX8_cuts_29 ?_
        obtain ⟨v9, m8, e_m8, h⟩ := kb2_e h
        refine qn_callVi hX (pc := 30) [.int (iZ v2), .int (iZ 4)] [.int (iZ 4), .int (iZ v2)] 2 dX8_cuts_30 gX8_cuts_X8_ofOrder rfl dd_X8_ofOrder ⟨rfl, rfl⟩ rfl rfl (by decide) k_x0 rfl rfl hR_m5 (k_X8_ofOrder (xl X) hT k_x0 r_v2 (by decide) e_m8) (fun r_v9 hR_m8 => ?_)
        refine qn_istore hX (pc := 33) (ls' := [(4, .int (iZ v9)), (3, .int (iZ v2)), (0, .ref x0), (1, .int (iZ x1)), (2, .int (iZ x2))]) dX8_cuts_33 rfl rfl ?_
        refine qn_aload_n hX (pc := 35) dX8_cuts_35 2 rfl rfl ?_
        refine qn_iload_n hX (pc := 36) dX8_cuts_36 1 rfl rfl ?_
        refine qn_iconst hX (pc := 37) dX8_cuts_37 ?_
        obtain ⟨v11, m10, e_m10, h⟩ := kb2_e h
        refine qn_callVi hX (pc := 38) [.int (iZ v2), .int (iZ 2)] [.int (iZ 2), .int (iZ v2)] 2 dX8_cuts_38 gX8_cuts_X8_ofOrder rfl dd_X8_ofOrder ⟨rfl, rfl⟩ rfl rfl (by decide) k_x0 rfl rfl hR_m8 (k_X8_ofOrder (xl X) hT k_x0 r_v2 (by decide) e_m10) (fun r_v11 hR_m10 => ?_)
        refine qn_istore hX (pc := 41) (ls' := [(5, .int (iZ v11)), (4, .int (iZ v9)), (3, .int (iZ v2)), (0, .ref x0), (1, .int (iZ x1)), (2, .int (iZ x2))]) dX8_cuts_41 rfl rfl ?_
        refine qn_aload_n hX (pc := 43) dX8_cuts_43 3 rfl rfl ?_
        refine qn_iload_n hX (pc := 44) dX8_cuts_44 2 rfl rfl ?_
        refine qn_iconst hX (pc := 45) dX8_cuts_45 ?_
        refine qn_iload_n hX (pc := 46) dX8_cuts_46 5 rfl rfl ?_
        obtain ⟨m12, e_m12, h⟩ := kb_e h
        refine qn_callVv hX (pc := 47) [.int (iZ v2), .int (iZ 4), .int (iZ x2)] [.int (iZ x2), .int (iZ 4), .int (iZ v2)] 3 dX8_cuts_47 gX8_cuts_X8_setOrder rfl dd_X8_setOrder ⟨rfl, rfl⟩ rfl rfl (by decide) k_x0 rfl rfl hR_m10 (k_X8_setOrder (xl X) hT k_x0 r_v2 (by decide) r_x2 e_m12) (fun r_v13 hR_m12 => ?_)
        refine qn_aload_n hX (pc := 50) dX8_cuts_50 3 rfl rfl ?_
        refine qn_getR hX (pc := 51) fd_X8_cuts_7 dX8_cuts_51 k_x0 ?_
        refine qn_bipush hX (pc := 54) dX8_cuts_54 (by decide) ?_
        refine qn_iload hX (pc := 56) dX8_cuts_56 0 rfl ?_
        obtain ⟨v14, e_v14, r_v14, h⟩ := ckI_e h
        refine qn_iadd hX (pc := 58) dX8_cuts_58 e_v14 ?_
        obtain ⟨v15, e_v15, b_v15, h⟩ := rdA_e h
        have r_v15 : in32 v15 := by rw [e_v15]; exact hR_m12.a (n := 684) _ (qr_800 hT k_x0) (by decide)
        refine qn_iald hX (pc := 59) 684 dX8_cuts_59 (qr_800 hT k_x0) (by decide) b_v15 e_v15 ?_
        refine qn_iload_n hX (pc := 60) dX8_cuts_60 4 rfl rfl ?_
        refine qn_icmp_ne hX (pc := 61) r_v15 r_x1 70 dX8_cuts_61 (by decide) (fun c16 => ?_) (fun c16 => ?_)
        · have h := ite_f h c16
          refine qn_iload hX (pc := 70) dX8_cuts_70 1 rfl ?_
          exact qn_iret hX (pc := 72) dX8_cuts_72 hE hR_m12 r_v9 (Option.some.inj h)
        · have h := ite_t h c16
          refine qn_aload_n hX (pc := 64) dX8_cuts_64 3 rfl rfl ?_
          refine qn_iload hX (pc := 65) dX8_cuts_65 0 rfl ?_
          obtain ⟨m17, e_m17, h⟩ := kb_e h
          refine qn_callVv hX (pc := 67) [.int (iZ v11)] [.int (iZ v11)] 1 dX8_cuts_67 gX8_cuts_X8_lapses rfl dd_X8_lapses ⟨rfl, rfl⟩ rfl rfl (by decide) k_x0 rfl rfl hR_m12 (k_X8_lapses (xl X) hT k_x0 r_v11 e_m17) (fun r_v18 hR_m17 => ?_)
          refine qn_iload hX (pc := 70) dX8_cuts_70 1 rfl ?_
          exact qn_iret hX (pc := 72) dX8_cuts_72 hE hR_m17 r_v9 (Option.some.inj h)
      · have h := ite_f h c7
        refine qn_iconst hX (pc := 25) dX8_cuts_25 ?_
        exact qn_iret hX (pc := 26) dX8_cuts_26 hE hR_m5 (by decide) (Option.some.inj h)
theorem k_X8_cuts (l : Launch) {G : qG} (hT : qT G) {N : Nat} {x0 : Nat} {x1 : Int} {x2 : Int} (k_x0 : gK G x0 = 9) (r_x1 : in32 x1) (r_x2 : in32 x2) {m0 : qM} {r : Int} {nu : qM} (h : f_X8_cuts N G x0 x1 x2 m0 = some (r, nu)) : qC l yX8_cuts wsX8_cuts 2 44 G [.ref x0, .int (iZ x1), .int (iZ x2)] m0 (some (.int (iZ r))) (in32 r) nu := by
  refine qn_start (hy := by decide) hT (hw := rfl) (hn := Nat.le_of_ble_eq_true rfl) ?_
  intro X h1 h2 h3 h4 hX hR
  subst h4
  exact w_X8_cuts hX ⟨h1, fun q => h2 ▸ q, h3⟩ k_x0 r_x1 r_x2 hR h
theorem dd_X8_cuts : yX8_cuts.cls = RX8 ∧ yX8_cuts.cls ≠ "java/lang/invoke/MethodHandle" ∧ yX8_cuts.cls ≠ "java/lang/invoke/VarHandle" ∧ (parseMethodDescriptor yX8_cuts.desc).map (fun d => d.parameters.length) = some 2 := by decide +kernel
-- ProRataMarketModel.cut
theorem hi_X8_cut_8 : ∀ w ∈ wsX80, w ∈ wsX8_cut := fun w h => List.mem_cons_of_mem _ (List.mem_append_right _ h)
theorem fp_X8_cut_45 : qFp RX8 wsX8_cut 45 8 4 0 804 .int := ⟨RX8, TX8, 32, _, tyX8, rfl, hi_X8_cut_8, by decide, (by decide +kernel : Cond.fieldLink RX8 45 (TX8 4).1 (TX8 4).2.1 (TX8 4).2.2.1 ∈ wsX8_cut), rfl, rfl, by decide, tyX8_ok, nmX8, rfl, by decide +kernel⟩
set_option maxHeartbeats 4000000 in
set_option maxRecDepth 20000 in
theorem w_X8_cut {X : qB} {N : Nat} (hX : qOk X cX8_cut RX8 3 (some .int) wsX8_cut 3 69) {r : Int} {nu : qM} (hE : xr X = some (.int (iZ r)) ∧ (in32 r → xΦ X) ∧ xμ X = nu) 
    {x0 : Nat} {x1 : Int} {x2 : Int} (k_x0 : gK (xG X) x0 = 9) (r_x1 : in32 x1) (r_x2 : in32 x2) {m0 : qM} (hR_m0 : qR (xG X) m0)
    (h : f_X8_cut N (xG X)  x0 x1 x2 m0 = some (r, nu)) : qN X 3 0 [(0, .ref x0), (1, .int (iZ x1)), (2, .int (iZ x2))] [] m0 := by
  have hT := hX.T
  unfold f_X8_cut at h
  refine qn_aload_n hX (pc := 0) dX8_cut_0 0 rfl rfl ?_
  refine qn_iconst hX (pc := 1) dX8_cut_1 ?_
  obtain ⟨m1, e_m1, h⟩ := kp_e h
  refine qn_putI hX (pc := 2) fp_X8_cut_45 dX8_cut_2 k_x0 hR_m0 (show in32 0 by decide) e_m1 (fun hR_m1 => ?_) 
  refine qn_aload_n hX (pc := 5) dX8_cut_5 0 rfl rfl ?_
  refine qn_iload_n hX (pc := 6) dX8_cut_6 1 rfl rfl ?_
  refine qn_iload_n hX (pc := 7) dX8_cut_7 2 rfl rfl ?_
  obtain ⟨v3, m2, e_m2, h⟩ := kb2_e h
  refine qn_callVi hX (pc := 8) [.int (iZ x1), .int (iZ x2)] [.int (iZ x2), .int (iZ x1)] 2 dX8_cut_8 gX8_cut_X8_cuts rfl dd_X8_cuts ⟨rfl, rfl⟩ rfl rfl (by decide) k_x0 rfl rfl hR_m1 (k_X8_cuts (xl X) hT k_x0 r_x1 r_x2 e_m2) (fun r_v3 hR_m2 => ?_)
  exact qn_iret hX (pc := 11) dX8_cut_11 hE hR_m2 r_v3 (Option.some.inj h)
theorem k_X8_cut (l : Launch) {G : qG} (hT : qT G) {N : Nat} {x0 : Nat} {x1 : Int} {x2 : Int} (k_x0 : gK G x0 = 9) (r_x1 : in32 x1) (r_x2 : in32 x2) {m0 : qM} {r : Int} {nu : qM} (h : f_X8_cut N G x0 x1 x2 m0 = some (r, nu)) : qC l yX8_cut wsX8_cut 3 69 G [.ref x0, .int (iZ x1), .int (iZ x2)] m0 (some (.int (iZ r))) (in32 r) nu := by
  refine qn_start (hy := by decide) hT (hw := rfl) (hn := Nat.le_of_ble_eq_true rfl) ?_
  intro X h1 h2 h3 h4 hX hR
  subst h4
  exact w_X8_cut hX ⟨h1, fun q => h2 ▸ q, h3⟩ k_x0 r_x1 r_x2 hR h
theorem dd_X8_cut : yX8_cut.cls = RX8 ∧ yX8_cut.cls ≠ "java/lang/invoke/MethodHandle" ∧ yX8_cut.cls ≠ "java/lang/invoke/VarHandle" ∧ (parseMethodDescriptor yX8_cut.desc).map (fun d => d.parameters.length) = some 2 := by decide +kernel
-- ProRataMarketModel.isAt
set_option maxHeartbeats 4000000 in
set_option maxRecDepth 20000 in
theorem w_X8_isAt {X : qB} {N : Nat} (hX : qOk X cX8_isAt RX8 4 (some .boolean) wsX8_isAt 1 22) {r : Int} {nu : qM} (hE : xr X = some (.int (iZ r)) ∧ (in01 r → xΦ X) ∧ xμ X = nu) 
    {x0 : Nat} {x1 : Int} {x2 : Int} {x3 : Int} (k_x0 : gK (xG X) x0 = 9) (r_x1 : in32 x1) (r_x2 : in32 x2) (r_x3 : in32 x3) {m0 : qM} (hR_m0 : qR (xG X) m0)
    (h : f_X8_isAt N (xG X)  x0 x1 x2 x3 m0 = some (r, nu)) : qN X 4 0 [(0, .ref x0), (1, .int (iZ x1)), (2, .int (iZ x2)), (3, .int (iZ x3))] [] m0 := by
  have hT := hX.T
  unfold f_X8_isAt at h
  refine qn_aload_n hX (pc := 0) dX8_isAt_0 0 rfl rfl ?_
  refine qn_iload_n hX (pc := 1) dX8_isAt_1 1 rfl rfl ?_
  refine qn_iconst hX (pc := 2) dX8_isAt_2 ?_
  obtain ⟨v2, m1, e_m1, h⟩ := kb2_e h
  refine qn_callVi hX (pc := 3) [.int (iZ x1), .int (iZ 2)] [.int (iZ 2), .int (iZ x1)] 2 dX8_isAt_3 gX8_isAt_X8_ofOrder rfl dd_X8_ofOrder ⟨rfl, rfl⟩ rfl rfl (by decide) k_x0 rfl rfl hR_m0 (k_X8_ofOrder (xl X) hT k_x0 r_x1 (by decide) e_m1) (fun r_v2 hR_m1 => ?_)
  refine qn_iload_n hX (pc := 6) dX8_isAt_6 2 rfl rfl ?_
  refine qn_icmp_ne hX (pc := 7) r_v2 r_x2 24 dX8_isAt_7 (by decide) (fun c3 => ?_) (fun c3 => ?_)
  · have h := ite_f h c3
    refine qn_iconst hX (pc := 24) dX8_isAt_24 ?_
    exact qn_zret hX (pc := 25) dX8_isAt_25 hE hR_m1 (by decide) (Option.some.inj h)
  · have h := ite_t h c3
    refine qn_aload_n hX (pc := 10) dX8_isAt_10 0 rfl rfl ?_
    refine qn_iload_n hX (pc := 11) dX8_isAt_11 1 rfl rfl ?_
    refine qn_iconst hX (pc := 12) dX8_isAt_12 ?_
    obtain ⟨v5, m4, e_m4, h⟩ := kb2_e h
    refine qn_callVi hX (pc := 13) [.int (iZ x1), .int (iZ 3)] [.int (iZ 3), .int (iZ x1)] 2 dX8_isAt_13 gX8_isAt_X8_ofOrder rfl dd_X8_ofOrder ⟨rfl, rfl⟩ rfl rfl (by decide) k_x0 rfl rfl hR_m1 (k_X8_ofOrder (xl X) hT k_x0 r_x1 (by decide) e_m4) (fun r_v5 hR_m4 => ?_)
    refine qn_iload_n hX (pc := 16) dX8_isAt_16 3 rfl rfl ?_
    refine qn_icmp_ne hX (pc := 17) r_v5 r_x3 24 dX8_isAt_17 (by decide) (fun c6 => ?_) (fun c6 => ?_)
    · have h := ite_f h c6
      refine qn_iconst hX (pc := 24) dX8_isAt_24 ?_
      exact qn_zret hX (pc := 25) dX8_isAt_25 hE hR_m4 (by decide) (Option.some.inj h)
    · have h := ite_t h c6
      refine qn_iconst hX (pc := 20) dX8_isAt_20 ?_
      refine qn_goto hX (pc := 21) 25 dX8_isAt_21 (by decide) ?_
      exact qn_zret hX (pc := 25) dX8_isAt_25 hE hR_m4 (by decide) (Option.some.inj h)
theorem k_X8_isAt (l : Launch) {G : qG} (hT : qT G) {N : Nat} {x0 : Nat} {x1 : Int} {x2 : Int} {x3 : Int} (k_x0 : gK G x0 = 9) (r_x1 : in32 x1) (r_x2 : in32 x2) (r_x3 : in32 x3) {m0 : qM} {r : Int} {nu : qM} (h : f_X8_isAt N G x0 x1 x2 x3 m0 = some (r, nu)) : qC l yX8_isAt wsX8_isAt 1 22 G [.ref x0, .int (iZ x1), .int (iZ x2), .int (iZ x3)] m0 (some (.int (iZ r))) (in01 r) nu := by
  refine qn_start (hy := by decide) hT (hw := rfl) (hn := Nat.le_of_ble_eq_true rfl) ?_
  intro X h1 h2 h3 h4 hX hR
  subst h4
  exact w_X8_isAt hX ⟨h1, fun q => h2 ▸ q, h3⟩ k_x0 r_x1 r_x2 r_x3 hR h
theorem dd_X8_isAt : yX8_isAt.cls = RX8 ∧ yX8_isAt.cls ≠ "java/lang/invoke/MethodHandle" ∧ yX8_isAt.cls ≠ "java/lang/invoke/VarHandle" ∧ (parseMethodDescriptor yX8_isAt.desc).map (fun d => d.parameters.length) = some 3 := by decide +kernel
-- ProRataMarketModel.hasOwn
theorem hi_X8_hasOwn_8 : ∀ w ∈ wsX80, w ∈ wsX8_hasOwn := fun w h => List.mem_cons_of_mem _ (List.mem_append_right _ h)
theorem fd_X8_hasOwn_7 : qFd RX8 wsX8_hasOwn 7 8 0 1 800 := ⟨RX8, TX8, 32, _, rfl, hi_X8_hasOwn_8, by decide, (by decide +kernel : Cond.fieldLink RX8 7 (TX8 0).1 (TX8 0).2.1 (TX8 0).2.2.1 ∈ wsX8_hasOwn), rfl, rfl, by decide⟩
theorem fd_X8_hasOwn_87 : qFd RX8 wsX8_hasOwn 87 8 12 0 812 := ⟨RX8, TX8, 32, _, rfl, hi_X8_hasOwn_8, by decide, (by decide +kernel : Cond.fieldLink RX8 87 (TX8 12).1 (TX8 12).2.1 (TX8 12).2.2.1 ∈ wsX8_hasOwn), rfl, rfl, by decide⟩
set_option maxHeartbeats 4000000 in
set_option maxRecDepth 20000 in
theorem w_X8_hasOwn_37 {X : qB} {N : Nat} (hX : qOk X cX8_hasOwn RX8 4 (some .boolean) wsX8_hasOwn 2 45) {r : Int} {nu : qM} (hE : xr X = some (.int (iZ r)) ∧ (in01 r → xΦ X) ∧ xμ X = nu) {k2 : (Nat → Int → Int → Int → qM → Option (Int × qM))} (hk2 : ∀ (x0 : Nat) (x1 : Int) (x2 : Int) (x3 : Int) (m0 : qM), gK (xG X) x0 = 9 → in32 x1 → in32 x2 → in32 x3 → qR (xG X) m0 → k2 x0 x1 x2 x3 m0 = some (r, nu) → qN X 4 2 [(0, .ref x0), (1, .int (iZ x1)), (2, .int (iZ x2)), (3, .int (iZ x3))] [] m0)
    {x0 : Nat} {x1 : Int} {x2 : Int} {x3 : Int} (k_x0 : gK (xG X) x0 = 9) (r_x1 : in32 x1) (r_x2 : in32 x2) (r_x3 : in32 x3) {m0 : qM} (hR_m0 : qR (xG X) m0)
    (h : f_X8_hasOwn_37 N (xG X) k2 x0 x1 x2 x3 m0 = some (r, nu)) : qN X 4 37 [(0, .ref x0), (1, .int (iZ x1)), (2, .int (iZ x2)), (3, .int (iZ x3))] [] m0 := by
  have hT := hX.T
  unfold f_X8_hasOwn_37 at h
  obtain ⟨v1, e_v1, r_v1, h⟩ := ckI_e h
  refine qn_iinc hX (pc := 37) (ls' := [(3, .int (iZ v1)), (0, .ref x0), (1, .int (iZ x1)), (2, .int (iZ x2))]) dX8_hasOwn_37 3 rfl e_v1 rfl rfl ?_
  refine qn_goto hX (pc := 40) 2 dX8_hasOwn_40 (by decide) ?_
  refine qn_sub (ls' := [(0, .ref x0), (1, .int (iZ x1)), (2, .int (iZ x2)), (3, .int (iZ v1))]) [1, 2, 3, 0] rfl ?_
  exact hk2 x0 x1 x2 v1 m0 k_x0 r_x1 r_x2 r_v1 hR_m0 h
set_option maxHeartbeats 4000000 in
set_option maxRecDepth 20000 in
theorem w_X8_hasOwn_2 {X : qB} {N : Nat} (hX : qOk X cX8_hasOwn RX8 4 (some .boolean) wsX8_hasOwn 2 45) {r : Int} {nu : qM} (hE : xr X = some (.int (iZ r)) ∧ (in01 r → xΦ X) ∧ xμ X = nu) {k2 : (Nat → Int → Int → Int → qM → Option (Int × qM))} (hk2 : ∀ (x0 : Nat) (x1 : Int) (x2 : Int) (x3 : Int) (m0 : qM), gK (xG X) x0 = 9 → in32 x1 → in32 x2 → in32 x3 → qR (xG X) m0 → k2 x0 x1 x2 x3 m0 = some (r, nu) → qN X 4 2 [(0, .ref x0), (1, .int (iZ x1)), (2, .int (iZ x2)), (3, .int (iZ x3))] [] m0)
    {x0 : Nat} {x1 : Int} {x2 : Int} {x3 : Int} (k_x0 : gK (xG X) x0 = 9) (r_x1 : in32 x1) (r_x2 : in32 x2) (r_x3 : in32 x3) {m0 : qM} (hR_m0 : qR (xG X) m0)
    (h : f_X8_hasOwn_2 N (xG X) k2 x0 x1 x2 x3 m0 = some (r, nu)) : qN X 4 2 [(0, .ref x0), (1, .int (iZ x1)), (2, .int (iZ x2)), (3, .int (iZ x3))] [] m0 := by
  have hT := hX.T
  unfold f_X8_hasOwn_2 at h
  refine qn_iload_n hX (pc := 2) dX8_hasOwn_2 3 rfl rfl ?_
  refine qn_aload_n hX (pc := 3) dX8_hasOwn_3 0 rfl rfl ?_
  refine qn_getR hX (pc := 4) fd_X8_hasOwn_7 dX8_hasOwn_4 k_x0 ?_
  refine qn_iconst hX (pc := 7) dX8_hasOwn_7 ?_
  refine qn_iald hX (pc := 8) (v := gA m0 (gR (xG X) 800 x0) 5) 684 dX8_hasOwn_8 (qr_800 hT k_x0) (by decide) (by decide) rfl ?_
  refine qn_icmp_ge hX (pc := 9) r_x3 (hR_m0.a (n := 684) _ (qr_800 hT k_x0) (by decide)) 43 dX8_hasOwn_9 (by decide) (fun c1 => ?_) (fun c1 => ?_)
  · have h := ite_f h c1
    refine qn_iconst hX (pc := 43) dX8_hasOwn_43 ?_
    exact qn_zret hX (pc := 44) dX8_hasOwn_44 hE hR_m0 (by decide) (Option.some.inj h)
  · have h := ite_t h c1
    refine qn_aload_n hX (pc := 12) dX8_hasOwn_12 0 rfl rfl ?_
    refine qn_iload_n hX (pc := 13) dX8_hasOwn_13 3 rfl rfl ?_
    refine qn_iload_n hX (pc := 14) dX8_hasOwn_14 1 rfl rfl ?_
    refine qn_iload_n hX (pc := 15) dX8_hasOwn_15 2 rfl rfl ?_
    obtain ⟨v3, m2, e_m2, h⟩ := kb2_e h
    refine qn_callVi hX (pc := 16) [.int (iZ x3), .int (iZ x1), .int (iZ x2)] [.int (iZ x2), .int (iZ x1), .int (iZ x3)] 3 dX8_hasOwn_16 gX8_hasOwn_X8_isAt rfl dd_X8_isAt ⟨rfl, rfl⟩ rfl rfl (by decide) k_x0 rfl rfl hR_m0 (k_X8_isAt (xl X) hT k_x0 r_x3 r_x1 r_x2 e_m2) (fun r_v3 hR_m2 => ?_)
    refine qn_if_eq hX (pc := 19) r_v3.i 37 dX8_hasOwn_19 (by decide) (fun c4 => ?_) (fun c4 => ?_)
    · have h := ite_t h c4
      refine qn_sub (ls' := [(0, .ref x0), (1, .int (iZ x1)), (2, .int (iZ x2)), (3, .int (iZ x3))]) [0, 1, 2, 3] rfl ?_
      exact w_X8_hasOwn_37 hX hE hk2 k_x0 r_x1 r_x2 r_x3 hR_m2 h
    · have h := ite_f h c4
      refine qn_aload_n hX (pc := 22) dX8_hasOwn_22 0 rfl rfl ?_
      refine qn_iload_n hX (pc := 23) dX8_hasOwn_23 3 rfl rfl ?_
      refine qn_iconst hX (pc := 24) dX8_hasOwn_24 ?_
      obtain ⟨v6, m5, e_m5, h⟩ := kb2_e h
      refine qn_callVi hX (pc := 25) [.int (iZ x3), .int (iZ 1)] [.int (iZ 1), .int (iZ x3)] 2 dX8_hasOwn_25 gX8_hasOwn_X8_ofOrder rfl dd_X8_ofOrder ⟨rfl, rfl⟩ rfl rfl (by decide) k_x0 rfl rfl hR_m2 (k_X8_ofOrder (xl X) hT k_x0 r_x3 (by decide) e_m5) (fun r_v6 hR_m5 => ?_)
      refine qn_aload_n hX (pc := 28) dX8_hasOwn_28 0 rfl rfl ?_
      refine qn_getI hX (pc := 29) fd_X8_hasOwn_87 dX8_hasOwn_29 k_x0 ?_
      refine qn_icmp_ne hX (pc := 32) r_v6 (hR_m5.i 812 _ rfl) 37 dX8_hasOwn_32 (by decide) (fun c7 => ?_) (fun c7 => ?_)
      · have h := ite_f h c7
        refine qn_sub (ls' := [(0, .ref x0), (1, .int (iZ x1)), (2, .int (iZ x2)), (3, .int (iZ x3))]) [0, 1, 2, 3] rfl ?_
        exact w_X8_hasOwn_37 hX hE hk2 k_x0 r_x1 r_x2 r_x3 hR_m5 h
      · have h := ite_t h c7
        refine qn_iconst hX (pc := 35) dX8_hasOwn_35 ?_
        exact qn_zret hX (pc := 36) dX8_hasOwn_36 hE hR_m5 (by decide) (Option.some.inj h)
set_option maxHeartbeats 4000000 in
set_option maxRecDepth 20000 in
theorem w_X8_hasOwn_L2 {X : qB} {N : Nat} (hX : qOk X cX8_hasOwn RX8 4 (some .boolean) wsX8_hasOwn 2 45) {r : Int} {nu : qM} (hE : xr X = some (.int (iZ r)) ∧ (in01 r → xΦ X) ∧ xμ X = nu) 
    {x0 : Nat} {x1 : Int} {x2 : Int} {x3 : Int} (k_x0 : gK (xG X) x0 = 9) (r_x1 : in32 x1) (r_x2 : in32 x2) (r_x3 : in32 x3) {m0 : qM} (hR_m0 : qR (xG X) m0)
    (h : f_X8_hasOwn_L2 N (xG X)  x0 x1 x2 x3 m0 = some (r, nu)) : qN X 4 2 [(0, .ref x0), (1, .int (iZ x1)), (2, .int (iZ x2)), (3, .int (iZ x3))] [] m0 := by
  unfold f_X8_hasOwn_L2 at h
  exact qLoop_w (σ := Nat × Int × Int × Int × qM) (P := fun p => gK (xG X) p.1 = 9 ∧ in32 p.2.1 ∧ in32 p.2.2.1 ∧ in32 p.2.2.2.1 ∧ qR (xG X) p.2.2.2.2) (Q := fun p => qN X 4 2 [(0, .ref p.1), (1, .int (iZ p.2.1)), (2, .int (iZ p.2.2.1)), (3, .int (iZ p.2.2.2.1))] [] p.2.2.2.2) (fun k hrec p hp hh => w_X8_hasOwn_2 hX hE (fun x0 x1 x2 x3 m0 q0 q1 q2 q3 hRm hh => hrec (x0, x1, x2, x3, m0) ⟨q0, q1, q2, q3, hRm⟩ hh) hp.1 hp.2.1 hp.2.2.1 hp.2.2.2.1 hp.2.2.2.2 hh) N (x0, x1, x2, x3, m0) ⟨k_x0, r_x1, r_x2, r_x3, hR_m0⟩ h
set_option maxHeartbeats 4000000 in
set_option maxRecDepth 20000 in
theorem w_X8_hasOwn {X : qB} {N : Nat} (hX : qOk X cX8_hasOwn RX8 4 (some .boolean) wsX8_hasOwn 2 45) {r : Int} {nu : qM} (hE : xr X = some (.int (iZ r)) ∧ (in01 r → xΦ X) ∧ xμ X = nu) 
    {x0 : Nat} {x1 : Int} {x2 : Int} (k_x0 : gK (xG X) x0 = 9) (r_x1 : in32 x1) (r_x2 : in32 x2) {m0 : qM} (hR_m0 : qR (xG X) m0)
    (h : f_X8_hasOwn N (xG X)  x0 x1 x2 m0 = some (r, nu)) : qN X 4 0 [(0, .ref x0), (1, .int (iZ x1)), (2, .int (iZ x2))] [] m0 := by
  have hT := hX.T
  unfold f_X8_hasOwn at h
  refine qn_iconst hX (pc := 0) dX8_hasOwn_0 ?_
  refine qn_istore_n hX (pc := 1) (ls' := [(3, .int (iZ 0)), (0, .ref x0), (1, .int (iZ x1)), (2, .int (iZ x2))]) dX8_hasOwn_1 rfl rfl rfl ?_
  refine qn_sub (ls' := [(0, .ref x0), (1, .int (iZ x1)), (2, .int (iZ x2)), (3, .int (iZ 0))]) [1, 2, 3, 0] rfl ?_
  exact w_X8_hasOwn_L2 hX hE  k_x0 r_x1 r_x2 (by decide) hR_m0 h
theorem k_X8_hasOwn (l : Launch) {G : qG} (hT : qT G) {N : Nat} {x0 : Nat} {x1 : Int} {x2 : Int} (k_x0 : gK G x0 = 9) (r_x1 : in32 x1) (r_x2 : in32 x2) {m0 : qM} {r : Int} {nu : qM} (h : f_X8_hasOwn N G x0 x1 x2 m0 = some (r, nu)) : qC l yX8_hasOwn wsX8_hasOwn 2 45 G [.ref x0, .int (iZ x1), .int (iZ x2)] m0 (some (.int (iZ r))) (in01 r) nu := by
  refine qn_start (hy := by decide) hT (hw := rfl) (hn := Nat.le_of_ble_eq_true rfl) ?_
  intro X h1 h2 h3 h4 hX hR
  subst h4
  exact w_X8_hasOwn hX ⟨h1, fun q => h2 ▸ q, h3⟩ k_x0 r_x1 r_x2 hR h
theorem dd_X8_hasOwn : yX8_hasOwn.cls = RX8 ∧ yX8_hasOwn.cls ≠ "java/lang/invoke/MethodHandle" ∧ yX8_hasOwn.cls ≠ "java/lang/invoke/VarHandle" ∧ (parseMethodDescriptor yX8_hasOwn.desc).map (fun d => d.parameters.length) = some 2 := by decide +kernel
