-- ProRataMarket$Book.numberAt
theorem hi_X0_numberAt_0 : ∀ w ∈ wsX00, w ∈ wsX0_numberAt := fun w h => List.mem_cons_of_mem _ (List.mem_append_left _ (List.mem_append_right _ h))
theorem fd_X0_numberAt_25 : qFd RX0 wsX0_numberAt 25 0 1 0 1 := ⟨RX0, TX0, 4, _, rfl, hi_X0_numberAt_0, by decide, (by decide +kernel : Cond.fieldLink RX0 25 (TX0 1).1 (TX0 1).2.1 (TX0 1).2.2.1 ∈ wsX0_numberAt), rfl, rfl, by decide⟩
theorem fd_X0_numberAt_11 : qFd RX0 wsX0_numberAt 11 0 0 1 0 := ⟨RX0, TX0, 4, _, rfl, hi_X0_numberAt_0, by decide, (by decide +kernel : Cond.fieldLink RX0 11 (TX0 0).1 (TX0 0).2.1 (TX0 0).2.2.1 ∈ wsX0_numberAt), rfl, rfl, by decide⟩
theorem hi_X0_numberAt_4 : ∀ w ∈ wsX40, w ∈ wsX0_numberAt := fun w h => List.mem_cons_of_mem _ (List.mem_append_right _ h)
theorem fd_X0_numberAt_33 : qFd RX0 wsX0_numberAt 33 4 0 0 400 := ⟨RX4, TX4, 6, _, rfl, hi_X0_numberAt_4, by decide, (by decide +kernel : Cond.fieldLink RX0 33 (TX4 0).1 (TX4 0).2.1 (TX4 0).2.2.1 ∈ wsX0_numberAt), rfl, rfl, by decide⟩
set_option maxHeartbeats 4000000 in
set_option maxRecDepth 20000 in
theorem w_X0_numberAt_46 {X : qB} {N : Nat} (hX : qOk X cX0_numberAt RX0 6 (some .int) wsX0_numberAt 1 23) {r : Int} {nu : qM} (hE : xr X = some (.int (iZ r)) ∧ (in32 r → xΦ X) ∧ xμ X = nu) {k6 : (Nat → Int → Int → Int → Int → Int → qM → Option (Int × qM))} (hk6 : ∀ (x0 : Nat) (x1 : Int) (x2 : Int) (x3 : Int) (x4 : Int) (x5 : Int) (m0 : qM), gK (xG X) x0 = 1 → in32 x1 → in32 x2 → in32 x3 → in32 x4 → in32 x5 → qR (xG X) m0 → k6 x0 x1 x2 x3 x4 x5 m0 = some (r, nu) → qN X 6 6 [(0, .ref x0), (1, .int (iZ x1)), (2, .int (iZ x2)), (3, .int (iZ x3)), (4, .int (iZ x4)), (5, .int (iZ x5))] [] m0)
    {x0 : Nat} {x1 : Int} {x2 : Int} {x3 : Int} {x4 : Int} {x5 : Int} (k_x0 : gK (xG X) x0 = 1) (r_x1 : in32 x1) (r_x2 : in32 x2) (r_x3 : in32 x3) (r_x4 : in32 x4) (r_x5 : in32 x5) {m0 : qM} (hR_m0 : qR (xG X) m0)
    (h : f_X0_numberAt_46 N (xG X) k6 x0 x1 x2 x3 x4 x5 m0 = some (r, nu)) : qN X 6 46 [(0, .ref x0), (1, .int (iZ x1)), (2, .int (iZ x2)), (3, .int (iZ x3)), (4, .int (iZ x4)), (5, .int (iZ x5))] [] m0 := by
  have hT := hX.T
  unfold f_X0_numberAt_46 at h
  obtain ⟨v1, e_v1, r_v1, h⟩ := ckI_e h
  refine qn_iinc hX (pc := 46) (ls' := [(5, .int (iZ v1)), (0, .ref x0), (1, .int (iZ x1)), (2, .int (iZ x2)), (3, .int (iZ x3)), (4, .int (iZ x4))]) dX0_numberAt_46 5 rfl e_v1 rfl rfl ?_
  refine qn_goto hX (pc := 49) 6 dX0_numberAt_49 (by decide) ?_
  refine qn_sub (ls' := [(0, .ref x0), (1, .int (iZ x1)), (2, .int (iZ x2)), (3, .int (iZ x3)), (4, .int (iZ x4)), (5, .int (iZ v1))]) [1, 2, 3, 4, 5, 0] rfl ?_
  exact hk6 x0 x1 x2 x3 x4 v1 m0 k_x0 r_x1 r_x2 r_x3 r_x4 r_v1 hR_m0 h
set_option maxHeartbeats 4000000 in
set_option maxRecDepth 20000 in
theorem w_X0_numberAt_6 {X : qB} {N : Nat} (hX : qOk X cX0_numberAt RX0 6 (some .int) wsX0_numberAt 1 23) {r : Int} {nu : qM} (hE : xr X = some (.int (iZ r)) ∧ (in32 r → xΦ X) ∧ xμ X = nu) {k6 : (Nat → Int → Int → Int → Int → Int → qM → Option (Int × qM))} (hk6 : ∀ (x0 : Nat) (x1 : Int) (x2 : Int) (x3 : Int) (x4 : Int) (x5 : Int) (m0 : qM), gK (xG X) x0 = 1 → in32 x1 → in32 x2 → in32 x3 → in32 x4 → in32 x5 → qR (xG X) m0 → k6 x0 x1 x2 x3 x4 x5 m0 = some (r, nu) → qN X 6 6 [(0, .ref x0), (1, .int (iZ x1)), (2, .int (iZ x2)), (3, .int (iZ x3)), (4, .int (iZ x4)), (5, .int (iZ x5))] [] m0)
    {x0 : Nat} {x1 : Int} {x2 : Int} {x3 : Int} {x4 : Int} {x5 : Int} (k_x0 : gK (xG X) x0 = 1) (r_x1 : in32 x1) (r_x2 : in32 x2) (r_x3 : in32 x3) (r_x4 : in32 x4) (r_x5 : in32 x5) {m0 : qM} (hR_m0 : qR (xG X) m0)
    (h : f_X0_numberAt_6 N (xG X) k6 x0 x1 x2 x3 x4 x5 m0 = some (r, nu)) : qN X 6 6 [(0, .ref x0), (1, .int (iZ x1)), (2, .int (iZ x2)), (3, .int (iZ x3)), (4, .int (iZ x4)), (5, .int (iZ x5))] [] m0 := by
  have hT := hX.T
  unfold f_X0_numberAt_6 at h
  refine qn_iload hX (pc := 6) dX0_numberAt_6 5 rfl ?_
  refine qn_aload_n hX (pc := 8) dX0_numberAt_8 0 rfl rfl ?_
  refine qn_getI hX (pc := 9) fd_X0_numberAt_25 dX0_numberAt_9 k_x0 ?_
  refine qn_icmp_ge hX (pc := 12) r_x5 (hR_m0.i 1 _ rfl) 52 dX0_numberAt_12 (by decide) (fun c1 => ?_) (fun c1 => ?_)
  · have h := ite_f h c1
    refine qn_iconst hX (pc := 52) dX0_numberAt_52 ?_
    exact qn_iret hX (pc := 53) dX0_numberAt_53 hE hR_m0 (by decide) (Option.some.inj h)
  · have h := ite_t h c1
    refine qn_aload_n hX (pc := 15) dX0_numberAt_15 0 rfl rfl ?_
    refine qn_iload hX (pc := 16) dX0_numberAt_16 5 rfl ?_
    refine qn_iload_n hX (pc := 18) dX0_numberAt_18 1 rfl rfl ?_
    refine qn_iload_n hX (pc := 19) dX0_numberAt_19 2 rfl rfl ?_
    obtain ⟨v3, m2, e_m2, h⟩ := kb2_e h
    refine qn_callVi hX (pc := 20) [.int (iZ x5), .int (iZ x1), .int (iZ x2)] [.int (iZ x2), .int (iZ x1), .int (iZ x5)] 3 dX0_numberAt_20 gX0_numberAt_X0_isAt rfl dd_X0_isAt ⟨rfl, rfl⟩ rfl rfl (by decide) k_x0 rfl rfl hR_m0 (k_X0_isAt (xl X) hT k_x0 r_x5 r_x1 r_x2 e_m2) (fun r_v3 hR_m2 => ?_)
    refine qn_if_eq hX (pc := 23) r_v3.i 46 dX0_numberAt_23 (by decide) (fun c4 => ?_) (fun c4 => ?_)
    · have h := ite_t h c4
      refine qn_sub (ls' := [(0, .ref x0), (1, .int (iZ x1)), (2, .int (iZ x2)), (3, .int (iZ x3)), (4, .int (iZ x4)), (5, .int (iZ x5))]) [0, 1, 2, 3, 4, 5] rfl ?_
      exact w_X0_numberAt_46 hX hE hk6 k_x0 r_x1 r_x2 r_x3 r_x4 r_x5 hR_m2 h
    · have h := ite_f h c4
      refine qn_iload hX (pc := 26) dX0_numberAt_26 4 rfl ?_
      refine qn_iload_n hX (pc := 28) dX0_numberAt_28 3 rfl rfl ?_
      refine qn_icmp_ne hX (pc := 29) r_x4 r_x3 43 dX0_numberAt_29 (by decide) (fun c5 => ?_) (fun c5 => ?_)
      · have h := ite_f h c5
        obtain ⟨v6, e_v6, r_v6, h⟩ := ckI_e h
        refine qn_iinc hX (pc := 43) (ls' := [(4, .int (iZ v6)), (0, .ref x0), (1, .int (iZ x1)), (2, .int (iZ x2)), (3, .int (iZ x3)), (5, .int (iZ x5))]) dX0_numberAt_43 4 rfl e_v6 rfl rfl ?_
        refine qn_sub (ls' := [(0, .ref x0), (1, .int (iZ x1)), (2, .int (iZ x2)), (3, .int (iZ x3)), (4, .int (iZ v6)), (5, .int (iZ x5))]) [1, 2, 3, 4, 0, 5] rfl ?_
        exact w_X0_numberAt_46 hX hE hk6 k_x0 r_x1 r_x2 r_x3 r_v6 r_x5 hR_m2 h
      · have h := ite_t h c5
        refine qn_aload_n hX (pc := 32) dX0_numberAt_32 0 rfl rfl ?_
        refine qn_getR hX (pc := 33) fd_X0_numberAt_11 dX0_numberAt_33 k_x0 ?_
        refine qn_iload hX (pc := 36) dX0_numberAt_36 5 rfl ?_
        obtain ⟨o7, e_o7, b_o7, k_o7, h⟩ := rdQ_e h
        refine qn_aaldO hX (pc := 38) 60 dX0_numberAt_38 (qr_0 hT k_x0) (by decide) b_o7 e_o7 ?_
        refine qn_getI hX (pc := 39) fd_X0_numberAt_33 dX0_numberAt_39 k_o7 ?_
        exact qn_iret hX (pc := 42) dX0_numberAt_42 hE hR_m2 (hR_m2.i 400 _ rfl) (Option.some.inj h)
set_option maxHeartbeats 4000000 in
set_option maxRecDepth 20000 in
theorem w_X0_numberAt_L6 {X : qB} {N : Nat} (hX : qOk X cX0_numberAt RX0 6 (some .int) wsX0_numberAt 1 23) {r : Int} {nu : qM} (hE : xr X = some (.int (iZ r)) ∧ (in32 r → xΦ X) ∧ xμ X = nu) 
    {x0 : Nat} {x1 : Int} {x2 : Int} {x3 : Int} {x4 : Int} {x5 : Int} (k_x0 : gK (xG X) x0 = 1) (r_x1 : in32 x1) (r_x2 : in32 x2) (r_x3 : in32 x3) (r_x4 : in32 x4) (r_x5 : in32 x5) {m0 : qM} (hR_m0 : qR (xG X) m0)
    (h : f_X0_numberAt_L6 N (xG X)  x0 x1 x2 x3 x4 x5 m0 = some (r, nu)) : qN X 6 6 [(0, .ref x0), (1, .int (iZ x1)), (2, .int (iZ x2)), (3, .int (iZ x3)), (4, .int (iZ x4)), (5, .int (iZ x5))] [] m0 := by
  unfold f_X0_numberAt_L6 at h
  exact qLoop_w (σ := Nat × Int × Int × Int × Int × Int × qM) (P := fun p => gK (xG X) p.1 = 1 ∧ in32 p.2.1 ∧ in32 p.2.2.1 ∧ in32 p.2.2.2.1 ∧ in32 p.2.2.2.2.1 ∧ in32 p.2.2.2.2.2.1 ∧ qR (xG X) p.2.2.2.2.2.2) (Q := fun p => qN X 6 6 [(0, .ref p.1), (1, .int (iZ p.2.1)), (2, .int (iZ p.2.2.1)), (3, .int (iZ p.2.2.2.1)), (4, .int (iZ p.2.2.2.2.1)), (5, .int (iZ p.2.2.2.2.2.1))] [] p.2.2.2.2.2.2) (fun k hrec p hp hh => w_X0_numberAt_6 hX hE (fun x0 x1 x2 x3 x4 x5 m0 q0 q1 q2 q3 q4 q5 hRm hh => hrec (x0, x1, x2, x3, x4, x5, m0) ⟨q0, q1, q2, q3, q4, q5, hRm⟩ hh) hp.1 hp.2.1 hp.2.2.1 hp.2.2.2.1 hp.2.2.2.2.1 hp.2.2.2.2.2.1 hp.2.2.2.2.2.2 hh) N (x0, x1, x2, x3, x4, x5, m0) ⟨k_x0, r_x1, r_x2, r_x3, r_x4, r_x5, hR_m0⟩ h
set_option maxHeartbeats 4000000 in
set_option maxRecDepth 20000 in
theorem w_X0_numberAt {X : qB} {N : Nat} (hX : qOk X cX0_numberAt RX0 6 (some .int) wsX0_numberAt 1 23) {r : Int} {nu : qM} (hE : xr X = some (.int (iZ r)) ∧ (in32 r → xΦ X) ∧ xμ X = nu) 
    {x0 : Nat} {x1 : Int} {x2 : Int} {x3 : Int} (k_x0 : gK (xG X) x0 = 1) (r_x1 : in32 x1) (r_x2 : in32 x2) (r_x3 : in32 x3) {m0 : qM} (hR_m0 : qR (xG X) m0)
    (h : f_X0_numberAt N (xG X)  x0 x1 x2 x3 m0 = some (r, nu)) : qN X 6 0 [(0, .ref x0), (1, .int (iZ x1)), (2, .int (iZ x2)), (3, .int (iZ x3))] [] m0 := by
  have hT := hX.T
  unfold f_X0_numberAt at h
  refine qn_iconst hX (pc := 0) dX0_numberAt_0 ?_
  refine qn_istore hX (pc := 1) (ls' := [(4, .int (iZ 0)), (0, .ref x0), (1, .int (iZ x1)), (2, .int (iZ x2)), (3, .int (iZ x3))]) dX0_numberAt_1 rfl rfl ?_
  refine qn_iconst hX (pc := 3) dX0_numberAt_3 ?_
  refine qn_istore hX (pc := 4) (ls' := [(5, .int (iZ 0)), (4, .int (iZ 0)), (0, .ref x0), (1, .int (iZ x1)), (2, .int (iZ x2)), (3, .int (iZ x3))]) dX0_numberAt_4 rfl rfl ?_
  refine qn_sub (ls' := [(0, .ref x0), (1, .int (iZ x1)), (2, .int (iZ x2)), (3, .int (iZ x3)), (4, .int (iZ 0)), (5, .int (iZ 0))]) [2, 3, 4, 5, 1, 0] rfl ?_
  exact w_X0_numberAt_L6 hX hE  k_x0 r_x1 r_x2 r_x3 (by decide) (by decide) hR_m0 h
theorem k_X0_numberAt (l : Launch) {G : qG} (hT : qT G) {N : Nat} {x0 : Nat} {x1 : Int} {x2 : Int} {x3 : Int} (k_x0 : gK G x0 = 1) (r_x1 : in32 x1) (r_x2 : in32 x2) (r_x3 : in32 x3) {m0 : qM} {r : Int} {nu : qM} (h : f_X0_numberAt N G x0 x1 x2 x3 m0 = some (r, nu)) : qC l yX0_numberAt wsX0_numberAt 1 23 G [.ref x0, .int (iZ x1), .int (iZ x2), .int (iZ x3)] m0 (some (.int (iZ r))) (in32 r) nu := by
  refine qn_start (hy := by decide) hT (hw := rfl) (hn := Nat.le_of_ble_eq_true rfl) ?_
  intro X h1 h2 h3 h4 hX hR
  subst h4
  exact w_X0_numberAt hX ⟨h1, fun q => h2 ▸ q, h3⟩ k_x0 r_x1 r_x2 r_x3 hR h
theorem dd_X0_numberAt : yX0_numberAt.cls = RX0 ∧ yX0_numberAt.cls ≠ "java/lang/invoke/MethodHandle" ∧ yX0_numberAt.cls ≠ "java/lang/invoke/VarHandle" ∧ (parseMethodDescriptor yX0_numberAt.desc).map (fun d => d.parameters.length) = some 3 := by decide +kernel
-- ProRataMarket$Book.ordersAt
theorem hi_X0_ordersAt_0 : ∀ w ∈ wsX00, w ∈ wsX0_ordersAt := fun w h => List.mem_cons_of_mem _ (List.mem_append_left _ (List.mem_append_right _ h))
theorem fd_X0_ordersAt_25 : qFd RX0 wsX0_ordersAt 25 0 1 0 1 := ⟨RX0, TX0, 4, _, rfl, hi_X0_ordersAt_0, by decide, (by decide +kernel : Cond.fieldLink RX0 25 (TX0 1).1 (TX0 1).2.1 (TX0 1).2.2.1 ∈ wsX0_ordersAt), rfl, rfl, by decide⟩
set_option maxHeartbeats 4000000 in
set_option maxRecDepth 20000 in
theorem w_X0_ordersAt_31 {X : qB} {N : Nat} (hX : qOk X cX0_ordersAt RX0 5 (some .int) wsX0_ordersAt 1 23) {r : Int} {nu : qM} (hE : xr X = some (.int (iZ r)) ∧ (in32 r → xΦ X) ∧ xμ X = nu) {k5 : (Nat → Int → Int → Int → Int → qM → Option (Int × qM))} (hk5 : ∀ (x0 : Nat) (x1 : Int) (x2 : Int) (x3 : Int) (x4 : Int) (m0 : qM), gK (xG X) x0 = 1 → in32 x1 → in32 x2 → in32 x3 → in32 x4 → qR (xG X) m0 → k5 x0 x1 x2 x3 x4 m0 = some (r, nu) → qN X 5 5 [(0, .ref x0), (1, .int (iZ x1)), (2, .int (iZ x2)), (3, .int (iZ x3)), (4, .int (iZ x4))] [] m0)
    {x0 : Nat} {x1 : Int} {x2 : Int} {x4 : Int} {s0 : Int} {s1 : Int} (k_x0 : gK (xG X) x0 = 1) (r_x1 : in32 x1) (r_x2 : in32 x2) (r_x4 : in32 x4) (r_s0 : in32 s0) (b_s1 : in01 s1) {m0 : qM} (hR_m0 : qR (xG X) m0)
    (h : f_X0_ordersAt_31 N (xG X) k5 x0 x1 x2 x4 s0 s1 m0 = some (r, nu)) : qN X 5 31 [(0, .ref x0), (1, .int (iZ x1)), (2, .int (iZ x2)), (4, .int (iZ x4))] [.int (iZ s1), .int (iZ s0)] m0 := by
  have hT := hX.T
  unfold f_X0_ordersAt_31 at h
  obtain ⟨v1, e_v1, r_v1, h⟩ := ckI_e h
  refine qn_iadd hX (pc := 31) dX0_ordersAt_31 e_v1 ?_
  refine qn_istore_n hX (pc := 32) (ls' := [(3, .int (iZ v1)), (0, .ref x0), (1, .int (iZ x1)), (2, .int (iZ x2)), (4, .int (iZ x4))]) dX0_ordersAt_32 rfl rfl rfl ?_
  obtain ⟨v2, e_v2, r_v2, h⟩ := ckI_e h
  refine qn_iinc hX (pc := 33) (ls' := [(4, .int (iZ v2)), (3, .int (iZ v1)), (0, .ref x0), (1, .int (iZ x1)), (2, .int (iZ x2))]) dX0_ordersAt_33 4 rfl e_v2 rfl rfl ?_
  refine qn_goto hX (pc := 36) 5 dX0_ordersAt_36 (by decide) ?_
  refine qn_sub (ls' := [(0, .ref x0), (1, .int (iZ x1)), (2, .int (iZ x2)), (3, .int (iZ v1)), (4, .int (iZ v2))]) [2, 3, 4, 1, 0] rfl ?_
  exact hk5 x0 x1 x2 v1 v2 m0 k_x0 r_x1 r_x2 r_v1 r_v2 hR_m0 h
set_option maxHeartbeats 4000000 in
set_option maxRecDepth 20000 in
theorem w_X0_ordersAt_5 {X : qB} {N : Nat} (hX : qOk X cX0_ordersAt RX0 5 (some .int) wsX0_ordersAt 1 23) {r : Int} {nu : qM} (hE : xr X = some (.int (iZ r)) ∧ (in32 r → xΦ X) ∧ xμ X = nu) {k5 : (Nat → Int → Int → Int → Int → qM → Option (Int × qM))} (hk5 : ∀ (x0 : Nat) (x1 : Int) (x2 : Int) (x3 : Int) (x4 : Int) (m0 : qM), gK (xG X) x0 = 1 → in32 x1 → in32 x2 → in32 x3 → in32 x4 → qR (xG X) m0 → k5 x0 x1 x2 x3 x4 m0 = some (r, nu) → qN X 5 5 [(0, .ref x0), (1, .int (iZ x1)), (2, .int (iZ x2)), (3, .int (iZ x3)), (4, .int (iZ x4))] [] m0)
    {x0 : Nat} {x1 : Int} {x2 : Int} {x3 : Int} {x4 : Int} (k_x0 : gK (xG X) x0 = 1) (r_x1 : in32 x1) (r_x2 : in32 x2) (r_x3 : in32 x3) (r_x4 : in32 x4) {m0 : qM} (hR_m0 : qR (xG X) m0)
    (h : f_X0_ordersAt_5 N (xG X) k5 x0 x1 x2 x3 x4 m0 = some (r, nu)) : qN X 5 5 [(0, .ref x0), (1, .int (iZ x1)), (2, .int (iZ x2)), (3, .int (iZ x3)), (4, .int (iZ x4))] [] m0 := by
  have hT := hX.T
  unfold f_X0_ordersAt_5 at h
  refine qn_iload hX (pc := 5) dX0_ordersAt_5 4 rfl ?_
  refine qn_aload_n hX (pc := 7) dX0_ordersAt_7 0 rfl rfl ?_
  refine qn_getI hX (pc := 8) fd_X0_ordersAt_25 dX0_ordersAt_8 k_x0 ?_
  refine qn_icmp_ge hX (pc := 11) r_x4 (hR_m0.i 1 _ rfl) 39 dX0_ordersAt_11 (by decide) (fun c1 => ?_) (fun c1 => ?_)
  · have h := ite_f h c1
    refine qn_iload_n hX (pc := 39) dX0_ordersAt_39 3 rfl rfl ?_
    exact qn_iret hX (pc := 40) dX0_ordersAt_40 hE hR_m0 r_x3 (Option.some.inj h)
  · have h := ite_t h c1
    refine qn_iload_n hX (pc := 14) dX0_ordersAt_14 3 rfl rfl ?_
    refine qn_aload_n hX (pc := 15) dX0_ordersAt_15 0 rfl rfl ?_
    refine qn_iload hX (pc := 16) dX0_ordersAt_16 4 rfl ?_
    refine qn_iload_n hX (pc := 18) dX0_ordersAt_18 1 rfl rfl ?_
    refine qn_iload_n hX (pc := 19) dX0_ordersAt_19 2 rfl rfl ?_
    obtain ⟨v3, m2, e_m2, h⟩ := kb2_e h
    refine qn_callVi hX (pc := 20) [.int (iZ x4), .int (iZ x1), .int (iZ x2)] [.int (iZ x2), .int (iZ x1), .int (iZ x4)] 3 dX0_ordersAt_20 gX0_ordersAt_X0_isAt rfl dd_X0_isAt ⟨rfl, rfl⟩ rfl rfl (by decide) k_x0 rfl rfl hR_m0 (k_X0_isAt (xl X) hT k_x0 r_x4 r_x1 r_x2 e_m2) (fun r_v3 hR_m2 => ?_)
    refine qn_if_eq hX (pc := 23) r_v3.i 30 dX0_ordersAt_23 (by decide) (fun c4 => ?_) (fun c4 => ?_)
    · have h := ite_t h c4
      refine qn_iconst hX (pc := 30) dX0_ordersAt_30 ?_
      refine qn_sub (ls' := [(0, .ref x0), (1, .int (iZ x1)), (2, .int (iZ x2)), (4, .int (iZ x4))]) [0, 1, 2, 4] rfl ?_
      exact w_X0_ordersAt_31 hX hE hk5 k_x0 r_x1 r_x2 r_x4 r_x3 (by decide) hR_m2 h
    · have h := ite_f h c4
      refine qn_iconst hX (pc := 26) dX0_ordersAt_26 ?_
      refine qn_goto hX (pc := 27) 31 dX0_ordersAt_27 (by decide) ?_
      refine qn_sub (ls' := [(0, .ref x0), (1, .int (iZ x1)), (2, .int (iZ x2)), (4, .int (iZ x4))]) [0, 1, 2, 4] rfl ?_
      exact w_X0_ordersAt_31 hX hE hk5 k_x0 r_x1 r_x2 r_x4 r_x3 (by decide) hR_m2 h
set_option maxHeartbeats 4000000 in
set_option maxRecDepth 20000 in
theorem w_X0_ordersAt_L5 {X : qB} {N : Nat} (hX : qOk X cX0_ordersAt RX0 5 (some .int) wsX0_ordersAt 1 23) {r : Int} {nu : qM} (hE : xr X = some (.int (iZ r)) ∧ (in32 r → xΦ X) ∧ xμ X = nu) 
    {x0 : Nat} {x1 : Int} {x2 : Int} {x3 : Int} {x4 : Int} (k_x0 : gK (xG X) x0 = 1) (r_x1 : in32 x1) (r_x2 : in32 x2) (r_x3 : in32 x3) (r_x4 : in32 x4) {m0 : qM} (hR_m0 : qR (xG X) m0)
    (h : f_X0_ordersAt_L5 N (xG X)  x0 x1 x2 x3 x4 m0 = some (r, nu)) : qN X 5 5 [(0, .ref x0), (1, .int (iZ x1)), (2, .int (iZ x2)), (3, .int (iZ x3)), (4, .int (iZ x4))] [] m0 := by
  unfold f_X0_ordersAt_L5 at h
  exact qLoop_w (σ := Nat × Int × Int × Int × Int × qM) (P := fun p => gK (xG X) p.1 = 1 ∧ in32 p.2.1 ∧ in32 p.2.2.1 ∧ in32 p.2.2.2.1 ∧ in32 p.2.2.2.2.1 ∧ qR (xG X) p.2.2.2.2.2) (Q := fun p => qN X 5 5 [(0, .ref p.1), (1, .int (iZ p.2.1)), (2, .int (iZ p.2.2.1)), (3, .int (iZ p.2.2.2.1)), (4, .int (iZ p.2.2.2.2.1))] [] p.2.2.2.2.2) (fun k hrec p hp hh => w_X0_ordersAt_5 hX hE (fun x0 x1 x2 x3 x4 m0 q0 q1 q2 q3 q4 hRm hh => hrec (x0, x1, x2, x3, x4, m0) ⟨q0, q1, q2, q3, q4, hRm⟩ hh) hp.1 hp.2.1 hp.2.2.1 hp.2.2.2.1 hp.2.2.2.2.1 hp.2.2.2.2.2 hh) N (x0, x1, x2, x3, x4, m0) ⟨k_x0, r_x1, r_x2, r_x3, r_x4, hR_m0⟩ h
set_option maxHeartbeats 4000000 in
set_option maxRecDepth 20000 in
theorem w_X0_ordersAt {X : qB} {N : Nat} (hX : qOk X cX0_ordersAt RX0 5 (some .int) wsX0_ordersAt 1 23) {r : Int} {nu : qM} (hE : xr X = some (.int (iZ r)) ∧ (in32 r → xΦ X) ∧ xμ X = nu) 
    {x0 : Nat} {x1 : Int} {x2 : Int} (k_x0 : gK (xG X) x0 = 1) (r_x1 : in32 x1) (r_x2 : in32 x2) {m0 : qM} (hR_m0 : qR (xG X) m0)
    (h : f_X0_ordersAt N (xG X)  x0 x1 x2 m0 = some (r, nu)) : qN X 5 0 [(0, .ref x0), (1, .int (iZ x1)), (2, .int (iZ x2))] [] m0 := by
  have hT := hX.T
  unfold f_X0_ordersAt at h
  refine qn_iconst hX (pc := 0) dX0_ordersAt_0 ?_
  refine qn_istore_n hX (pc := 1) (ls' := [(3, .int (iZ 0)), (0, .ref x0), (1, .int (iZ x1)), (2, .int (iZ x2))]) dX0_ordersAt_1 rfl rfl rfl ?_
  refine qn_iconst hX (pc := 2) dX0_ordersAt_2 ?_
  refine qn_istore hX (pc := 3) (ls' := [(4, .int (iZ 0)), (3, .int (iZ 0)), (0, .ref x0), (1, .int (iZ x1)), (2, .int (iZ x2))]) dX0_ordersAt_3 rfl rfl ?_
  refine qn_sub (ls' := [(0, .ref x0), (1, .int (iZ x1)), (2, .int (iZ x2)), (3, .int (iZ 0)), (4, .int (iZ 0))]) [2, 3, 4, 1, 0] rfl ?_
  exact w_X0_ordersAt_L5 hX hE  k_x0 r_x1 r_x2 (by decide) (by decide) hR_m0 h
theorem k_X0_ordersAt (l : Launch) {G : qG} (hT : qT G) {N : Nat} {x0 : Nat} {x1 : Int} {x2 : Int} (k_x0 : gK G x0 = 1) (r_x1 : in32 x1) (r_x2 : in32 x2) {m0 : qM} {r : Int} {nu : qM} (h : f_X0_ordersAt N G x0 x1 x2 m0 = some (r, nu)) : qC l yX0_ordersAt wsX0_ordersAt 1 23 G [.ref x0, .int (iZ x1), .int (iZ x2)] m0 (some (.int (iZ r))) (in32 r) nu := by
  refine qn_start (hy := by decide) hT (hw := rfl) (hn := Nat.le_of_ble_eq_true rfl) ?_
  intro X h1 h2 h3 h4 hX hR
  subst h4
  exact w_X0_ordersAt hX ⟨h1, fun q => h2 ▸ q, h3⟩ k_x0 r_x1 r_x2 hR h
theorem dd_X0_ordersAt : yX0_ordersAt.cls = RX0 ∧ yX0_ordersAt.cls ≠ "java/lang/invoke/MethodHandle" ∧ yX0_ordersAt.cls ≠ "java/lang/invoke/VarHandle" ∧ (parseMethodDescriptor yX0_ordersAt.desc).map (fun d => d.parameters.length) = some 2 := by decide +kernel
-- ProRataMarket$Book.priceAt
set_option maxHeartbeats 4000000 in
set_option maxRecDepth 20000 in
theorem w_X0_priceAt_21 {X : qB} {N : Nat} (hX : qOk X cX0_priceAt RX0 5 (some .int) wsX0_priceAt 3 68) {r : Int} {nu : qM} (hE : xr X = some (.int (iZ r)) ∧ (in32 r → xΦ X) ∧ xμ X = nu) {k21 : (Nat → Int → Int → Int → Int → qM → Option (Int × qM))} (hk21 : ∀ (x0 : Nat) (x1 : Int) (x2 : Int) (x3 : Int) (x4 : Int) (m0 : qM), gK (xG X) x0 = 1 → in32 x1 → in32 x2 → in32 x3 → in32 x4 → qR (xG X) m0 → k21 x0 x1 x2 x3 x4 m0 = some (r, nu) → qN X 5 21 [(0, .ref x0), (1, .int (iZ x1)), (2, .int (iZ x2)), (3, .int (iZ x3)), (4, .int (iZ x4))] [] m0)
    {x0 : Nat} {x1 : Int} {x2 : Int} {x3 : Int} {x4 : Int} (k_x0 : gK (xG X) x0 = 1) (r_x1 : in32 x1) (r_x2 : in32 x2) (r_x3 : in32 x3) (r_x4 : in32 x4) {m0 : qM} (hR_m0 : qR (xG X) m0)
    (h : f_X0_priceAt_21 N (xG X) k21 x0 x1 x2 x3 x4 m0 = some (r, nu)) : qN X 5 21 [(0, .ref x0), (1, .int (iZ x1)), (2, .int (iZ x2)), (3, .int (iZ x3)), (4, .int (iZ x4))] [] m0 := by
  have hT := hX.T
  unfold f_X0_priceAt_21 at h
  refine qn_iload hX (pc := 21) dX0_priceAt_21 4 rfl ?_
  refine qn_iload_n hX (pc := 23) dX0_priceAt_23 2 rfl rfl ?_
  refine qn_icmp_ge hX (pc := 24) r_x4 r_x2 44 dX0_priceAt_24 (by decide) (fun c1 => ?_) (fun c1 => ?_)
  · have h := ite_f h c1
    refine qn_iload_n hX (pc := 44) dX0_priceAt_44 3 rfl rfl ?_
    exact qn_iret hX (pc := 45) dX0_priceAt_45 hE hR_m0 r_x3 (Option.some.inj h)
  · have h := ite_t h c1
    refine qn_iload_n hX (pc := 27) dX0_priceAt_27 3 rfl rfl ?_
    refine qn_if_le hX (pc := 28) r_x3 44 dX0_priceAt_28 (by decide) (fun c2 => ?_) (fun c2 => ?_)
    · have h := ite_f h c2
      refine qn_iload_n hX (pc := 44) dX0_priceAt_44 3 rfl rfl ?_
      exact qn_iret hX (pc := 45) dX0_priceAt_45 hE hR_m0 r_x3 (Option.some.inj h)
    · have h := ite_t h c2
      refine qn_aload_n hX (pc := 31) dX0_priceAt_31 0 rfl rfl ?_
      refine qn_iload_n hX (pc := 32) dX0_priceAt_32 1 rfl rfl ?_
      refine qn_iload_n hX (pc := 33) dX0_priceAt_33 3 rfl rfl ?_
      obtain ⟨v4, m3, e_m3, h⟩ := kb2_e h
      refine qn_callVi hX (pc := 34) [.int (iZ x1), .int (iZ x3)] [.int (iZ x3), .int (iZ x1)] 2 dX0_priceAt_34 gX0_priceAt_X0_nextPrice rfl dd_X0_nextPrice ⟨rfl, rfl⟩ rfl rfl (by decide) k_x0 rfl rfl hR_m0 (k_X0_nextPrice (xl X) hT k_x0 r_x1 r_x3 e_m3) (fun r_v4 hR_m3 => ?_)
      refine qn_istore_n hX (pc := 37) (ls' := [(3, .int (iZ v4)), (0, .ref x0), (1, .int (iZ x1)), (2, .int (iZ x2)), (4, .int (iZ x4))]) dX0_priceAt_37 rfl rfl rfl ?_
      obtain ⟨v5, e_v5, r_v5, h⟩ := ckI_e h
      refine qn_iinc hX (pc := 38) (ls' := [(4, .int (iZ v5)), (3, .int (iZ v4)), (0, .ref x0), (1, .int (iZ x1)), (2, .int (iZ x2))]) dX0_priceAt_38 4 rfl e_v5 rfl rfl ?_
      refine qn_goto hX (pc := 41) 21 dX0_priceAt_41 (by decide) ?_
      refine qn_sub (ls' := [(0, .ref x0), (1, .int (iZ x1)), (2, .int (iZ x2)), (3, .int (iZ v4)), (4, .int (iZ v5))]) [2, 3, 4, 1, 0] rfl ?_
      exact hk21 x0 x1 x2 v4 v5 m3 k_x0 r_x1 r_x2 r_v4 r_v5 hR_m3 h
set_option maxHeartbeats 4000000 in
set_option maxRecDepth 20000 in
theorem w_X0_priceAt_L21 {X : qB} {N : Nat} (hX : qOk X cX0_priceAt RX0 5 (some .int) wsX0_priceAt 3 68) {r : Int} {nu : qM} (hE : xr X = some (.int (iZ r)) ∧ (in32 r → xΦ X) ∧ xμ X = nu) 
    {x0 : Nat} {x1 : Int} {x2 : Int} {x3 : Int} {x4 : Int} (k_x0 : gK (xG X) x0 = 1) (r_x1 : in32 x1) (r_x2 : in32 x2) (r_x3 : in32 x3) (r_x4 : in32 x4) {m0 : qM} (hR_m0 : qR (xG X) m0)
    (h : f_X0_priceAt_L21 N (xG X)  x0 x1 x2 x3 x4 m0 = some (r, nu)) : qN X 5 21 [(0, .ref x0), (1, .int (iZ x1)), (2, .int (iZ x2)), (3, .int (iZ x3)), (4, .int (iZ x4))] [] m0 := by
  unfold f_X0_priceAt_L21 at h
  exact qLoop_w (σ := Nat × Int × Int × Int × Int × qM) (P := fun p => gK (xG X) p.1 = 1 ∧ in32 p.2.1 ∧ in32 p.2.2.1 ∧ in32 p.2.2.2.1 ∧ in32 p.2.2.2.2.1 ∧ qR (xG X) p.2.2.2.2.2) (Q := fun p => qN X 5 21 [(0, .ref p.1), (1, .int (iZ p.2.1)), (2, .int (iZ p.2.2.1)), (3, .int (iZ p.2.2.2.1)), (4, .int (iZ p.2.2.2.2.1))] [] p.2.2.2.2.2) (fun k hrec p hp hh => w_X0_priceAt_21 hX hE (fun x0 x1 x2 x3 x4 m0 q0 q1 q2 q3 q4 hRm hh => hrec (x0, x1, x2, x3, x4, m0) ⟨q0, q1, q2, q3, q4, hRm⟩ hh) hp.1 hp.2.1 hp.2.2.1 hp.2.2.2.1 hp.2.2.2.2.1 hp.2.2.2.2.2 hh) N (x0, x1, x2, x3, x4, m0) ⟨k_x0, r_x1, r_x2, r_x3, r_x4, hR_m0⟩ h
set_option maxHeartbeats 4000000 in
set_option maxRecDepth 20000 in
theorem w_X0_priceAt {X : qB} {N : Nat} (hX : qOk X cX0_priceAt RX0 5 (some .int) wsX0_priceAt 3 68) {r : Int} {nu : qM} (hE : xr X = some (.int (iZ r)) ∧ (in32 r → xΦ X) ∧ xμ X = nu) 
    {x0 : Nat} {x1 : Int} {x2 : Int} (k_x0 : gK (xG X) x0 = 1) (r_x1 : in32 x1) (r_x2 : in32 x2) {m0 : qM} (hR_m0 : qR (xG X) m0)
    (h : f_X0_priceAt N (xG X)  x0 x1 x2 m0 = some (r, nu)) : qN X 5 0 [(0, .ref x0), (1, .int (iZ x1)), (2, .int (iZ x2))] [] m0 := by
  have hT := hX.T
  unfold f_X0_priceAt at h
  refine qn_iload_n hX (pc := 0) dX0_priceAt_0 2 rfl rfl ?_
  refine qn_if_lt hX (pc := 1) r_x2 10 dX0_priceAt_1 (by decide) (fun c1 => ?_) (fun c1 => ?_)
  · have h := ite_t h c1
    refine qn_iconst hX (pc := 10) dX0_priceAt_10 ?_
    exact qn_iret hX (pc := 11) dX0_priceAt_11 hE hR_m0 (by decide) (Option.some.inj h)
  · have h := ite_f h c1
    refine qn_iload_n hX (pc := 4) dX0_priceAt_4 2 rfl rfl ?_
    refine qn_bipush hX (pc := 5) dX0_priceAt_5 (by decide) ?_
    refine qn_icmp_lt hX (pc := 7) r_x2 (by decide) 12 dX0_priceAt_7 (by decide) (fun c2 => ?_) (fun c2 => ?_)
    · have h := ite_t h c2
      refine qn_aload_n hX (pc := 12) dX0_priceAt_12 0 rfl rfl ?_
      refine qn_iload_n hX (pc := 13) dX0_priceAt_13 1 rfl rfl ?_
      obtain ⟨v4, m3, e_m3, h⟩ := kb2_e h
      refine qn_callVi hX (pc := 14) [.int (iZ x1)] [.int (iZ x1)] 1 dX0_priceAt_14 gX0_priceAt_X0_best rfl dd_X0_best ⟨rfl, rfl⟩ rfl rfl (by decide) k_x0 rfl rfl hR_m0 (k_X0_best (xl X) hT k_x0 r_x1 e_m3) (fun r_v4 hR_m3 => ?_)
      refine qn_istore_n hX (pc := 17) (ls' := [(3, .int (iZ v4)), (0, .ref x0), (1, .int (iZ x1)), (2, .int (iZ x2))]) dX0_priceAt_17 rfl rfl rfl ?_
      refine qn_iconst hX (pc := 18) dX0_priceAt_18 ?_
      refine qn_istore hX (pc := 19) (ls' := [(4, .int (iZ 0)), (3, .int (iZ v4)), (0, .ref x0), (1, .int (iZ x1)), (2, .int (iZ x2))]) dX0_priceAt_19 rfl rfl ?_
      refine qn_sub (ls' := [(0, .ref x0), (1, .int (iZ x1)), (2, .int (iZ x2)), (3, .int (iZ v4)), (4, .int (iZ 0))]) [2, 3, 4, 1, 0] rfl ?_
      exact w_X0_priceAt_L21 hX hE  k_x0 r_x1 r_x2 r_v4 (by decide) hR_m3 h
    · have h := ite_f h c2
      refine qn_iconst hX (pc := 10) dX0_priceAt_10 ?_
      exact qn_iret hX (pc := 11) dX0_priceAt_11 hE hR_m0 (by decide) (Option.some.inj h)
theorem k_X0_priceAt (l : Launch) {G : qG} (hT : qT G) {N : Nat} {x0 : Nat} {x1 : Int} {x2 : Int} (k_x0 : gK G x0 = 1) (r_x1 : in32 x1) (r_x2 : in32 x2) {m0 : qM} {r : Int} {nu : qM} (h : f_X0_priceAt N G x0 x1 x2 m0 = some (r, nu)) : qC l yX0_priceAt wsX0_priceAt 3 68 G [.ref x0, .int (iZ x1), .int (iZ x2)] m0 (some (.int (iZ r))) (in32 r) nu := by
  refine qn_start (hy := by decide) hT (hw := rfl) (hn := Nat.le_of_ble_eq_true rfl) ?_
  intro X h1 h2 h3 h4 hX hR
  subst h4
  exact w_X0_priceAt hX ⟨h1, fun q => h2 ▸ q, h3⟩ k_x0 r_x1 r_x2 hR h
theorem dd_X0_priceAt : yX0_priceAt.cls = RX0 ∧ yX0_priceAt.cls ≠ "java/lang/invoke/MethodHandle" ∧ yX0_priceAt.cls ≠ "java/lang/invoke/VarHandle" ∧ (parseMethodDescriptor yX0_priceAt.desc).map (fun d => d.parameters.length) = some 2 := by decide +kernel
-- ProRataMarket$Book.prices
set_option maxHeartbeats 4000000 in
set_option maxRecDepth 20000 in
theorem w_X0_prices_11 {X : qB} {N : Nat} (hX : qOk X cX0_prices RX0 5 (some .int) wsX0_prices 3 68) {r : Int} {nu : qM} (hE : xr X = some (.int (iZ r)) ∧ (in32 r → xΦ X) ∧ xμ X = nu) {k11 : (Nat → Int → Int → Int → Int → qM → Option (Int × qM))} (hk11 : ∀ (x0 : Nat) (x1 : Int) (x2 : Int) (x3 : Int) (x4 : Int) (m0 : qM), gK (xG X) x0 = 1 → in32 x1 → in32 x2 → in32 x3 → in32 x4 → qR (xG X) m0 → k11 x0 x1 x2 x3 x4 m0 = some (r, nu) → qN X 5 11 [(0, .ref x0), (1, .int (iZ x1)), (2, .int (iZ x2)), (3, .int (iZ x3)), (4, .int (iZ x4))] [] m0)
    {x0 : Nat} {x1 : Int} {x2 : Int} {x3 : Int} {x4 : Int} (k_x0 : gK (xG X) x0 = 1) (r_x1 : in32 x1) (r_x2 : in32 x2) (r_x3 : in32 x3) (r_x4 : in32 x4) {m0 : qM} (hR_m0 : qR (xG X) m0)
    (h : f_X0_prices_11 N (xG X) k11 x0 x1 x2 x3 x4 m0 = some (r, nu)) : qN X 5 11 [(0, .ref x0), (1, .int (iZ x1)), (2, .int (iZ x2)), (3, .int (iZ x3)), (4, .int (iZ x4))] [] m0 := by
  have hT := hX.T
  unfold f_X0_prices_11 at h
  refine qn_iload hX (pc := 11) dX0_prices_11 4 rfl ?_
  refine qn_bipush hX (pc := 13) dX0_prices_13 (by decide) ?_
  refine qn_icmp_ge hX (pc := 15) r_x4 (by decide) 38 dX0_prices_15 (by decide) (fun c1 => ?_) (fun c1 => ?_)
  · have h := ite_f h c1
    refine qn_iload_n hX (pc := 38) dX0_prices_38 3 rfl rfl ?_
    exact qn_iret hX (pc := 39) dX0_prices_39 hE hR_m0 r_x3 (Option.some.inj h)
  · have h := ite_t h c1
    refine qn_iload_n hX (pc := 18) dX0_prices_18 2 rfl rfl ?_
    refine qn_if_le hX (pc := 19) r_x2 38 dX0_prices_19 (by decide) (fun c2 => ?_) (fun c2 => ?_)
    · have h := ite_f h c2
      refine qn_iload_n hX (pc := 38) dX0_prices_38 3 rfl rfl ?_
      exact qn_iret hX (pc := 39) dX0_prices_39 hE hR_m0 r_x3 (Option.some.inj h)
    · have h := ite_t h c2
      obtain ⟨v3, e_v3, r_v3, h⟩ := ckI_e h
      refine qn_iinc hX (pc := 22) (ls' := [(3, .int (iZ v3)), (0, .ref x0), (1, .int (iZ x1)), (2, .int (iZ x2)), (4, .int (iZ x4))]) dX0_prices_22 3 rfl e_v3 rfl rfl ?_
      refine qn_aload_n hX (pc := 25) dX0_prices_25 1 rfl rfl ?_
      refine qn_iload_n hX (pc := 26) dX0_prices_26 2 rfl rfl ?_
      refine qn_iload_n hX (pc := 27) dX0_prices_27 3 rfl rfl ?_
      obtain ⟨v5, m4, e_m4, h⟩ := kb2_e h
      refine qn_callVi hX (pc := 28) [.int (iZ x1), .int (iZ x2)] [.int (iZ x2), .int (iZ x1)] 2 dX0_prices_28 gX0_prices_X0_nextPrice rfl dd_X0_nextPrice ⟨rfl, rfl⟩ rfl rfl (by decide) k_x0 rfl rfl hR_m0 (k_X0_nextPrice (xl X) hT k_x0 r_x1 r_x2 e_m4) (fun r_v5 hR_m4 => ?_)
      refine qn_istore_n hX (pc := 31) (ls' := [(2, .int (iZ v5)), (3, .int (iZ v3)), (0, .ref x0), (1, .int (iZ x1)), (4, .int (iZ x4))]) dX0_prices_31 rfl rfl rfl ?_
      obtain ⟨v6, e_v6, r_v6, h⟩ := ckI_e h
      refine qn_iinc hX (pc := 32) (ls' := [(4, .int (iZ v6)), (2, .int (iZ v5)), (3, .int (iZ v3)), (0, .ref x0), (1, .int (iZ x1))]) dX0_prices_32 4 rfl e_v6 rfl rfl ?_
      refine qn_goto hX (pc := 35) 11 dX0_prices_35 (by decide) ?_
      refine qn_sub (ls' := [(0, .ref x0), (1, .int (iZ x1)), (2, .int (iZ v5)), (3, .int (iZ v3)), (4, .int (iZ v6))]) [3, 4, 1, 2, 0] rfl ?_
      exact hk11 x0 x1 v5 v3 v6 m4 k_x0 r_x1 r_v5 r_v3 r_v6 hR_m4 h
set_option maxHeartbeats 4000000 in
set_option maxRecDepth 20000 in
theorem w_X0_prices_L11 {X : qB} {N : Nat} (hX : qOk X cX0_prices RX0 5 (some .int) wsX0_prices 3 68) {r : Int} {nu : qM} (hE : xr X = some (.int (iZ r)) ∧ (in32 r → xΦ X) ∧ xμ X = nu) 
    {x0 : Nat} {x1 : Int} {x2 : Int} {x3 : Int} {x4 : Int} (k_x0 : gK (xG X) x0 = 1) (r_x1 : in32 x1) (r_x2 : in32 x2) (r_x3 : in32 x3) (r_x4 : in32 x4) {m0 : qM} (hR_m0 : qR (xG X) m0)
    (h : f_X0_prices_L11 N (xG X)  x0 x1 x2 x3 x4 m0 = some (r, nu)) : qN X 5 11 [(0, .ref x0), (1, .int (iZ x1)), (2, .int (iZ x2)), (3, .int (iZ x3)), (4, .int (iZ x4))] [] m0 := by
  unfold f_X0_prices_L11 at h
  exact qLoop_w (σ := Nat × Int × Int × Int × Int × qM) (P := fun p => gK (xG X) p.1 = 1 ∧ in32 p.2.1 ∧ in32 p.2.2.1 ∧ in32 p.2.2.2.1 ∧ in32 p.2.2.2.2.1 ∧ qR (xG X) p.2.2.2.2.2) (Q := fun p => qN X 5 11 [(0, .ref p.1), (1, .int (iZ p.2.1)), (2, .int (iZ p.2.2.1)), (3, .int (iZ p.2.2.2.1)), (4, .int (iZ p.2.2.2.2.1))] [] p.2.2.2.2.2) (fun k hrec p hp hh => w_X0_prices_11 hX hE (fun x0 x1 x2 x3 x4 m0 q0 q1 q2 q3 q4 hRm hh => hrec (x0, x1, x2, x3, x4, m0) ⟨q0, q1, q2, q3, q4, hRm⟩ hh) hp.1 hp.2.1 hp.2.2.1 hp.2.2.2.1 hp.2.2.2.2.1 hp.2.2.2.2.2 hh) N (x0, x1, x2, x3, x4, m0) ⟨k_x0, r_x1, r_x2, r_x3, r_x4, hR_m0⟩ h
set_option maxHeartbeats 4000000 in
set_option maxRecDepth 20000 in
theorem w_X0_prices {X : qB} {N : Nat} (hX : qOk X cX0_prices RX0 5 (some .int) wsX0_prices 3 68) {r : Int} {nu : qM} (hE : xr X = some (.int (iZ r)) ∧ (in32 r → xΦ X) ∧ xμ X = nu) 
    {x0 : Nat} {x1 : Int} (k_x0 : gK (xG X) x0 = 1) (r_x1 : in32 x1) {m0 : qM} (hR_m0 : qR (xG X) m0)
    (h : f_X0_prices N (xG X)  x0 x1 m0 = some (r, nu)) : qN X 5 0 [(0, .ref x0), (1, .int (iZ x1))] [] m0 := by
  have hT := hX.T
  unfold f_X0_prices at h
  refine qn_aload_n hX (pc := 0) dX0_prices_0 0 rfl rfl ?_
  refine qn_iload_n hX (pc := 1) dX0_prices_1 1 rfl rfl ?_
  obtain ⟨v2, m1, e_m1, h⟩ := kb2_e h
  refine qn_callVi hX (pc := 2) [.int (iZ x1)] [.int (iZ x1)] 1 dX0_prices_2 gX0_prices_X0_best rfl dd_X0_best ⟨rfl, rfl⟩ rfl rfl (by decide) k_x0 rfl rfl hR_m0 (k_X0_best (xl X) hT k_x0 r_x1 e_m1) (fun r_v2 hR_m1 => ?_)
  refine qn_istore_n hX (pc := 5) (ls' := [(2, .int (iZ v2)), (0, .ref x0), (1, .int (iZ x1))]) dX0_prices_5 rfl rfl rfl ?_
  refine qn_iconst hX (pc := 6) dX0_prices_6 ?_
  refine qn_istore_n hX (pc := 7) (ls' := [(3, .int (iZ 0)), (2, .int (iZ v2)), (0, .ref x0), (1, .int (iZ x1))]) dX0_prices_7 rfl rfl rfl ?_
  refine qn_iconst hX (pc := 8) dX0_prices_8 ?_
  refine qn_istore hX (pc := 9) (ls' := [(4, .int (iZ 0)), (3, .int (iZ 0)), (2, .int (iZ v2)), (0, .ref x0), (1, .int (iZ x1))]) dX0_prices_9 rfl rfl ?_
  refine qn_sub (ls' := [(0, .ref x0), (1, .int (iZ x1)), (2, .int (iZ v2)), (3, .int (iZ 0)), (4, .int (iZ 0))]) [3, 4, 2, 1, 0] rfl ?_
  exact w_X0_prices_L11 hX hE  k_x0 r_x1 r_v2 (by decide) (by decide) hR_m1 h
theorem k_X0_prices (l : Launch) {G : qG} (hT : qT G) {N : Nat} {x0 : Nat} {x1 : Int} (k_x0 : gK G x0 = 1) (r_x1 : in32 x1) {m0 : qM} {r : Int} {nu : qM} (h : f_X0_prices N G x0 x1 m0 = some (r, nu)) : qC l yX0_prices wsX0_prices 3 68 G [.ref x0, .int (iZ x1)] m0 (some (.int (iZ r))) (in32 r) nu := by
  refine qn_start (hy := by decide) hT (hw := rfl) (hn := Nat.le_of_ble_eq_true rfl) ?_
  intro X h1 h2 h3 h4 hX hR
  subst h4
  exact w_X0_prices hX ⟨h1, fun q => h2 ▸ q, h3⟩ k_x0 r_x1 hR h
theorem dd_X0_prices : yX0_prices.cls = RX0 ∧ yX0_prices.cls ≠ "java/lang/invoke/MethodHandle" ∧ yX0_prices.cls ≠ "java/lang/invoke/VarHandle" ∧ (parseMethodDescriptor yX0_prices.desc).map (fun d => d.parameters.length) = some 1 := by decide +kernel
-- ProRataMarket$Book.sizesAt
theorem hi_X0_sizesAt_0 : ∀ w ∈ wsX00, w ∈ wsX0_sizesAt := fun w h => List.mem_cons_of_mem _ (List.mem_append_left _ (List.mem_append_right _ h))
theorem fd_X0_sizesAt_25 : qFd RX0 wsX0_sizesAt 25 0 1 0 1 := ⟨RX0, TX0, 4, _, rfl, hi_X0_sizesAt_0, by decide, (by decide +kernel : Cond.fieldLink RX0 25 (TX0 1).1 (TX0 1).2.1 (TX0 1).2.2.1 ∈ wsX0_sizesAt), rfl, rfl, by decide⟩
theorem fd_X0_sizesAt_11 : qFd RX0 wsX0_sizesAt 11 0 0 1 0 := ⟨RX0, TX0, 4, _, rfl, hi_X0_sizesAt_0, by decide, (by decide +kernel : Cond.fieldLink RX0 11 (TX0 0).1 (TX0 0).2.1 (TX0 0).2.2.1 ∈ wsX0_sizesAt), rfl, rfl, by decide⟩
theorem hi_X0_sizesAt_4 : ∀ w ∈ wsX40, w ∈ wsX0_sizesAt := fun w h => List.mem_cons_of_mem _ (List.mem_append_right _ h)
theorem fd_X0_sizesAt_40 : qFd RX0 wsX0_sizesAt 40 4 4 0 404 := ⟨RX4, TX4, 6, _, rfl, hi_X0_sizesAt_4, by decide, (by decide +kernel : Cond.fieldLink RX0 40 (TX4 4).1 (TX4 4).2.1 (TX4 4).2.2.1 ∈ wsX0_sizesAt), rfl, rfl, by decide⟩
set_option maxHeartbeats 4000000 in
set_option maxRecDepth 20000 in
theorem w_X0_sizesAt_40 {X : qB} {N : Nat} (hX : qOk X cX0_sizesAt RX0 5 (some .int) wsX0_sizesAt 1 23) {r : Int} {nu : qM} (hE : xr X = some (.int (iZ r)) ∧ (in32 r → xΦ X) ∧ xμ X = nu) {k5 : (Nat → Int → Int → Int → Int → qM → Option (Int × qM))} (hk5 : ∀ (x0 : Nat) (x1 : Int) (x2 : Int) (x3 : Int) (x4 : Int) (m0 : qM), gK (xG X) x0 = 1 → in32 x1 → in32 x2 → in32 x3 → in32 x4 → qR (xG X) m0 → k5 x0 x1 x2 x3 x4 m0 = some (r, nu) → qN X 5 5 [(0, .ref x0), (1, .int (iZ x1)), (2, .int (iZ x2)), (3, .int (iZ x3)), (4, .int (iZ x4))] [] m0)
    {x0 : Nat} {x1 : Int} {x2 : Int} {x4 : Int} {s0 : Int} {s1 : Int} (k_x0 : gK (xG X) x0 = 1) (r_x1 : in32 x1) (r_x2 : in32 x2) (r_x4 : in32 x4) (r_s0 : in32 s0) (r_s1 : in32 s1) {m0 : qM} (hR_m0 : qR (xG X) m0)
    (h : f_X0_sizesAt_40 N (xG X) k5 x0 x1 x2 x4 s0 s1 m0 = some (r, nu)) : qN X 5 40 [(0, .ref x0), (1, .int (iZ x1)), (2, .int (iZ x2)), (4, .int (iZ x4))] [.int (iZ s1), .int (iZ s0)] m0 := by
  have hT := hX.T
  unfold f_X0_sizesAt_40 at h
  obtain ⟨v1, e_v1, r_v1, h⟩ := ckI_e h
  refine qn_iadd hX (pc := 40) dX0_sizesAt_40 e_v1 ?_
  refine qn_istore_n hX (pc := 41) (ls' := [(3, .int (iZ v1)), (0, .ref x0), (1, .int (iZ x1)), (2, .int (iZ x2)), (4, .int (iZ x4))]) dX0_sizesAt_41 rfl rfl rfl ?_
  obtain ⟨v2, e_v2, r_v2, h⟩ := ckI_e h
  refine qn_iinc hX (pc := 42) (ls' := [(4, .int (iZ v2)), (3, .int (iZ v1)), (0, .ref x0), (1, .int (iZ x1)), (2, .int (iZ x2))]) dX0_sizesAt_42 4 rfl e_v2 rfl rfl ?_
  refine qn_goto hX (pc := 45) 5 dX0_sizesAt_45 (by decide) ?_
  refine qn_sub (ls' := [(0, .ref x0), (1, .int (iZ x1)), (2, .int (iZ x2)), (3, .int (iZ v1)), (4, .int (iZ v2))]) [2, 3, 4, 1, 0] rfl ?_
  exact hk5 x0 x1 x2 v1 v2 m0 k_x0 r_x1 r_x2 r_v1 r_v2 hR_m0 h
set_option maxHeartbeats 4000000 in
set_option maxRecDepth 20000 in
theorem w_X0_sizesAt_5 {X : qB} {N : Nat} (hX : qOk X cX0_sizesAt RX0 5 (some .int) wsX0_sizesAt 1 23) {r : Int} {nu : qM} (hE : xr X = some (.int (iZ r)) ∧ (in32 r → xΦ X) ∧ xμ X = nu) {k5 : (Nat → Int → Int → Int → Int → qM → Option (Int × qM))} (hk5 : ∀ (x0 : Nat) (x1 : Int) (x2 : Int) (x3 : Int) (x4 : Int) (m0 : qM), gK (xG X) x0 = 1 → in32 x1 → in32 x2 → in32 x3 → in32 x4 → qR (xG X) m0 → k5 x0 x1 x2 x3 x4 m0 = some (r, nu) → qN X 5 5 [(0, .ref x0), (1, .int (iZ x1)), (2, .int (iZ x2)), (3, .int (iZ x3)), (4, .int (iZ x4))] [] m0)
    {x0 : Nat} {x1 : Int} {x2 : Int} {x3 : Int} {x4 : Int} (k_x0 : gK (xG X) x0 = 1) (r_x1 : in32 x1) (r_x2 : in32 x2) (r_x3 : in32 x3) (r_x4 : in32 x4) {m0 : qM} (hR_m0 : qR (xG X) m0)
    (h : f_X0_sizesAt_5 N (xG X) k5 x0 x1 x2 x3 x4 m0 = some (r, nu)) : qN X 5 5 [(0, .ref x0), (1, .int (iZ x1)), (2, .int (iZ x2)), (3, .int (iZ x3)), (4, .int (iZ x4))] [] m0 := by
  have hT := hX.T
  unfold f_X0_sizesAt_5 at h
  refine qn_iload hX (pc := 5) dX0_sizesAt_5 4 rfl ?_
  refine qn_aload_n hX (pc := 7) dX0_sizesAt_7 0 rfl rfl ?_
  refine qn_getI hX (pc := 8) fd_X0_sizesAt_25 dX0_sizesAt_8 k_x0 ?_
  refine qn_icmp_ge hX (pc := 11) r_x4 (hR_m0.i 1 _ rfl) 48 dX0_sizesAt_11 (by decide) (fun c1 => ?_) (fun c1 => ?_)
  · have h := ite_f h c1
    refine qn_iload_n hX (pc := 48) dX0_sizesAt_48 3 rfl rfl ?_
    exact qn_iret hX (pc := 49) dX0_sizesAt_49 hE hR_m0 r_x3 (Option.some.inj h)
  · have h := ite_t h c1
    refine qn_iload_n hX (pc := 14) dX0_sizesAt_14 3 rfl rfl ?_
    refine qn_aload_n hX (pc := 15) dX0_sizesAt_15 0 rfl rfl ?_
    refine qn_iload hX (pc := 16) dX0_sizesAt_16 4 rfl ?_
    refine qn_iload_n hX (pc := 18) dX0_sizesAt_18 1 rfl rfl ?_
    refine qn_iload_n hX (pc := 19) dX0_sizesAt_19 2 rfl rfl ?_
    obtain ⟨v3, m2, e_m2, h⟩ := kb2_e h
    refine qn_callVi hX (pc := 20) [.int (iZ x4), .int (iZ x1), .int (iZ x2)] [.int (iZ x2), .int (iZ x1), .int (iZ x4)] 3 dX0_sizesAt_20 gX0_sizesAt_X0_isAt rfl dd_X0_isAt ⟨rfl, rfl⟩ rfl rfl (by decide) k_x0 rfl rfl hR_m0 (k_X0_isAt (xl X) hT k_x0 r_x4 r_x1 r_x2 e_m2) (fun r_v3 hR_m2 => ?_)
    refine qn_if_eq hX (pc := 23) r_v3.i 39 dX0_sizesAt_23 (by decide) (fun c4 => ?_) (fun c4 => ?_)
    · have h := ite_t h c4
      refine qn_iconst hX (pc := 39) dX0_sizesAt_39 ?_
      refine qn_sub (ls' := [(0, .ref x0), (1, .int (iZ x1)), (2, .int (iZ x2)), (4, .int (iZ x4))]) [0, 1, 2, 4] rfl ?_
      exact w_X0_sizesAt_40 hX hE hk5 k_x0 r_x1 r_x2 r_x4 r_x3 (by decide) hR_m2 h
    · have h := ite_f h c4
      refine qn_aload_n hX (pc := 26) dX0_sizesAt_26 0 rfl rfl ?_
      refine qn_getR hX (pc := 27) fd_X0_sizesAt_11 dX0_sizesAt_27 k_x0 ?_
      refine qn_iload hX (pc := 30) dX0_sizesAt_30 4 rfl ?_
      obtain ⟨o5, e_o5, b_o5, k_o5, h⟩ := rdQ_e h
      refine qn_aaldO hX (pc := 32) 60 dX0_sizesAt_32 (qr_0 hT k_x0) (by decide) b_o5 e_o5 ?_
      refine qn_getI hX (pc := 33) fd_X0_sizesAt_40 dX0_sizesAt_33 k_o5 ?_
      refine qn_goto hX (pc := 36) 40 dX0_sizesAt_36 (by decide) ?_
      refine qn_sub (ls' := [(0, .ref x0), (1, .int (iZ x1)), (2, .int (iZ x2)), (4, .int (iZ x4))]) [0, 1, 2, 4] rfl ?_
      exact w_X0_sizesAt_40 hX hE hk5 k_x0 r_x1 r_x2 r_x4 r_x3 (hR_m2.i 404 _ rfl) hR_m2 h
set_option maxHeartbeats 4000000 in
set_option maxRecDepth 20000 in
theorem w_X0_sizesAt_L5 {X : qB} {N : Nat} (hX : qOk X cX0_sizesAt RX0 5 (some .int) wsX0_sizesAt 1 23) {r : Int} {nu : qM} (hE : xr X = some (.int (iZ r)) ∧ (in32 r → xΦ X) ∧ xμ X = nu) 
    {x0 : Nat} {x1 : Int} {x2 : Int} {x3 : Int} {x4 : Int} (k_x0 : gK (xG X) x0 = 1) (r_x1 : in32 x1) (r_x2 : in32 x2) (r_x3 : in32 x3) (r_x4 : in32 x4) {m0 : qM} (hR_m0 : qR (xG X) m0)
    (h : f_X0_sizesAt_L5 N (xG X)  x0 x1 x2 x3 x4 m0 = some (r, nu)) : qN X 5 5 [(0, .ref x0), (1, .int (iZ x1)), (2, .int (iZ x2)), (3, .int (iZ x3)), (4, .int (iZ x4))] [] m0 := by
  unfold f_X0_sizesAt_L5 at h
  exact qLoop_w (σ := Nat × Int × Int × Int × Int × qM) (P := fun p => gK (xG X) p.1 = 1 ∧ in32 p.2.1 ∧ in32 p.2.2.1 ∧ in32 p.2.2.2.1 ∧ in32 p.2.2.2.2.1 ∧ qR (xG X) p.2.2.2.2.2) (Q := fun p => qN X 5 5 [(0, .ref p.1), (1, .int (iZ p.2.1)), (2, .int (iZ p.2.2.1)), (3, .int (iZ p.2.2.2.1)), (4, .int (iZ p.2.2.2.2.1))] [] p.2.2.2.2.2) (fun k hrec p hp hh => w_X0_sizesAt_5 hX hE (fun x0 x1 x2 x3 x4 m0 q0 q1 q2 q3 q4 hRm hh => hrec (x0, x1, x2, x3, x4, m0) ⟨q0, q1, q2, q3, q4, hRm⟩ hh) hp.1 hp.2.1 hp.2.2.1 hp.2.2.2.1 hp.2.2.2.2.1 hp.2.2.2.2.2 hh) N (x0, x1, x2, x3, x4, m0) ⟨k_x0, r_x1, r_x2, r_x3, r_x4, hR_m0⟩ h
set_option maxHeartbeats 4000000 in
set_option maxRecDepth 20000 in
theorem w_X0_sizesAt {X : qB} {N : Nat} (hX : qOk X cX0_sizesAt RX0 5 (some .int) wsX0_sizesAt 1 23) {r : Int} {nu : qM} (hE : xr X = some (.int (iZ r)) ∧ (in32 r → xΦ X) ∧ xμ X = nu) 
    {x0 : Nat} {x1 : Int} {x2 : Int} (k_x0 : gK (xG X) x0 = 1) (r_x1 : in32 x1) (r_x2 : in32 x2) {m0 : qM} (hR_m0 : qR (xG X) m0)
    (h : f_X0_sizesAt N (xG X)  x0 x1 x2 m0 = some (r, nu)) : qN X 5 0 [(0, .ref x0), (1, .int (iZ x1)), (2, .int (iZ x2))] [] m0 := by
  have hT := hX.T
  unfold f_X0_sizesAt at h
  refine qn_iconst hX (pc := 0) dX0_sizesAt_0 ?_
  refine qn_istore_n hX (pc := 1) (ls' := [(3, .int (iZ 0)), (0, .ref x0), (1, .int (iZ x1)), (2, .int (iZ x2))]) dX0_sizesAt_1 rfl rfl rfl ?_
  refine qn_iconst hX (pc := 2) dX0_sizesAt_2 ?_
  refine qn_istore hX (pc := 3) (ls' := [(4, .int (iZ 0)), (3, .int (iZ 0)), (0, .ref x0), (1, .int (iZ x1)), (2, .int (iZ x2))]) dX0_sizesAt_3 rfl rfl ?_
  refine qn_sub (ls' := [(0, .ref x0), (1, .int (iZ x1)), (2, .int (iZ x2)), (3, .int (iZ 0)), (4, .int (iZ 0))]) [2, 3, 4, 1, 0] rfl ?_
  exact w_X0_sizesAt_L5 hX hE  k_x0 r_x1 r_x2 (by decide) (by decide) hR_m0 h
theorem k_X0_sizesAt (l : Launch) {G : qG} (hT : qT G) {N : Nat} {x0 : Nat} {x1 : Int} {x2 : Int} (k_x0 : gK G x0 = 1) (r_x1 : in32 x1) (r_x2 : in32 x2) {m0 : qM} {r : Int} {nu : qM} (h : f_X0_sizesAt N G x0 x1 x2 m0 = some (r, nu)) : qC l yX0_sizesAt wsX0_sizesAt 1 23 G [.ref x0, .int (iZ x1), .int (iZ x2)] m0 (some (.int (iZ r))) (in32 r) nu := by
  refine qn_start (hy := by decide) hT (hw := rfl) (hn := Nat.le_of_ble_eq_true rfl) ?_
  intro X h1 h2 h3 h4 hX hR
  subst h4
  exact w_X0_sizesAt hX ⟨h1, fun q => h2 ▸ q, h3⟩ k_x0 r_x1 r_x2 hR h
theorem dd_X0_sizesAt : yX0_sizesAt.cls = RX0 ∧ yX0_sizesAt.cls ≠ "java/lang/invoke/MethodHandle" ∧ yX0_sizesAt.cls ≠ "java/lang/invoke/VarHandle" ∧ (parseMethodDescriptor yX0_sizesAt.desc).map (fun d => d.parameters.length) = some 2 := by decide +kernel
-- ProRataMarket$Book.sweep
theorem hi_X0_sweep_0 : ∀ w ∈ wsX00, w ∈ wsX0_sweep := fun w h => List.mem_cons_of_mem _ (List.mem_append_left _ (List.mem_append_right _ h))
theorem fd_X0_sweep_25 : qFd RX0 wsX0_sweep 25 0 1 0 1 := ⟨RX0, TX0, 4, _, rfl, hi_X0_sweep_0, by decide, (by decide +kernel : Cond.fieldLink RX0 25 (TX0 1).1 (TX0 1).2.1 (TX0 1).2.2.1 ∈ wsX0_sweep), rfl, rfl, by decide⟩
theorem fp_X0_sweep_25 : qFp RX0 wsX0_sweep 25 0 1 0 1 .int := ⟨RX0, TX0, 4, _, tyX0, rfl, hi_X0_sweep_0, by decide, (by decide +kernel : Cond.fieldLink RX0 25 (TX0 1).1 (TX0 1).2.1 (TX0 1).2.2.1 ∈ wsX0_sweep), rfl, rfl, by decide, tyX0_ok, nmX0, rfl, by decide +kernel⟩
theorem fd_X0_sweep_11 : qFd RX0 wsX0_sweep 11 0 0 1 0 := ⟨RX0, TX0, 4, _, rfl, hi_X0_sweep_0, by decide, (by decide +kernel : Cond.fieldLink RX0 11 (TX0 0).1 (TX0 0).2.1 (TX0 0).2.2.1 ∈ wsX0_sweep), rfl, rfl, by decide⟩
theorem hi_X0_sweep_4 : ∀ w ∈ wsX40, w ∈ wsX0_sweep := fun w h => List.mem_cons_of_mem _ (List.mem_append_right _ h)
theorem fd_X0_sweep_40 : qFd RX0 wsX0_sweep 40 4 4 0 404 := ⟨RX4, TX4, 6, _, rfl, hi_X0_sweep_4, by decide, (by decide +kernel : Cond.fieldLink RX0 40 (TX4 4).1 (TX4 4).2.1 (TX4 4).2.2.1 ∈ wsX0_sweep), rfl, rfl, by decide⟩
set_option maxHeartbeats 4000000 in
set_option maxRecDepth 20000 in
theorem w_X0_sweep_56 {X : qB} {N : Nat} (hX : qOk X cX0_sweep RX0 4 none wsX0_sweep 1 21) {r : qM} (hE : xr X = none ∧ (True → xΦ X) ∧ xμ X = r) {k4 : (Nat → Int → Int → qM → Option (qM))} (hk4 : ∀ (x0 : Nat) (x1 : Int) (x2 : Int) (m0 : qM), gK (xG X) x0 = 1 → in32 x1 → in32 x2 → qR (xG X) m0 → k4 x0 x1 x2 m0 = some r → qN X 4 4 [(0, .ref x0), (1, .int (iZ x1)), (2, .int (iZ x2))] [] m0)
    {x0 : Nat} {x1 : Int} {x2 : Int} (k_x0 : gK (xG X) x0 = 1) (r_x1 : in32 x1) (r_x2 : in32 x2) {m0 : qM} (hR_m0 : qR (xG X) m0)
    (h : f_X0_sweep_56 N (xG X) k4 x0 x1 x2 m0 = some r) : qN X 4 56 [(0, .ref x0), (1, .int (iZ x1)), (2, .int (iZ x2))] [] m0 := by
  have hT := hX.T
  unfold f_X0_sweep_56 at h
  obtain ⟨v1, e_v1, r_v1, h⟩ := ckI_e h
  refine qn_iinc hX (pc := 56) (ls' := [(2, .int (iZ v1)), (0, .ref x0), (1, .int (iZ x1))]) dX0_sweep_56 2 rfl e_v1 rfl rfl ?_
  refine qn_goto hX (pc := 59) 4 dX0_sweep_59 (by decide) ?_
  refine qn_sub (ls' := [(0, .ref x0), (1, .int (iZ x1)), (2, .int (iZ v1))]) [1, 2, 0] rfl ?_
  exact hk4 x0 x1 v1 m0 k_x0 r_x1 r_v1 hR_m0 h
set_option maxHeartbeats 4000000 in
set_option maxRecDepth 20000 in
theorem w_X0_sweep_4 {X : qB} {N : Nat} (hX : qOk X cX0_sweep RX0 4 none wsX0_sweep 1 21) {r : qM} (hE : xr X = none ∧ (True → xΦ X) ∧ xμ X = r) {k4 : (Nat → Int → Int → qM → Option (qM))} (hk4 : ∀ (x0 : Nat) (x1 : Int) (x2 : Int) (m0 : qM), gK (xG X) x0 = 1 → in32 x1 → in32 x2 → qR (xG X) m0 → k4 x0 x1 x2 m0 = some r → qN X 4 4 [(0, .ref x0), (1, .int (iZ x1)), (2, .int (iZ x2))] [] m0)
    {x0 : Nat} {x1 : Int} {x2 : Int} (k_x0 : gK (xG X) x0 = 1) (r_x1 : in32 x1) (r_x2 : in32 x2) {m0 : qM} (hR_m0 : qR (xG X) m0)
    (h : f_X0_sweep_4 N (xG X) k4 x0 x1 x2 m0 = some r) : qN X 4 4 [(0, .ref x0), (1, .int (iZ x1)), (2, .int (iZ x2))] [] m0 := by
  have hT := hX.T
  unfold f_X0_sweep_4 at h
  refine qn_iload_n hX (pc := 4) dX0_sweep_4 2 rfl rfl ?_
  refine qn_aload_n hX (pc := 5) dX0_sweep_5 0 rfl rfl ?_
  refine qn_getI hX (pc := 6) fd_X0_sweep_25 dX0_sweep_6 k_x0 ?_
  refine qn_icmp_ge hX (pc := 9) r_x2 (hR_m0.i 1 _ rfl) 62 dX0_sweep_9 (by decide) (fun c1 => ?_) (fun c1 => ?_)
  · have h := ite_f h c1
    refine qn_aload_n hX (pc := 62) dX0_sweep_62 0 rfl rfl ?_
    refine qn_iload_n hX (pc := 63) dX0_sweep_63 1 rfl rfl ?_
    obtain ⟨m2, e_m2, h⟩ := kp_e h
    refine qn_putI hX (pc := 64) fp_X0_sweep_25 dX0_sweep_64 k_x0 hR_m0 r_x1 e_m2 (fun hR_m2 => ?_) 
    exact qn_vret hX (pc := 67) dX0_sweep_67 hE hR_m2 (Option.some.inj h)
  · have h := ite_t h c1
    refine qn_aload_n hX (pc := 12) dX0_sweep_12 0 rfl rfl ?_
    refine qn_getR hX (pc := 13) fd_X0_sweep_11 dX0_sweep_13 k_x0 ?_
    refine qn_iload_n hX (pc := 16) dX0_sweep_16 2 rfl rfl ?_
    obtain ⟨o3, e_o3, b_o3, k_o3, h⟩ := rdQ_e h
    refine qn_aaldO hX (pc := 17) 60 dX0_sweep_17 (qr_0 hT k_x0) (by decide) b_o3 e_o3 ?_
    refine qn_astore_n hX (pc := 18) (ls' := [(3, .ref o3), (0, .ref x0), (1, .int (iZ x1)), (2, .int (iZ x2))]) dX0_sweep_18 rfl rfl rfl ?_
    refine qn_aload_n hX (pc := 19) dX0_sweep_19 0 rfl rfl ?_
    refine qn_getI hX (pc := 20) fd_X0_sweep_40 dX0_sweep_20 k_o3 ?_
    refine qn_if_le hX (pc := 23) (hR_m0.i 404 _ rfl) 51 dX0_sweep_23 (by decide) (fun c4 => ?_) (fun c4 => ?_)
    · have h := ite_f h c4
      refine qn_aload_n hX (pc := 51) dX0_sweep_51 1 rfl rfl ?_
      refine qn_aload_n hX (pc := 52) dX0_sweep_52 0 rfl rfl ?_
      obtain ⟨m5, e_m5, h⟩ := kb_e h
      refine qn_callVv hX (pc := 53) [.ref o3] [.ref o3] 1 dX0_sweep_53 gX0_sweep_X0_lapse rfl dd_X0_lapse ⟨rfl, rfl⟩ rfl rfl (by decide) k_x0 rfl rfl hR_m0 (k_X0_lapse (xl X) hT k_x0 k_o3 e_m5) (fun r_v6 hR_m5 => ?_)
      refine qn_sub (ls' := [(0, .ref x0), (1, .int (iZ x1)), (2, .int (iZ x2))]) [1, 2, 3] rfl ?_
      exact w_X0_sweep_56 hX hE hk4 k_x0 r_x1 r_x2 hR_m5 h
    · have h := ite_t h c4
      refine qn_aload_n hX (pc := 26) dX0_sweep_26 1 rfl rfl ?_
      refine qn_getR hX (pc := 27) fd_X0_sweep_11 dX0_sweep_27 k_x0 ?_
      refine qn_iload_n hX (pc := 30) dX0_sweep_30 3 rfl rfl ?_
      refine qn_aload_n hX (pc := 31) dX0_sweep_31 1 rfl rfl ?_
      refine qn_getR hX (pc := 32) fd_X0_sweep_11 dX0_sweep_32 k_x0 ?_
      refine qn_iload_n hX (pc := 35) dX0_sweep_35 2 rfl rfl ?_
      obtain ⟨o7, e_o7, b_o7, k_o7, h⟩ := rdQ_e h
      refine qn_aaldO hX (pc := 36) 60 dX0_sweep_36 (qr_0 hT k_x0) (by decide) b_o7 e_o7 ?_
      obtain ⟨m8, e_m8, b_m8, h⟩ := wrQ_e h
      refine qn_aastO hX (pc := 37) 60 dX0_sweep_37 (qr_0 hT k_x0) (by decide) b_m8 hR_m0 k_o7 e_m8 (fun hR_m8 => ?_) 
      refine qn_aload_n hX (pc := 38) dX0_sweep_38 1 rfl rfl ?_
      refine qn_getR hX (pc := 39) fd_X0_sweep_11 dX0_sweep_39 k_x0 ?_
      refine qn_iload_n hX (pc := 42) dX0_sweep_42 2 rfl rfl ?_
      refine qn_aload_n hX (pc := 43) dX0_sweep_43 0 rfl rfl ?_
      obtain ⟨m9, e_m9, b_m9, h⟩ := wrQ_e h
      refine qn_aastO hX (pc := 44) 60 dX0_sweep_44 (qr_0 hT k_x0) (by decide) b_m9 hR_m8 k_o3 e_m9 (fun hR_m9 => ?_) 
      obtain ⟨v10, e_v10, r_v10, h⟩ := ckI_e h
      refine qn_iinc hX (pc := 45) (ls' := [(1, .int (iZ v10)), (3, .ref o3), (0, .ref x0), (2, .int (iZ x2))]) dX0_sweep_45 2 rfl e_v10 rfl rfl ?_
      refine qn_goto hX (pc := 48) 56 dX0_sweep_48 (by decide) ?_
      refine qn_sub (ls' := [(0, .ref x0), (1, .int (iZ v10)), (2, .int (iZ x2))]) [2, 0, 3] rfl ?_
      exact w_X0_sweep_56 hX hE hk4 k_x0 r_v10 r_x2 hR_m9 h
set_option maxHeartbeats 4000000 in
set_option maxRecDepth 20000 in
theorem w_X0_sweep_L4 {X : qB} {N : Nat} (hX : qOk X cX0_sweep RX0 4 none wsX0_sweep 1 21) {r : qM} (hE : xr X = none ∧ (True → xΦ X) ∧ xμ X = r) 
    {x0 : Nat} {x1 : Int} {x2 : Int} (k_x0 : gK (xG X) x0 = 1) (r_x1 : in32 x1) (r_x2 : in32 x2) {m0 : qM} (hR_m0 : qR (xG X) m0)
    (h : f_X0_sweep_L4 N (xG X)  x0 x1 x2 m0 = some r) : qN X 4 4 [(0, .ref x0), (1, .int (iZ x1)), (2, .int (iZ x2))] [] m0 := by
  unfold f_X0_sweep_L4 at h
  exact qLoop_w (σ := Nat × Int × Int × qM) (P := fun p => gK (xG X) p.1 = 1 ∧ in32 p.2.1 ∧ in32 p.2.2.1 ∧ qR (xG X) p.2.2.2) (Q := fun p => qN X 4 4 [(0, .ref p.1), (1, .int (iZ p.2.1)), (2, .int (iZ p.2.2.1))] [] p.2.2.2) (fun k hrec p hp hh => w_X0_sweep_4 hX hE (fun x0 x1 x2 m0 q0 q1 q2 hRm hh => hrec (x0, x1, x2, m0) ⟨q0, q1, q2, hRm⟩ hh) hp.1 hp.2.1 hp.2.2.1 hp.2.2.2 hh) N (x0, x1, x2, m0) ⟨k_x0, r_x1, r_x2, hR_m0⟩ h
set_option maxHeartbeats 4000000 in
set_option maxRecDepth 20000 in
theorem w_X0_sweep {X : qB} {N : Nat} (hX : qOk X cX0_sweep RX0 4 none wsX0_sweep 1 21) {r : qM} (hE : xr X = none ∧ (True → xΦ X) ∧ xμ X = r) 
    {x0 : Nat} (k_x0 : gK (xG X) x0 = 1) {m0 : qM} (hR_m0 : qR (xG X) m0)
    (h : f_X0_sweep N (xG X)  x0 m0 = some r) : qN X 4 0 [(0, .ref x0)] [] m0 := by
  have hT := hX.T
  unfold f_X0_sweep at h
  refine qn_iconst hX (pc := 0) dX0_sweep_0 ?_
  refine qn_istore_n hX (pc := 1) (ls' := [(1, .int (iZ 0)), (0, .ref x0)]) dX0_sweep_1 rfl rfl rfl ?_
  refine qn_iconst hX (pc := 2) dX0_sweep_2 ?_
  refine qn_istore_n hX (pc := 3) (ls' := [(2, .int (iZ 0)), (1, .int (iZ 0)), (0, .ref x0)]) dX0_sweep_3 rfl rfl rfl ?_
  refine qn_sub (ls' := [(0, .ref x0), (1, .int (iZ 0)), (2, .int (iZ 0))]) [2, 1, 0] rfl ?_
  exact w_X0_sweep_L4 hX hE  k_x0 (by decide) (by decide) hR_m0 h
theorem k_X0_sweep (l : Launch) {G : qG} (hT : qT G) {N : Nat} {x0 : Nat} (k_x0 : gK G x0 = 1) {m0 : qM} {r : qM} (h : f_X0_sweep N G x0 m0 = some r) : qC l yX0_sweep wsX0_sweep 1 21 G [.ref x0] m0 none True r := by
  refine qn_start (hy := by decide) hT (hw := rfl) (hn := Nat.le_of_ble_eq_true rfl) ?_
  intro X h1 h2 h3 h4 hX hR
  subst h4
  exact w_X0_sweep hX ⟨h1, fun q => h2 ▸ q, h3⟩ k_x0 hR h
theorem dd_X0_sweep : yX0_sweep.cls = RX0 ∧ yX0_sweep.cls ≠ "java/lang/invoke/MethodHandle" ∧ yX0_sweep.cls ≠ "java/lang/invoke/VarHandle" ∧ (parseMethodDescriptor yX0_sweep.desc).map (fun d => d.parameters.length) = some 0 := by decide +kernel
-- ProRataMarket$Book.useGrant
theorem hi_X0_useGrant_0 : ∀ w ∈ wsX00, w ∈ wsX0_useGrant := fun w h => List.mem_cons_of_mem _ (List.mem_append_left _ (List.mem_append_right _ h))
theorem fd_X0_useGrant_21 : qFd RX0 wsX0_useGrant 21 0 3 1 3 := ⟨RX0, TX0, 4, _, rfl, hi_X0_useGrant_0, by decide, (by decide +kernel : Cond.fieldLink RX0 21 (TX0 3).1 (TX0 3).2.1 (TX0 3).2.2.1 ∈ wsX0_useGrant), rfl, rfl, by decide⟩
theorem hi_X0_useGrant_4 : ∀ w ∈ wsX40, w ∈ wsX0_useGrant := fun w h => List.mem_cons_of_mem _ (List.mem_append_right _ h)
theorem fd_X0_useGrant_46 : qFd RX0 wsX0_useGrant 46 4 2 0 402 := ⟨RX4, TX4, 6, _, rfl, hi_X0_useGrant_4, by decide, (by decide +kernel : Cond.fieldLink RX0 46 (TX4 2).1 (TX4 2).2.1 (TX4 2).2.2.1 ∈ wsX0_useGrant), rfl, rfl, by decide⟩
theorem fd_X0_useGrant_17 : qFd RX0 wsX0_useGrant 17 0 2 1 2 := ⟨RX0, TX0, 4, _, rfl, hi_X0_useGrant_0, by decide, (by decide +kernel : Cond.fieldLink RX0 17 (TX0 2).1 (TX0 2).2.1 (TX0 2).2.2.1 ∈ wsX0_useGrant), rfl, rfl, by decide⟩
set_option maxHeartbeats 4000000 in
set_option maxRecDepth 20000 in
theorem w_X0_useGrant {X : qB} {N : Nat} (hX : qOk X cX0_useGrant RX0 3 none wsX0_useGrant 0 0) {r : qM} (hE : xr X = none ∧ (True → xΦ X) ∧ xμ X = r) 
    {x0 : Nat} {x1 : Nat} {x2 : Int} (k_x0 : gK (xG X) x0 = 1) (k_x1 : gK (xG X) x1 = 5) (r_x2 : in32 x2) {m0 : qM} (hR_m0 : qR (xG X) m0)
    (h : f_X0_useGrant N (xG X)  x0 x1 x2 m0 = some r) : qN X 3 0 [(0, .ref x0), (1, .ref x1), (2, .int (iZ x2))] [] m0 := by
  have hT := hX.T
  unfold f_X0_useGrant at h
  refine qn_aload_n hX (pc := 0) dX0_useGrant_0 0 rfl rfl ?_
  refine qn_getR hX (pc := 1) fd_X0_useGrant_21 dX0_useGrant_1 k_x0 ?_
  refine qn_aload_n hX (pc := 4) dX0_useGrant_4 1 rfl rfl ?_
  refine qn_getI hX (pc := 5) fd_X0_useGrant_46 dX0_useGrant_5 k_x1 ?_
  refine qn_dup2 hX (pc := 8) dX0_useGrant_8 rfl rfl ?_
  obtain ⟨v1, e_v1, b_v1, h⟩ := rdA_e h
  have r_v1 : in32 v1 := by rw [e_v1]; exact hR_m0.a (n := 2) _ (qr_3 hT k_x0) (by decide)
  refine qn_iald hX (pc := 9) 2 dX0_useGrant_9 (qr_3 hT k_x0) (by decide) b_v1 e_v1 ?_
  refine qn_iload_n hX (pc := 10) dX0_useGrant_10 2 rfl rfl ?_
  obtain ⟨v2, e_v2, r_v2, h⟩ := ckI_e h
  refine qn_isub hX (pc := 11) dX0_useGrant_11 e_v2 ?_
  obtain ⟨m3, e_m3, b_m3, h⟩ := wrA_e h
  refine qn_iast hX (pc := 12) 2 dX0_useGrant_12 (qr_3 hT k_x0) (by decide) b_m3 hR_m0 r_v2 e_m3 (fun hR_m3 => ?_) 
  refine qn_aload_n hX (pc := 13) dX0_useGrant_13 0 rfl rfl ?_
  refine qn_getR hX (pc := 14) fd_X0_useGrant_21 dX0_useGrant_14 k_x0 ?_
  refine qn_aload_n hX (pc := 17) dX0_useGrant_17 1 rfl rfl ?_
  refine qn_getI hX (pc := 18) fd_X0_useGrant_46 dX0_useGrant_18 k_x1 ?_
  obtain ⟨v4, e_v4, b_v4, h⟩ := rdA_e h
  have r_v4 : in32 v4 := by rw [e_v4]; exact hR_m3.a (n := 2) _ (qr_3 hT k_x0) (by decide)
  refine qn_iald hX (pc := 21) 2 dX0_useGrant_21 (qr_3 hT k_x0) (by decide) b_v4 e_v4 ?_
  refine qn_if_gt hX (pc := 22) r_v4 35 dX0_useGrant_22 (by decide) (fun c5 => ?_) (fun c5 => ?_)
  · have h := ite_t h c5
    exact qn_vret hX (pc := 35) dX0_useGrant_35 hE hR_m3 (Option.some.inj h)
  · have h := ite_f h c5
    refine qn_aload_n hX (pc := 25) dX0_useGrant_25 0 rfl rfl ?_
    refine qn_getR hX (pc := 26) fd_X0_useGrant_17 dX0_useGrant_26 k_x0 ?_
    refine qn_aload_n hX (pc := 29) dX0_useGrant_29 1 rfl rfl ?_
    refine qn_getI hX (pc := 30) fd_X0_useGrant_46 dX0_useGrant_30 k_x1 ?_
    refine qn_iconst hX (pc := 33) dX0_useGrant_33 ?_
    obtain ⟨m6, e_m6, b_m6, h⟩ := wrA_e h
    refine qn_iast hX (pc := 34) 2 dX0_useGrant_34 (qr_2 hT k_x0) (by decide) b_m6 hR_m3 (by decide) e_m6 (fun hR_m6 => ?_) 
    exact qn_vret hX (pc := 35) dX0_useGrant_35 hE hR_m6 (Option.some.inj h)
theorem k_X0_useGrant (l : Launch) {G : qG} (hT : qT G) {N : Nat} {x0 : Nat} {x1 : Nat} {x2 : Int} (k_x0 : gK G x0 = 1) (k_x1 : gK G x1 = 5) (r_x2 : in32 x2) {m0 : qM} {r : qM} (h : f_X0_useGrant N G x0 x1 x2 m0 = some r) : qC l yX0_useGrant wsX0_useGrant 0 0 G [.ref x0, .ref x1, .int (iZ x2)] m0 none True r := by
  refine qn_start (hy := by decide) hT (hw := rfl) (hn := Nat.le_of_ble_eq_true rfl) ?_
  intro X h1 h2 h3 h4 hX hR
  subst h4
  exact w_X0_useGrant hX ⟨h1, fun q => h2 ▸ q, h3⟩ k_x0 k_x1 r_x2 hR h
theorem dd_X0_useGrant : yX0_useGrant.cls = RX0 ∧ yX0_useGrant.cls ≠ "java/lang/invoke/MethodHandle" ∧ yX0_useGrant.cls ≠ "java/lang/invoke/VarHandle" ∧ (parseMethodDescriptor yX0_useGrant.desc).map (fun d => d.parameters.length) = some 2 := by decide +kernel
-- ProRataMarket$Clearing.isPreferred
theorem hi_X1_isPreferred_1 : ∀ w ∈ wsX10, w ∈ wsX1_isPreferred := fun w h => List.mem_cons_of_mem _ (List.mem_append_right _ h)
theorem fd_X1_isPreferred_15 : qFd RX1 wsX1_isPreferred 15 1 1 0 101 := ⟨RX1, TX1, 3, _, rfl, hi_X1_isPreferred_1, by decide, (by decide +kernel : Cond.fieldLink RX1 15 (TX1 1).1 (TX1 1).2.1 (TX1 1).2.2.1 ∈ wsX1_isPreferred), rfl, rfl, by decide⟩
theorem fd_X1_isPreferred_18 : qFd RX1 wsX1_isPreferred 18 1 2 0 102 := ⟨RX1, TX1, 3, _, rfl, hi_X1_isPreferred_1, by decide, (by decide +kernel : Cond.fieldLink RX1 18 (TX1 2).1 (TX1 2).2.1 (TX1 2).2.2.1 ∈ wsX1_isPreferred), rfl, rfl, by decide⟩
theorem fd_X1_isPreferred_9 : qFd RX1 wsX1_isPreferred 9 1 0 0 100 := ⟨RX1, TX1, 3, _, rfl, hi_X1_isPreferred_1, by decide, (by decide +kernel : Cond.fieldLink RX1 9 (TX1 0).1 (TX1 0).2.1 (TX1 0).2.2.1 ∈ wsX1_isPreferred), rfl, rfl, by decide⟩
set_option maxHeartbeats 4000000 in
set_option maxRecDepth 20000 in
theorem w_X1_isPreferred {X : qB} {N : Nat} (hX : qOk X cX1_isPreferred RX1 5 (some .boolean) wsX1_isPreferred 1 24) {r : Int} {nu : qM} (hE : xr X = some (.int (iZ r)) ∧ (in01 r → xΦ X) ∧ xμ X = nu) 
    {x0 : Nat} {x1 : Int} {x2 : Int} {x3 : Int} {x4 : Int} (k_x0 : gK (xG X) x0 = 2) (r_x1 : in32 x1) (r_x2 : in32 x2) (r_x3 : in32 x3) (r_x4 : in32 x4) {m0 : qM} (hR_m0 : qR (xG X) m0)
    (h : f_X1_isPreferred N (xG X)  x0 x1 x2 x3 x4 m0 = some (r, nu)) : qN X 5 0 [(0, .ref x0), (1, .int (iZ x1)), (2, .int (iZ x2)), (3, .int (iZ x3)), (4, .int (iZ x4))] [] m0 := by
  have hT := hX.T
  unfold f_X1_isPreferred at h
  refine qn_iload_n hX (pc := 0) dX1_isPreferred_0 2 rfl rfl ?_
  refine qn_aload_n hX (pc := 1) dX1_isPreferred_1 0 rfl rfl ?_
  refine qn_getI hX (pc := 2) fd_X1_isPreferred_15 dX1_isPreferred_2 k_x0 ?_
  refine qn_icmp_eq hX (pc := 5) r_x2 (hR_m0.i 101 _ rfl) 22 dX1_isPreferred_5 (by decide) (fun c1 => ?_) (fun c1 => ?_)
  · have h := ite_t h c1
    refine qn_iload_n hX (pc := 22) dX1_isPreferred_22 3 rfl rfl ?_
    obtain ⟨v2, e_v2, r_v2, h⟩ := ckI_e h
    refine qn_abs hX (pc := 23) r_x3 dX1_isPreferred_23 (by decide +kernel) (by decide +kernel) (by decide +kernel) (by decide +kernel) ⟨rfl, rfl⟩ e_v2 ?_
    refine qn_aload_n hX (pc := 26) dX1_isPreferred_26 0 rfl rfl ?_
    refine qn_getI hX (pc := 27) fd_X1_isPreferred_18 dX1_isPreferred_27 k_x0 ?_
    obtain ⟨v3, e_v3, r_v3, h⟩ := ckI_e h
    refine qn_abs hX (pc := 30) (hR_m0.i 102 _ rfl) dX1_isPreferred_30 (by decide +kernel) (by decide +kernel) (by decide +kernel) (by decide +kernel) ⟨rfl, rfl⟩ e_v3 ?_
    refine qn_icmp_eq hX (pc := 33) r_v2 r_v3 56 dX1_isPreferred_33 (by decide) (fun c4 => ?_) (fun c4 => ?_)
    · have h := ite_t h c4
      refine qn_iload_n hX (pc := 56) dX1_isPreferred_56 1 rfl rfl ?_
      refine qn_iload hX (pc := 57) dX1_isPreferred_57 4 rfl ?_
      obtain ⟨v5, e_v5, r_v5, h⟩ := ckI_e h
      refine qn_isub hX (pc := 59) dX1_isPreferred_59 e_v5 ?_
      obtain ⟨v6, e_v6, r_v6, h⟩ := ckI_e h
      refine qn_abs hX (pc := 60) r_v5 dX1_isPreferred_60 (by decide +kernel) (by decide +kernel) (by decide +kernel) (by decide +kernel) ⟨rfl, rfl⟩ e_v6 ?_
      refine qn_aload_n hX (pc := 63) dX1_isPreferred_63 0 rfl rfl ?_
      refine qn_getI hX (pc := 64) fd_X1_isPreferred_9 dX1_isPreferred_64 k_x0 ?_
      refine qn_iload hX (pc := 67) dX1_isPreferred_67 4 rfl ?_
      obtain ⟨v7, e_v7, r_v7, h⟩ := ckI_e h
      refine qn_isub hX (pc := 69) dX1_isPreferred_69 e_v7 ?_
      obtain ⟨v8, e_v8, r_v8, h⟩ := ckI_e h
      refine qn_abs hX (pc := 70) r_v7 dX1_isPreferred_70 (by decide +kernel) (by decide +kernel) (by decide +kernel) (by decide +kernel) ⟨rfl, rfl⟩ e_v8 ?_
      refine qn_icmp_eq hX (pc := 73) r_v6 r_v8 102 dX1_isPreferred_73 (by decide) (fun c9 => ?_) (fun c9 => ?_)
      · have h := ite_t h c9
        refine qn_iload_n hX (pc := 102) dX1_isPreferred_102 1 rfl rfl ?_
        refine qn_aload_n hX (pc := 103) dX1_isPreferred_103 0 rfl rfl ?_
        refine qn_getI hX (pc := 104) fd_X1_isPreferred_9 dX1_isPreferred_104 k_x0 ?_
        refine qn_icmp_ge hX (pc := 107) r_x1 (hR_m0.i 100 _ rfl) 114 dX1_isPreferred_107 (by decide) (fun c10 => ?_) (fun c10 => ?_)
        · have h := ite_f h c10
          refine qn_iconst hX (pc := 114) dX1_isPreferred_114 ?_
          exact qn_zret hX (pc := 115) dX1_isPreferred_115 hE hR_m0 (by decide) (Option.some.inj h)
        · have h := ite_t h c10
          refine qn_iconst hX (pc := 110) dX1_isPreferred_110 ?_
          refine qn_goto hX (pc := 111) 115 dX1_isPreferred_111 (by decide) ?_
          exact qn_zret hX (pc := 115) dX1_isPreferred_115 hE hR_m0 (by decide) (Option.some.inj h)
      · have h := ite_f h c9
        refine qn_iload_n hX (pc := 76) dX1_isPreferred_76 1 rfl rfl ?_
        refine qn_iload hX (pc := 77) dX1_isPreferred_77 4 rfl ?_
        obtain ⟨v11, e_v11, r_v11, h⟩ := ckI_e h
        refine qn_isub hX (pc := 79) dX1_isPreferred_79 e_v11 ?_
        obtain ⟨v12, e_v12, r_v12, h⟩ := ckI_e h
        refine qn_abs hX (pc := 80) r_v11 dX1_isPreferred_80 (by decide +kernel) (by decide +kernel) (by decide +kernel) (by decide +kernel) ⟨rfl, rfl⟩ e_v12 ?_
        refine qn_aload_n hX (pc := 83) dX1_isPreferred_83 0 rfl rfl ?_
        refine qn_getI hX (pc := 84) fd_X1_isPreferred_9 dX1_isPreferred_84 k_x0 ?_
        refine qn_iload hX (pc := 87) dX1_isPreferred_87 4 rfl ?_
        obtain ⟨v13, e_v13, r_v13, h⟩ := ckI_e h
        refine qn_isub hX (pc := 89) dX1_isPreferred_89 e_v13 ?_
        obtain ⟨v14, e_v14, r_v14, h⟩ := ckI_e h
        refine qn_abs hX (pc := 90) r_v13 dX1_isPreferred_90 (by decide +kernel) (by decide +kernel) (by decide +kernel) (by decide +kernel) ⟨rfl, rfl⟩ e_v14 ?_
        refine qn_icmp_ge hX (pc := 93) r_v12 r_v14 100 dX1_isPreferred_93 (by decide) (fun c15 => ?_) (fun c15 => ?_)
        · have h := ite_f h c15
          refine qn_iconst hX (pc := 100) dX1_isPreferred_100 ?_
          exact qn_zret hX (pc := 101) dX1_isPreferred_101 hE hR_m0 (by decide) (Option.some.inj h)
        · have h := ite_t h c15
          refine qn_iconst hX (pc := 96) dX1_isPreferred_96 ?_
          refine qn_goto hX (pc := 97) 101 dX1_isPreferred_97 (by decide) ?_
          exact qn_zret hX (pc := 101) dX1_isPreferred_101 hE hR_m0 (by decide) (Option.some.inj h)
    · have h := ite_f h c4
      refine qn_iload_n hX (pc := 36) dX1_isPreferred_36 3 rfl rfl ?_
      obtain ⟨v16, e_v16, r_v16, h⟩ := ckI_e h
      refine qn_abs hX (pc := 37) r_x3 dX1_isPreferred_37 (by decide +kernel) (by decide +kernel) (by decide +kernel) (by decide +kernel) ⟨rfl, rfl⟩ e_v16 ?_
      refine qn_aload_n hX (pc := 40) dX1_isPreferred_40 0 rfl rfl ?_
      refine qn_getI hX (pc := 41) fd_X1_isPreferred_18 dX1_isPreferred_41 k_x0 ?_
      obtain ⟨v17, e_v17, r_v17, h⟩ := ckI_e h
      refine qn_abs hX (pc := 44) (hR_m0.i 102 _ rfl) dX1_isPreferred_44 (by decide +kernel) (by decide +kernel) (by decide +kernel) (by decide +kernel) ⟨rfl, rfl⟩ e_v17 ?_
      refine qn_icmp_ge hX (pc := 47) r_v16 r_v17 54 dX1_isPreferred_47 (by decide) (fun c18 => ?_) (fun c18 => ?_)
      · have h := ite_f h c18
        refine qn_iconst hX (pc := 54) dX1_isPreferred_54 ?_
        exact qn_zret hX (pc := 55) dX1_isPreferred_55 hE hR_m0 (by decide) (Option.some.inj h)
      · have h := ite_t h c18
        refine qn_iconst hX (pc := 50) dX1_isPreferred_50 ?_
        refine qn_goto hX (pc := 51) 55 dX1_isPreferred_51 (by decide) ?_
        exact qn_zret hX (pc := 55) dX1_isPreferred_55 hE hR_m0 (by decide) (Option.some.inj h)
  · have h := ite_f h c1
    refine qn_iload_n hX (pc := 8) dX1_isPreferred_8 2 rfl rfl ?_
    refine qn_aload_n hX (pc := 9) dX1_isPreferred_9 0 rfl rfl ?_
    refine qn_getI hX (pc := 10) fd_X1_isPreferred_15 dX1_isPreferred_10 k_x0 ?_
    refine qn_icmp_le hX (pc := 13) r_x2 (hR_m0.i 101 _ rfl) 20 dX1_isPreferred_13 (by decide) (fun c19 => ?_) (fun c19 => ?_)
    · have h := ite_f h c19
      refine qn_iconst hX (pc := 20) dX1_isPreferred_20 ?_
      exact qn_zret hX (pc := 21) dX1_isPreferred_21 hE hR_m0 (by decide) (Option.some.inj h)
    · have h := ite_t h c19
      refine qn_iconst hX (pc := 16) dX1_isPreferred_16 ?_
      refine qn_goto hX (pc := 17) 21 dX1_isPreferred_17 (by decide) ?_
      exact qn_zret hX (pc := 21) dX1_isPreferred_21 hE hR_m0 (by decide) (Option.some.inj h)
theorem k_X1_isPreferred (l : Launch) {G : qG} (hT : qT G) {N : Nat} {x0 : Nat} {x1 : Int} {x2 : Int} {x3 : Int} {x4 : Int} (k_x0 : gK G x0 = 2) (r_x1 : in32 x1) (r_x2 : in32 x2) (r_x3 : in32 x3) (r_x4 : in32 x4) {m0 : qM} {r : Int} {nu : qM} (h : f_X1_isPreferred N G x0 x1 x2 x3 x4 m0 = some (r, nu)) : qC l yX1_isPreferred wsX1_isPreferred 1 24 G [.ref x0, .int (iZ x1), .int (iZ x2), .int (iZ x3), .int (iZ x4)] m0 (some (.int (iZ r))) (in01 r) nu := by
  refine qn_start (hy := by decide) hT (hw := rfl) (hn := Nat.le_of_ble_eq_true rfl) ?_
  intro X h1 h2 h3 h4 hX hR
  subst h4
  exact w_X1_isPreferred hX ⟨h1, fun q => h2 ▸ q, h3⟩ k_x0 r_x1 r_x2 r_x3 r_x4 hR h
theorem dd_X1_isPreferred : yX1_isPreferred.cls = RX1 ∧ yX1_isPreferred.cls ≠ "java/lang/invoke/MethodHandle" ∧ yX1_isPreferred.cls ≠ "java/lang/invoke/VarHandle" ∧ (parseMethodDescriptor yX1_isPreferred.desc).map (fun d => d.parameters.length) = some 4 := by decide +kernel
-- ProRataMarket$Clearing.consider
theorem hi_X1_consider_0 : ∀ w ∈ wsX00, w ∈ wsX1_consider := fun w h => List.mem_cons_of_mem _ (List.mem_append_left _ (List.mem_append_left _ (List.mem_append_right _ h)))
theorem fd_X1_consider_25 : qFd RX1 wsX1_consider 25 0 1 0 1 := ⟨RX0, TX0, 4, _, rfl, hi_X1_consider_0, by decide, (by decide +kernel : Cond.fieldLink RX1 25 (TX0 1).1 (TX0 1).2.1 (TX0 1).2.2.1 ∈ wsX1_consider), rfl, rfl, by decide⟩
theorem hi_X1_consider_1 : ∀ w ∈ wsX10, w ∈ wsX1_consider := fun w h => List.mem_cons_of_mem _ (List.mem_append_right _ h)
theorem fp_X1_consider_9 : qFp RX1 wsX1_consider 9 1 0 0 100 .int := ⟨RX1, TX1, 3, _, tyX1, rfl, hi_X1_consider_1, by decide, (by decide +kernel : Cond.fieldLink RX1 9 (TX1 0).1 (TX1 0).2.1 (TX1 0).2.2.1 ∈ wsX1_consider), rfl, rfl, by decide, tyX1_ok, nmX1, rfl, by decide +kernel⟩
theorem fp_X1_consider_15 : qFp RX1 wsX1_consider 15 1 1 0 101 .int := ⟨RX1, TX1, 3, _, tyX1, rfl, hi_X1_consider_1, by decide, (by decide +kernel : Cond.fieldLink RX1 15 (TX1 1).1 (TX1 1).2.1 (TX1 1).2.2.1 ∈ wsX1_consider), rfl, rfl, by decide, tyX1_ok, nmX1, rfl, by decide +kernel⟩
theorem fp_X1_consider_18 : qFp RX1 wsX1_consider 18 1 2 0 102 .int := ⟨RX1, TX1, 3, _, tyX1, rfl, hi_X1_consider_1, by decide, (by decide +kernel : Cond.fieldLink RX1 18 (TX1 2).1 (TX1 2).2.1 (TX1 2).2.2.1 ∈ wsX1_consider), rfl, rfl, by decide, tyX1_ok, nmX1, rfl, by decide +kernel⟩
theorem fd_X1_consider_30 : qFd RX1 wsX1_consider 30 0 0 1 0 := ⟨RX0, TX0, 4, _, rfl, hi_X1_consider_0, by decide, (by decide +kernel : Cond.fieldLink RX1 30 (TX0 0).1 (TX0 0).2.1 (TX0 0).2.2.1 ∈ wsX1_consider), rfl, rfl, by decide⟩
theorem hi_X1_consider_4 : ∀ w ∈ wsX40, w ∈ wsX1_consider := fun w h => List.mem_cons_of_mem _ (List.mem_append_left _ (List.mem_append_right _ h))
theorem fd_X1_consider_38 : qFd RX1 wsX1_consider 38 4 2 0 402 := ⟨RX4, TX4, 6, _, rfl, hi_X1_consider_4, by decide, (by decide +kernel : Cond.fieldLink RX1 38 (TX4 2).1 (TX4 2).2.1 (TX4 2).2.2.1 ∈ wsX1_consider), rfl, rfl, by decide⟩
theorem fd_X1_consider_34 : qFd RX1 wsX1_consider 34 4 3 0 403 := ⟨RX4, TX4, 6, _, rfl, hi_X1_consider_4, by decide, (by decide +kernel : Cond.fieldLink RX1 34 (TX4 3).1 (TX4 3).2.1 (TX4 3).2.2.1 ∈ wsX1_consider), rfl, rfl, by decide⟩
theorem fd_X1_consider_41 : qFd RX1 wsX1_consider 41 4 4 0 404 := ⟨RX4, TX4, 6, _, rfl, hi_X1_consider_4, by decide, (by decide +kernel : Cond.fieldLink RX1 41 (TX4 4).1 (TX4 4).2.1 (TX4 4).2.2.1 ∈ wsX1_consider), rfl, rfl, by decide⟩
set_option maxHeartbeats 4000000 in
set_option maxRecDepth 20000 in
theorem w_X1_consider_96 {X : qB} {N : Nat} (hX : qOk X cX1_consider RX1 8 none wsX1_consider 2 48) {r : qM} (hE : xr X = none ∧ (True → xΦ X) ∧ xμ X = r) {k21 : (Nat → Nat → Int → Int → Int → Int → Int → qM → Option (qM))} (hk21 : ∀ (x0 : Nat) (x1 : Nat) (x2 : Int) (x3 : Int) (x4 : Int) (x5 : Int) (x6 : Int) (m0 : qM), gK (xG X) x0 = 2 → gK (xG X) x1 = 1 → in32 x2 → in32 x3 → in32 x4 → in32 x5 → in32 x6 → qR (xG X) m0 → k21 x0 x1 x2 x3 x4 x5 x6 m0 = some r → qN X 8 21 [(0, .ref x0), (1, .ref x1), (2, .int (iZ x2)), (3, .int (iZ x3)), (4, .int (iZ x4)), (5, .int (iZ x5)), (6, .int (iZ x6))] [] m0)
    {x0 : Nat} {x1 : Nat} {x2 : Int} {x3 : Int} {x4 : Int} {x5 : Int} {x6 : Int} (k_x0 : gK (xG X) x0 = 2) (k_x1 : gK (xG X) x1 = 1) (r_x2 : in32 x2) (r_x3 : in32 x3) (r_x4 : in32 x4) (r_x5 : in32 x5) (r_x6 : in32 x6) {m0 : qM} (hR_m0 : qR (xG X) m0)
    (h : f_X1_consider_96 N (xG X) k21 x0 x1 x2 x3 x4 x5 x6 m0 = some r) : qN X 8 96 [(0, .ref x0), (1, .ref x1), (2, .int (iZ x2)), (3, .int (iZ x3)), (4, .int (iZ x4)), (5, .int (iZ x5)), (6, .int (iZ x6))] [] m0 := by
  have hT := hX.T
  unfold f_X1_consider_96 at h
  obtain ⟨v1, e_v1, r_v1, h⟩ := ckI_e h
  refine qn_iinc hX (pc := 96) (ls' := [(6, .int (iZ v1)), (0, .ref x0), (1, .ref x1), (2, .int (iZ x2)), (3, .int (iZ x3)), (4, .int (iZ x4)), (5, .int (iZ x5))]) dX1_consider_96 6 rfl e_v1 rfl rfl ?_
  refine qn_goto hX (pc := 99) 21 dX1_consider_99 (by decide) ?_
  refine qn_sub (ls' := [(0, .ref x0), (1, .ref x1), (2, .int (iZ x2)), (3, .int (iZ x3)), (4, .int (iZ x4)), (5, .int (iZ x5)), (6, .int (iZ v1))]) [1, 2, 3, 4, 5, 6, 0] rfl ?_
  exact hk21 x0 x1 x2 x3 x4 x5 v1 m0 k_x0 k_x1 r_x2 r_x3 r_x4 r_x5 r_v1 hR_m0 h
set_option maxHeartbeats 4000000 in
set_option maxRecDepth 20000 in
theorem w_X1_consider_93 {X : qB} {N : Nat} (hX : qOk X cX1_consider RX1 8 none wsX1_consider 2 48) {r : qM} (hE : xr X = none ∧ (True → xΦ X) ∧ xμ X = r) {k21 : (Nat → Nat → Int → Int → Int → Int → Int → qM → Option (qM))} (hk21 : ∀ (x0 : Nat) (x1 : Nat) (x2 : Int) (x3 : Int) (x4 : Int) (x5 : Int) (x6 : Int) (m0 : qM), gK (xG X) x0 = 2 → gK (xG X) x1 = 1 → in32 x2 → in32 x3 → in32 x4 → in32 x5 → in32 x6 → qR (xG X) m0 → k21 x0 x1 x2 x3 x4 x5 x6 m0 = some r → qN X 8 21 [(0, .ref x0), (1, .ref x1), (2, .int (iZ x2)), (3, .int (iZ x3)), (4, .int (iZ x4)), (5, .int (iZ x5)), (6, .int (iZ x6))] [] m0)
    {x0 : Nat} {x1 : Nat} {x2 : Int} {x3 : Int} {x4 : Int} {x6 : Int} {s0 : Int} {s1 : Int} (k_x0 : gK (xG X) x0 = 2) (k_x1 : gK (xG X) x1 = 1) (r_x2 : in32 x2) (r_x3 : in32 x3) (r_x4 : in32 x4) (r_x6 : in32 x6) (r_s0 : in32 s0) (r_s1 : in32 s1) {m0 : qM} (hR_m0 : qR (xG X) m0)
    (h : f_X1_consider_93 N (xG X) k21 x0 x1 x2 x3 x4 x6 s0 s1 m0 = some r) : qN X 8 93 [(0, .ref x0), (1, .ref x1), (2, .int (iZ x2)), (3, .int (iZ x3)), (4, .int (iZ x4)), (6, .int (iZ x6))] [.int (iZ s1), .int (iZ s0)] m0 := by
  have hT := hX.T
  unfold f_X1_consider_93 at h
  obtain ⟨v1, e_v1, r_v1, h⟩ := ckI_e h
  refine qn_iadd hX (pc := 93) dX1_consider_93 e_v1 ?_
  refine qn_istore hX (pc := 94) (ls' := [(5, .int (iZ v1)), (0, .ref x0), (1, .ref x1), (2, .int (iZ x2)), (3, .int (iZ x3)), (4, .int (iZ x4)), (6, .int (iZ x6))]) dX1_consider_94 rfl rfl ?_
  refine qn_sub (ls' := [(0, .ref x0), (1, .ref x1), (2, .int (iZ x2)), (3, .int (iZ x3)), (4, .int (iZ x4)), (5, .int (iZ v1)), (6, .int (iZ x6))]) [1, 2, 3, 4, 5, 0, 6] rfl ?_
  exact w_X1_consider_96 hX hE hk21 k_x0 k_x1 r_x2 r_x3 r_x4 r_v1 r_x6 hR_m0 h
set_option maxHeartbeats 4000000 in
set_option maxRecDepth 20000 in
theorem w_X1_consider_67 {X : qB} {N : Nat} (hX : qOk X cX1_consider RX1 8 none wsX1_consider 2 48) {r : qM} (hE : xr X = none ∧ (True → xΦ X) ∧ xμ X = r) {k21 : (Nat → Nat → Int → Int → Int → Int → Int → qM → Option (qM))} (hk21 : ∀ (x0 : Nat) (x1 : Nat) (x2 : Int) (x3 : Int) (x4 : Int) (x5 : Int) (x6 : Int) (m0 : qM), gK (xG X) x0 = 2 → gK (xG X) x1 = 1 → in32 x2 → in32 x3 → in32 x4 → in32 x5 → in32 x6 → qR (xG X) m0 → k21 x0 x1 x2 x3 x4 x5 x6 m0 = some r → qN X 8 21 [(0, .ref x0), (1, .ref x1), (2, .int (iZ x2)), (3, .int (iZ x3)), (4, .int (iZ x4)), (5, .int (iZ x5)), (6, .int (iZ x6))] [] m0)
    {x0 : Nat} {x1 : Nat} {x2 : Int} {x3 : Int} {x5 : Int} {x6 : Int} {s0 : Int} {s1 : Int} (k_x0 : gK (xG X) x0 = 2) (k_x1 : gK (xG X) x1 = 1) (r_x2 : in32 x2) (r_x3 : in32 x3) (r_x5 : in32 x5) (r_x6 : in32 x6) (r_s0 : in32 s0) (r_s1 : in32 s1) {m0 : qM} (hR_m0 : qR (xG X) m0)
    (h : f_X1_consider_67 N (xG X) k21 x0 x1 x2 x3 x5 x6 s0 s1 m0 = some r) : qN X 8 67 [(0, .ref x0), (1, .ref x1), (2, .int (iZ x2)), (3, .int (iZ x3)), (5, .int (iZ x5)), (6, .int (iZ x6))] [.int (iZ s1), .int (iZ s0)] m0 := by
  have hT := hX.T
  unfold f_X1_consider_67 at h
  obtain ⟨v1, e_v1, r_v1, h⟩ := ckI_e h
  refine qn_iadd hX (pc := 67) dX1_consider_67 e_v1 ?_
  refine qn_istore hX (pc := 68) (ls' := [(4, .int (iZ v1)), (0, .ref x0), (1, .ref x1), (2, .int (iZ x2)), (3, .int (iZ x3)), (5, .int (iZ x5)), (6, .int (iZ x6))]) dX1_consider_68 rfl rfl ?_
  refine qn_goto hX (pc := 70) 96 dX1_consider_70 (by decide) ?_
  refine qn_sub (ls' := [(0, .ref x0), (1, .ref x1), (2, .int (iZ x2)), (3, .int (iZ x3)), (4, .int (iZ v1)), (5, .int (iZ x5)), (6, .int (iZ x6))]) [1, 2, 3, 4, 0, 5, 6] rfl ?_
  exact w_X1_consider_96 hX hE hk21 k_x0 k_x1 r_x2 r_x3 r_v1 r_x5 r_x6 hR_m0 h
set_option maxHeartbeats 4000000 in
set_option maxRecDepth 20000 in
theorem w_X1_consider_21 {X : qB} {N : Nat} (hX : qOk X cX1_consider RX1 8 none wsX1_consider 2 48) {r : qM} (hE : xr X = none ∧ (True → xΦ X) ∧ xμ X = r) {k21 : (Nat → Nat → Int → Int → Int → Int → Int → qM → Option (qM))} (hk21 : ∀ (x0 : Nat) (x1 : Nat) (x2 : Int) (x3 : Int) (x4 : Int) (x5 : Int) (x6 : Int) (m0 : qM), gK (xG X) x0 = 2 → gK (xG X) x1 = 1 → in32 x2 → in32 x3 → in32 x4 → in32 x5 → in32 x6 → qR (xG X) m0 → k21 x0 x1 x2 x3 x4 x5 x6 m0 = some r → qN X 8 21 [(0, .ref x0), (1, .ref x1), (2, .int (iZ x2)), (3, .int (iZ x3)), (4, .int (iZ x4)), (5, .int (iZ x5)), (6, .int (iZ x6))] [] m0)
    {x0 : Nat} {x1 : Nat} {x2 : Int} {x3 : Int} {x4 : Int} {x5 : Int} {x6 : Int} (k_x0 : gK (xG X) x0 = 2) (k_x1 : gK (xG X) x1 = 1) (r_x2 : in32 x2) (r_x3 : in32 x3) (r_x4 : in32 x4) (r_x5 : in32 x5) (r_x6 : in32 x6) {m0 : qM} (hR_m0 : qR (xG X) m0)
    (h : f_X1_consider_21 N (xG X) k21 x0 x1 x2 x3 x4 x5 x6 m0 = some r) : qN X 8 21 [(0, .ref x0), (1, .ref x1), (2, .int (iZ x2)), (3, .int (iZ x3)), (4, .int (iZ x4)), (5, .int (iZ x5)), (6, .int (iZ x6))] [] m0 := by
  have hT := hX.T
  unfold f_X1_consider_21 at h
  refine qn_iload hX (pc := 21) dX1_consider_21 6 rfl ?_
  refine qn_aload_n hX (pc := 23) dX1_consider_23 1 rfl rfl ?_
  refine qn_getI hX (pc := 24) fd_X1_consider_25 dX1_consider_24 k_x1 ?_
  refine qn_icmp_ge hX (pc := 27) r_x6 (hR_m0.i 1 _ rfl) 102 dX1_consider_27 (by decide) (fun c1 => ?_) (fun c1 => ?_)
  · have h := ite_f h c1
    refine qn_iload hX (pc := 102) dX1_consider_102 4 rfl ?_
    refine qn_iload hX (pc := 104) dX1_consider_104 5 rfl ?_
    obtain ⟨v2, e_v2, h⟩ := kp_e h
    have r_v2 : in32 v2 := by rw [e_v2]; exact in32_min r_x4 r_x5
    refine qn_min hX (pc := 106) r_x4 r_x5 dX1_consider_106 (by decide +kernel) (by decide +kernel) (by decide +kernel) (by decide +kernel) ⟨rfl, rfl⟩ e_v2 ?_
    refine qn_istore hX (pc := 109) (ls' := [(6, .int (iZ v2)), (0, .ref x0), (1, .ref x1), (2, .int (iZ x2)), (3, .int (iZ x3)), (4, .int (iZ x4)), (5, .int (iZ x5))]) dX1_consider_109 rfl rfl ?_
    refine qn_iload hX (pc := 111) dX1_consider_111 0 rfl ?_
    refine qn_if_le hX (pc := 113) r_v2 152 dX1_consider_113 (by decide) (fun c3 => ?_) (fun c3 => ?_)
    · have h := ite_f h c3
      exact qn_vret hX (pc := 152) dX1_consider_152 hE hR_m0 (Option.some.inj h)
    · have h := ite_t h c3
      refine qn_aload_n hX (pc := 116) dX1_consider_116 1 rfl rfl ?_
      refine qn_iload_n hX (pc := 117) dX1_consider_117 3 rfl rfl ?_
      refine qn_iload hX (pc := 118) dX1_consider_118 0 rfl ?_
      refine qn_iload hX (pc := 120) dX1_consider_120 5 rfl ?_
      refine qn_iload hX (pc := 122) dX1_consider_122 6 rfl ?_
      obtain ⟨v4, e_v4, r_v4, h⟩ := ckI_e h
      refine qn_isub hX (pc := 124) dX1_consider_124 e_v4 ?_
      refine qn_iload_n hX (pc := 125) dX1_consider_125 4 rfl rfl ?_
      obtain ⟨v6, m5, e_m5, h⟩ := kb2_e h
      refine qn_callVi hX (pc := 126) [.int (iZ x2), .int (iZ v2), .int (iZ v4), .int (iZ x3)] [.int (iZ x3), .int (iZ v4), .int (iZ v2), .int (iZ x2)] 4 dX1_consider_126 gX1_consider_X1_isPreferred rfl dd_X1_isPreferred ⟨rfl, rfl⟩ rfl rfl (by decide) k_x0 rfl rfl hR_m0 (k_X1_isPreferred (xl X) hT k_x0 r_x2 r_v2 r_v4 r_x3 e_m5) (fun r_v6 hR_m5 => ?_)
      refine qn_if_eq hX (pc := 129) r_v6.i 152 dX1_consider_129 (by decide) (fun c7 => ?_) (fun c7 => ?_)
      · have h := ite_t h c7
        exact qn_vret hX (pc := 152) dX1_consider_152 hE hR_m5 (Option.some.inj h)
      · have h := ite_f h c7
        refine qn_aload_n hX (pc := 132) dX1_consider_132 1 rfl rfl ?_
        refine qn_iload_n hX (pc := 133) dX1_consider_133 3 rfl rfl ?_
        obtain ⟨m8, e_m8, h⟩ := kp_e h
        refine qn_putI hX (pc := 134) fp_X1_consider_9 dX1_consider_134 k_x0 hR_m5 r_x2 e_m8 (fun hR_m8 => ?_) 
        refine qn_aload_n hX (pc := 137) dX1_consider_137 1 rfl rfl ?_
        refine qn_iload hX (pc := 138) dX1_consider_138 0 rfl ?_
        obtain ⟨m9, e_m9, h⟩ := kp_e h
        refine qn_putI hX (pc := 140) fp_X1_consider_15 dX1_consider_140 k_x0 hR_m8 r_v2 e_m9 (fun hR_m9 => ?_) 
        refine qn_aload_n hX (pc := 143) dX1_consider_143 1 rfl rfl ?_
        refine qn_iload hX (pc := 144) dX1_consider_144 5 rfl ?_
        refine qn_iload hX (pc := 146) dX1_consider_146 6 rfl ?_
        obtain ⟨v10, e_v10, r_v10, h⟩ := ckI_e h
        refine qn_isub hX (pc := 148) dX1_consider_148 e_v10 ?_
        obtain ⟨m11, e_m11, h⟩ := kp_e h
        refine qn_putI hX (pc := 149) fp_X1_consider_18 dX1_consider_149 k_x0 hR_m9 r_v10 e_m11 (fun hR_m11 => ?_) 
        exact qn_vret hX (pc := 152) dX1_consider_152 hE hR_m11 (Option.some.inj h)
  · have h := ite_t h c1
    refine qn_aload_n hX (pc := 30) dX1_consider_30 1 rfl rfl ?_
    refine qn_getR hX (pc := 31) fd_X1_consider_30 dX1_consider_31 k_x1 ?_
    refine qn_iload hX (pc := 34) dX1_consider_34 6 rfl ?_
    obtain ⟨o12, e_o12, b_o12, k_o12, h⟩ := rdQ_e h
    refine qn_aaldO hX (pc := 36) 60 dX1_consider_36 (qr_0 hT k_x1) (by decide) b_o12 e_o12 ?_
    refine qn_astore hX (pc := 37) (ls' := [(7, .ref o12), (0, .ref x0), (1, .ref x1), (2, .int (iZ x2)), (3, .int (iZ x3)), (4, .int (iZ x4)), (5, .int (iZ x5)), (6, .int (iZ x6))]) dX1_consider_37 rfl rfl ?_
    refine qn_aload hX (pc := 39) dX1_consider_39 0 rfl ?_
    refine qn_getI hX (pc := 41) fd_X1_consider_38 dX1_consider_41 k_o12 ?_
    refine qn_if_ne hX (pc := 44) (hR_m0.i 402 _ rfl) 73 dX1_consider_44 (by decide) (fun c13 => ?_) (fun c13 => ?_)
    · have h := ite_f h c13
      refine qn_iload hX (pc := 73) dX1_consider_73 6 rfl ?_
      refine qn_aload hX (pc := 75) dX1_consider_75 0 rfl ?_
      refine qn_getI hX (pc := 77) fd_X1_consider_34 dX1_consider_77 k_o12 ?_
      refine qn_iload_n hX (pc := 80) dX1_consider_80 3 rfl rfl ?_
      refine qn_icmp_gt hX (pc := 81) (hR_m0.i 403 _ rfl) r_x2 92 dX1_consider_81 (by decide) (fun c14 => ?_) (fun c14 => ?_)
      · have h := ite_t h c14
        refine qn_iconst hX (pc := 92) dX1_consider_92 ?_
        refine qn_sub (ls' := [(0, .ref x0), (1, .ref x1), (2, .int (iZ x2)), (3, .int (iZ x3)), (4, .int (iZ x4)), (6, .int (iZ x6))]) [1, 2, 3, 4, 5, 7] rfl ?_
        exact w_X1_consider_93 hX hE hk21 k_x0 k_x1 r_x2 r_x3 r_x4 r_x6 r_x5 (by decide) hR_m0 h
      · have h := ite_f h c14
        refine qn_aload hX (pc := 84) dX1_consider_84 0 rfl ?_
        refine qn_getI hX (pc := 86) fd_X1_consider_41 dX1_consider_86 k_o12 ?_
        refine qn_goto hX (pc := 89) 93 dX1_consider_89 (by decide) ?_
        refine qn_sub (ls' := [(0, .ref x0), (1, .ref x1), (2, .int (iZ x2)), (3, .int (iZ x3)), (4, .int (iZ x4)), (6, .int (iZ x6))]) [1, 2, 3, 4, 5, 7] rfl ?_
        exact w_X1_consider_93 hX hE hk21 k_x0 k_x1 r_x2 r_x3 r_x4 r_x6 r_x5 (hR_m0.i 404 _ rfl) hR_m0 h
    · have h := ite_t h c13
      refine qn_iload hX (pc := 47) dX1_consider_47 5 rfl ?_
      refine qn_aload hX (pc := 49) dX1_consider_49 0 rfl ?_
      refine qn_getI hX (pc := 51) fd_X1_consider_34 dX1_consider_51 k_o12 ?_
      refine qn_iload_n hX (pc := 54) dX1_consider_54 3 rfl rfl ?_
      refine qn_icmp_lt hX (pc := 55) (hR_m0.i 403 _ rfl) r_x2 66 dX1_consider_55 (by decide) (fun c15 => ?_) (fun c15 => ?_)
      · have h := ite_t h c15
        refine qn_iconst hX (pc := 66) dX1_consider_66 ?_
        refine qn_sub (ls' := [(0, .ref x0), (1, .ref x1), (2, .int (iZ x2)), (3, .int (iZ x3)), (5, .int (iZ x5)), (6, .int (iZ x6))]) [1, 2, 3, 4, 6, 7] rfl ?_
        exact w_X1_consider_67 hX hE hk21 k_x0 k_x1 r_x2 r_x3 r_x5 r_x6 r_x4 (by decide) hR_m0 h
      · have h := ite_f h c15
        refine qn_aload hX (pc := 58) dX1_consider_58 0 rfl ?_
        refine qn_getI hX (pc := 60) fd_X1_consider_41 dX1_consider_60 k_o12 ?_
        refine qn_goto hX (pc := 63) 67 dX1_consider_63 (by decide) ?_
        refine qn_sub (ls' := [(0, .ref x0), (1, .ref x1), (2, .int (iZ x2)), (3, .int (iZ x3)), (5, .int (iZ x5)), (6, .int (iZ x6))]) [1, 2, 3, 4, 6, 7] rfl ?_
        exact w_X1_consider_67 hX hE hk21 k_x0 k_x1 r_x2 r_x3 r_x5 r_x6 r_x4 (hR_m0.i 404 _ rfl) hR_m0 h
set_option maxHeartbeats 4000000 in
set_option maxRecDepth 20000 in
theorem w_X1_consider_L21 {X : qB} {N : Nat} (hX : qOk X cX1_consider RX1 8 none wsX1_consider 2 48) {r : qM} (hE : xr X = none ∧ (True → xΦ X) ∧ xμ X = r) 
    {x0 : Nat} {x1 : Nat} {x2 : Int} {x3 : Int} {x4 : Int} {x5 : Int} {x6 : Int} (k_x0 : gK (xG X) x0 = 2) (k_x1 : gK (xG X) x1 = 1) (r_x2 : in32 x2) (r_x3 : in32 x3) (r_x4 : in32 x4) (r_x5 : in32 x5) (r_x6 : in32 x6) {m0 : qM} (hR_m0 : qR (xG X) m0)
    (h : f_X1_consider_L21 N (xG X)  x0 x1 x2 x3 x4 x5 x6 m0 = some r) : qN X 8 21 [(0, .ref x0), (1, .ref x1), (2, .int (iZ x2)), (3, .int (iZ x3)), (4, .int (iZ x4)), (5, .int (iZ x5)), (6, .int (iZ x6))] [] m0 := by
  unfold f_X1_consider_L21 at h
  exact qLoop_w (σ := Nat × Nat × Int × Int × Int × Int × Int × qM) (P := fun p => gK (xG X) p.1 = 2 ∧ gK (xG X) p.2.1 = 1 ∧ in32 p.2.2.1 ∧ in32 p.2.2.2.1 ∧ in32 p.2.2.2.2.1 ∧ in32 p.2.2.2.2.2.1 ∧ in32 p.2.2.2.2.2.2.1 ∧ qR (xG X) p.2.2.2.2.2.2.2) (Q := fun p => qN X 8 21 [(0, .ref p.1), (1, .ref p.2.1), (2, .int (iZ p.2.2.1)), (3, .int (iZ p.2.2.2.1)), (4, .int (iZ p.2.2.2.2.1)), (5, .int (iZ p.2.2.2.2.2.1)), (6, .int (iZ p.2.2.2.2.2.2.1))] [] p.2.2.2.2.2.2.2) (fun k hrec p hp hh => w_X1_consider_21 hX hE (fun x0 x1 x2 x3 x4 x5 x6 m0 q0 q1 q2 q3 q4 q5 q6 hRm hh => hrec (x0, x1, x2, x3, x4, x5, x6, m0) ⟨q0, q1, q2, q3, q4, q5, q6, hRm⟩ hh) hp.1 hp.2.1 hp.2.2.1 hp.2.2.2.1 hp.2.2.2.2.1 hp.2.2.2.2.2.1 hp.2.2.2.2.2.2.1 hp.2.2.2.2.2.2.2 hh) N (x0, x1, x2, x3, x4, x5, x6, m0) ⟨k_x0, k_x1, r_x2, r_x3, r_x4, r_x5, r_x6, hR_m0⟩ h
set_option maxHeartbeats 4000000 in
set_option maxRecDepth 20000 in
theorem w_X1_consider {X : qB} {N : Nat} (hX : qOk X cX1_consider RX1 8 none wsX1_consider 2 48) {r : qM} (hE : xr X = none ∧ (True → xΦ X) ∧ xμ X = r) 
    {x0 : Nat} {x1 : Nat} {x2 : Int} {x3 : Int} (k_x0 : gK (xG X) x0 = 2) (k_x1 : gK (xG X) x1 = 1) (r_x2 : in32 x2) (r_x3 : in32 x3) {m0 : qM} (hR_m0 : qR (xG X) m0)
    (h : f_X1_consider N (xG X)  x0 x1 x2 x3 m0 = some r) : qN X 8 0 [(0, .ref x0), (1, .ref x1), (2, .int (iZ x2)), (3, .int (iZ x3))] [] m0 := by
  have hT := hX.T
  unfold f_X1_consider at h
  refine qn_iload_n hX (pc := 0) dX1_consider_0 2 rfl rfl ?_
  refine qn_iconst hX (pc := 1) dX1_consider_1 ?_
  refine qn_icmp_lt hX (pc := 2) r_x2 (by decide) 11 dX1_consider_2 (by decide) (fun c1 => ?_) (fun c1 => ?_)
  · have h := ite_t h c1
    exact qn_vret hX (pc := 11) dX1_consider_11 hE hR_m0 (Option.some.inj h)
  · have h := ite_f h c1
    refine qn_iload_n hX (pc := 5) dX1_consider_5 2 rfl rfl ?_
    refine qn_ldc hX (pc := 6) 9999999 dX1_consider_6 (by decide +kernel : Cond.constant RX1 37 (9999999) ∈ wsX1_consider) (by decide) ?_
    refine qn_icmp_le hX (pc := 8) r_x2 (by decide) 12 dX1_consider_8 (by decide) (fun c2 => ?_) (fun c2 => ?_)
    · have h := ite_f h c2
      refine qn_iconst hX (pc := 12) dX1_consider_12 ?_
      refine qn_istore hX (pc := 13) (ls' := [(4, .int (iZ 0)), (0, .ref x0), (1, .ref x1), (2, .int (iZ x2)), (3, .int (iZ x3))]) dX1_consider_13 rfl rfl ?_
      refine qn_iconst hX (pc := 15) dX1_consider_15 ?_
      refine qn_istore hX (pc := 16) (ls' := [(5, .int (iZ 0)), (4, .int (iZ 0)), (0, .ref x0), (1, .ref x1), (2, .int (iZ x2)), (3, .int (iZ x3))]) dX1_consider_16 rfl rfl ?_
      refine qn_iconst hX (pc := 18) dX1_consider_18 ?_
      refine qn_istore hX (pc := 19) (ls' := [(6, .int (iZ 0)), (5, .int (iZ 0)), (4, .int (iZ 0)), (0, .ref x0), (1, .ref x1), (2, .int (iZ x2)), (3, .int (iZ x3))]) dX1_consider_19 rfl rfl ?_
      refine qn_sub (ls' := [(0, .ref x0), (1, .ref x1), (2, .int (iZ x2)), (3, .int (iZ x3)), (4, .int (iZ 0)), (5, .int (iZ 0)), (6, .int (iZ 0))]) [3, 4, 5, 6, 2, 1, 0] rfl ?_
      exact w_X1_consider_L21 hX hE  k_x0 k_x1 r_x2 r_x3 (by decide) (by decide) (by decide) hR_m0 h
    · have h := ite_t h c2
      exact qn_vret hX (pc := 11) dX1_consider_11 hE hR_m0 (Option.some.inj h)
theorem k_X1_consider (l : Launch) {G : qG} (hT : qT G) {N : Nat} {x0 : Nat} {x1 : Nat} {x2 : Int} {x3 : Int} (k_x0 : gK G x0 = 2) (k_x1 : gK G x1 = 1) (r_x2 : in32 x2) (r_x3 : in32 x3) {m0 : qM} {r : qM} (h : f_X1_consider N G x0 x1 x2 x3 m0 = some r) : qC l yX1_consider wsX1_consider 2 48 G [.ref x0, .ref x1, .int (iZ x2), .int (iZ x3)] m0 none True r := by
  refine qn_start (hy := by decide) hT (hw := rfl) (hn := Nat.le_of_ble_eq_true rfl) ?_
  intro X h1 h2 h3 h4 hX hR
  subst h4
  exact w_X1_consider hX ⟨h1, fun q => h2 ▸ q, h3⟩ k_x0 k_x1 r_x2 r_x3 hR h
theorem dd_X1_consider : yX1_consider.cls = RX1 ∧ yX1_consider.cls ≠ "java/lang/invoke/MethodHandle" ∧ yX1_consider.cls ≠ "java/lang/invoke/VarHandle" ∧ (parseMethodDescriptor yX1_consider.desc).map (fun d => d.parameters.length) = some 3 := by decide +kernel
-- ProRataMarket$Clearing.seek
theorem hi_X1_seek_0 : ∀ w ∈ wsX00, w ∈ wsX1_seek := fun w h => List.mem_cons_of_mem _ (List.mem_append_left _ (List.mem_append_right _ h))
theorem fd_X1_seek_25 : qFd RX1 wsX1_seek 25 0 1 0 1 := ⟨RX0, TX0, 4, _, rfl, hi_X1_seek_0, by decide, (by decide +kernel : Cond.fieldLink RX1 25 (TX0 1).1 (TX0 1).2.1 (TX0 1).2.2.1 ∈ wsX1_seek), rfl, rfl, by decide⟩
theorem fd_X1_seek_30 : qFd RX1 wsX1_seek 30 0 0 1 0 := ⟨RX0, TX0, 4, _, rfl, hi_X1_seek_0, by decide, (by decide +kernel : Cond.fieldLink RX1 30 (TX0 0).1 (TX0 0).2.1 (TX0 0).2.2.1 ∈ wsX1_seek), rfl, rfl, by decide⟩
theorem hi_X1_seek_4 : ∀ w ∈ wsX40, w ∈ wsX1_seek := fun w h => List.mem_cons_of_mem _ (List.mem_append_right _ h)
theorem fd_X1_seek_34 : qFd RX1 wsX1_seek 34 4 3 0 403 := ⟨RX4, TX4, 6, _, rfl, hi_X1_seek_4, by decide, (by decide +kernel : Cond.fieldLink RX1 34 (TX4 3).1 (TX4 3).2.1 (TX4 3).2.2.1 ∈ wsX1_seek), rfl, rfl, by decide⟩
theorem hi_X1_seek_1 : ∀ w ∈ wsX10, w ∈ wsX1_seek := fun w h => List.mem_cons_of_mem _ (List.mem_append_left _ (List.mem_append_left _ (List.mem_append_right _ h)))
theorem fp_X1_seek_9 : qFp RX1 wsX1_seek 9 1 0 0 100 .int := ⟨RX1, TX1, 3, _, tyX1, rfl, hi_X1_seek_1, by decide, (by decide +kernel : Cond.fieldLink RX1 9 (TX1 0).1 (TX1 0).2.1 (TX1 0).2.2.1 ∈ wsX1_seek), rfl, rfl, by decide, tyX1_ok, nmX1, rfl, by decide +kernel⟩
theorem fp_X1_seek_15 : qFp RX1 wsX1_seek 15 1 1 0 101 .int := ⟨RX1, TX1, 3, _, tyX1, rfl, hi_X1_seek_1, by decide, (by decide +kernel : Cond.fieldLink RX1 15 (TX1 1).1 (TX1 1).2.1 (TX1 1).2.2.1 ∈ wsX1_seek), rfl, rfl, by decide, tyX1_ok, nmX1, rfl, by decide +kernel⟩
theorem fp_X1_seek_18 : qFp RX1 wsX1_seek 18 1 2 0 102 .int := ⟨RX1, TX1, 3, _, tyX1, rfl, hi_X1_seek_1, by decide, (by decide +kernel : Cond.fieldLink RX1 18 (TX1 2).1 (TX1 2).2.1 (TX1 2).2.2.1 ∈ wsX1_seek), rfl, rfl, by decide, tyX1_ok, nmX1, rfl, by decide +kernel⟩
set_option maxHeartbeats 4000000 in
set_option maxRecDepth 20000 in
theorem w_X1_seek_24 {X : qB} {N : Nat} (hX : qOk X cX1_seek RX1 5 none wsX1_seek 3 75) {r : qM} (hE : xr X = none ∧ (True → xΦ X) ∧ xμ X = r) {k24 : (Nat → Nat → Int → Int → qM → Option (qM))} (hk24 : ∀ (x0 : Nat) (x1 : Nat) (x2 : Int) (x3 : Int) (m0 : qM), gK (xG X) x0 = 2 → gK (xG X) x1 = 1 → in32 x2 → in32 x3 → qR (xG X) m0 → k24 x0 x1 x2 x3 m0 = some r → qN X 5 24 [(0, .ref x0), (1, .ref x1), (2, .int (iZ x2)), (3, .int (iZ x3))] [] m0)
    {x0 : Nat} {x1 : Nat} {x2 : Int} {x3 : Int} (k_x0 : gK (xG X) x0 = 2) (k_x1 : gK (xG X) x1 = 1) (r_x2 : in32 x2) (r_x3 : in32 x3) {m0 : qM} (hR_m0 : qR (xG X) m0)
    (h : f_X1_seek_24 N (xG X) k24 x0 x1 x2 x3 m0 = some r) : qN X 5 24 [(0, .ref x0), (1, .ref x1), (2, .int (iZ x2)), (3, .int (iZ x3))] [] m0 := by
  have hT := hX.T
  unfold f_X1_seek_24 at h
  refine qn_iload_n hX (pc := 24) dX1_seek_24 3 rfl rfl ?_
  refine qn_aload_n hX (pc := 25) dX1_seek_25 1 rfl rfl ?_
  refine qn_getI hX (pc := 26) fd_X1_seek_25 dX1_seek_26 k_x1 ?_
  refine qn_icmp_ge hX (pc := 29) r_x3 (hR_m0.i 1 _ rfl) 77 dX1_seek_29 (by decide) (fun c1 => ?_) (fun c1 => ?_)
  · have h := ite_f h c1
    exact qn_vret hX (pc := 77) dX1_seek_77 hE hR_m0 (Option.some.inj h)
  · have h := ite_t h c1
    refine qn_aload_n hX (pc := 32) dX1_seek_32 1 rfl rfl ?_
    refine qn_getR hX (pc := 33) fd_X1_seek_30 dX1_seek_33 k_x1 ?_
    refine qn_iload_n hX (pc := 36) dX1_seek_36 3 rfl rfl ?_
    obtain ⟨o2, e_o2, b_o2, k_o2, h⟩ := rdQ_e h
    refine qn_aaldO hX (pc := 37) 60 dX1_seek_37 (qr_0 hT k_x1) (by decide) b_o2 e_o2 ?_
    refine qn_getI hX (pc := 38) fd_X1_seek_34 dX1_seek_38 k_o2 ?_
    refine qn_istore hX (pc := 41) (ls' := [(4, .int (iZ (gI m0 403 o2))), (0, .ref x0), (1, .ref x1), (2, .int (iZ x2)), (3, .int (iZ x3))]) dX1_seek_41 rfl rfl ?_
    refine qn_aload_n hX (pc := 43) dX1_seek_43 1 rfl rfl ?_
    refine qn_aload_n hX (pc := 44) dX1_seek_44 2 rfl rfl ?_
    refine qn_iload hX (pc := 45) dX1_seek_45 0 rfl ?_
    refine qn_iconst hX (pc := 47) dX1_seek_47 ?_
    obtain ⟨v3, e_v3, r_v3, h⟩ := ckI_e h
    refine qn_isub hX (pc := 48) dX1_seek_48 e_v3 ?_
    refine qn_iload_n hX (pc := 49) dX1_seek_49 3 rfl rfl ?_
    obtain ⟨m4, e_m4, h⟩ := kb_e h
    refine qn_callVv hX (pc := 50) [.ref x1, .int (iZ v3), .int (iZ x2)] [.int (iZ x2), .int (iZ v3), .ref x1] 3 dX1_seek_50 gX1_seek_X1_consider rfl dd_X1_consider ⟨rfl, rfl⟩ rfl rfl (by decide) k_x0 rfl rfl hR_m0 (k_X1_consider (xl X) hT k_x0 k_x1 r_v3 r_x2 e_m4) (fun r_v5 hR_m4 => ?_)
    refine qn_aload_n hX (pc := 53) dX1_seek_53 1 rfl rfl ?_
    refine qn_aload_n hX (pc := 54) dX1_seek_54 2 rfl rfl ?_
    refine qn_iload hX (pc := 55) dX1_seek_55 0 rfl ?_
    refine qn_iload_n hX (pc := 57) dX1_seek_57 3 rfl rfl ?_
    obtain ⟨m6, e_m6, h⟩ := kb_e h
    refine qn_callVv hX (pc := 58) [.ref x1, .int (iZ (gI m0 403 o2)), .int (iZ x2)] [.int (iZ x2), .int (iZ (gI m0 403 o2)), .ref x1] 3 dX1_seek_58 gX1_seek_X1_consider rfl dd_X1_consider ⟨rfl, rfl⟩ rfl rfl (by decide) k_x0 rfl rfl hR_m4 (k_X1_consider (xl X) hT k_x0 k_x1 (hR_m0.i 403 _ rfl) r_x2 e_m6) (fun r_v7 hR_m6 => ?_)
    refine qn_aload_n hX (pc := 61) dX1_seek_61 1 rfl rfl ?_
    refine qn_aload_n hX (pc := 62) dX1_seek_62 2 rfl rfl ?_
    refine qn_iload hX (pc := 63) dX1_seek_63 0 rfl ?_
    refine qn_iconst hX (pc := 65) dX1_seek_65 ?_
    obtain ⟨v8, e_v8, r_v8, h⟩ := ckI_e h
    refine qn_iadd hX (pc := 66) dX1_seek_66 e_v8 ?_
    refine qn_iload_n hX (pc := 67) dX1_seek_67 3 rfl rfl ?_
    obtain ⟨m9, e_m9, h⟩ := kb_e h
    refine qn_callVv hX (pc := 68) [.ref x1, .int (iZ v8), .int (iZ x2)] [.int (iZ x2), .int (iZ v8), .ref x1] 3 dX1_seek_68 gX1_seek_X1_consider rfl dd_X1_consider ⟨rfl, rfl⟩ rfl rfl (by decide) k_x0 rfl rfl hR_m6 (k_X1_consider (xl X) hT k_x0 k_x1 r_v8 r_x2 e_m9) (fun r_v10 hR_m9 => ?_)
    obtain ⟨v11, e_v11, r_v11, h⟩ := ckI_e h
    refine qn_iinc hX (pc := 71) (ls' := [(3, .int (iZ v11)), (4, .int (iZ (gI m0 403 o2))), (0, .ref x0), (1, .ref x1), (2, .int (iZ x2))]) dX1_seek_71 4 rfl e_v11 rfl rfl ?_
    refine qn_goto hX (pc := 74) 24 dX1_seek_74 (by decide) ?_
    refine qn_sub (ls' := [(0, .ref x0), (1, .ref x1), (2, .int (iZ x2)), (3, .int (iZ v11))]) [2, 3, 4, 0] rfl ?_
    exact hk24 x0 x1 x2 v11 m9 k_x0 k_x1 r_x2 r_v11 hR_m9 h
set_option maxHeartbeats 4000000 in
set_option maxRecDepth 20000 in
theorem w_X1_seek_L24 {X : qB} {N : Nat} (hX : qOk X cX1_seek RX1 5 none wsX1_seek 3 75) {r : qM} (hE : xr X = none ∧ (True → xΦ X) ∧ xμ X = r) 
    {x0 : Nat} {x1 : Nat} {x2 : Int} {x3 : Int} (k_x0 : gK (xG X) x0 = 2) (k_x1 : gK (xG X) x1 = 1) (r_x2 : in32 x2) (r_x3 : in32 x3) {m0 : qM} (hR_m0 : qR (xG X) m0)
    (h : f_X1_seek_L24 N (xG X)  x0 x1 x2 x3 m0 = some r) : qN X 5 24 [(0, .ref x0), (1, .ref x1), (2, .int (iZ x2)), (3, .int (iZ x3))] [] m0 := by
  unfold f_X1_seek_L24 at h
  exact qLoop_w (σ := Nat × Nat × Int × Int × qM) (P := fun p => gK (xG X) p.1 = 2 ∧ gK (xG X) p.2.1 = 1 ∧ in32 p.2.2.1 ∧ in32 p.2.2.2.1 ∧ qR (xG X) p.2.2.2.2) (Q := fun p => qN X 5 24 [(0, .ref p.1), (1, .ref p.2.1), (2, .int (iZ p.2.2.1)), (3, .int (iZ p.2.2.2.1))] [] p.2.2.2.2) (fun k hrec p hp hh => w_X1_seek_24 hX hE (fun x0 x1 x2 x3 m0 q0 q1 q2 q3 hRm hh => hrec (x0, x1, x2, x3, m0) ⟨q0, q1, q2, q3, hRm⟩ hh) hp.1 hp.2.1 hp.2.2.1 hp.2.2.2.1 hp.2.2.2.2 hh) N (x0, x1, x2, x3, m0) ⟨k_x0, k_x1, r_x2, r_x3, hR_m0⟩ h
set_option maxHeartbeats 4000000 in
set_option maxRecDepth 20000 in
theorem w_X1_seek {X : qB} {N : Nat} (hX : qOk X cX1_seek RX1 5 none wsX1_seek 3 75) {r : qM} (hE : xr X = none ∧ (True → xΦ X) ∧ xμ X = r) 
    {x0 : Nat} {x1 : Nat} {x2 : Int} (k_x0 : gK (xG X) x0 = 2) (k_x1 : gK (xG X) x1 = 1) (r_x2 : in32 x2) {m0 : qM} (hR_m0 : qR (xG X) m0)
    (h : f_X1_seek N (xG X)  x0 x1 x2 m0 = some r) : qN X 5 0 [(0, .ref x0), (1, .ref x1), (2, .int (iZ x2))] [] m0 := by
  have hT := hX.T
  unfold f_X1_seek at h
  refine qn_aload_n hX (pc := 0) dX1_seek_0 0 rfl rfl ?_
  refine qn_iconst hX (pc := 1) dX1_seek_1 ?_
  obtain ⟨m1, e_m1, h⟩ := kp_e h
  refine qn_putI hX (pc := 2) fp_X1_seek_9 dX1_seek_2 k_x0 hR_m0 (show in32 0 by decide) e_m1 (fun hR_m1 => ?_) 
  refine qn_aload_n hX (pc := 5) dX1_seek_5 0 rfl rfl ?_
  refine qn_iconst hX (pc := 6) dX1_seek_6 ?_
  obtain ⟨m2, e_m2, h⟩ := kp_e h
  refine qn_putI hX (pc := 7) fp_X1_seek_15 dX1_seek_7 k_x0 hR_m1 (show in32 0 by decide) e_m2 (fun hR_m2 => ?_) 
  refine qn_aload_n hX (pc := 10) dX1_seek_10 0 rfl rfl ?_
  refine qn_iconst hX (pc := 11) dX1_seek_11 ?_
  obtain ⟨m3, e_m3, h⟩ := kp_e h
  refine qn_putI hX (pc := 12) fp_X1_seek_18 dX1_seek_12 k_x0 hR_m2 (show in32 0 by decide) e_m3 (fun hR_m3 => ?_) 
  refine qn_aload_n hX (pc := 15) dX1_seek_15 0 rfl rfl ?_
  refine qn_aload_n hX (pc := 16) dX1_seek_16 1 rfl rfl ?_
  refine qn_iload_n hX (pc := 17) dX1_seek_17 2 rfl rfl ?_
  refine qn_iload_n hX (pc := 18) dX1_seek_18 2 rfl rfl ?_
  obtain ⟨m4, e_m4, h⟩ := kb_e h
  refine qn_callVv hX (pc := 19) [.ref x1, .int (iZ x2), .int (iZ x2)] [.int (iZ x2), .int (iZ x2), .ref x1] 3 dX1_seek_19 gX1_seek_X1_consider rfl dd_X1_consider ⟨rfl, rfl⟩ rfl rfl (by decide) k_x0 rfl rfl hR_m3 (k_X1_consider (xl X) hT k_x0 k_x1 r_x2 r_x2 e_m4) (fun r_v5 hR_m4 => ?_)
  refine qn_iconst hX (pc := 22) dX1_seek_22 ?_
  refine qn_istore_n hX (pc := 23) (ls' := [(3, .int (iZ 0)), (0, .ref x0), (1, .ref x1), (2, .int (iZ x2))]) dX1_seek_23 rfl rfl rfl ?_
  refine qn_sub (ls' := [(0, .ref x0), (1, .ref x1), (2, .int (iZ x2)), (3, .int (iZ 0))]) [1, 2, 3, 0] rfl ?_
  exact w_X1_seek_L24 hX hE  k_x0 k_x1 r_x2 (by decide) hR_m4 h
theorem k_X1_seek (l : Launch) {G : qG} (hT : qT G) {N : Nat} {x0 : Nat} {x1 : Nat} {x2 : Int} (k_x0 : gK G x0 = 2) (k_x1 : gK G x1 = 1) (r_x2 : in32 x2) {m0 : qM} {r : qM} (h : f_X1_seek N G x0 x1 x2 m0 = some r) : qC l yX1_seek wsX1_seek 3 75 G [.ref x0, .ref x1, .int (iZ x2)] m0 none True r := by
  refine qn_start (hy := by decide) hT (hw := rfl) (hn := Nat.le_of_ble_eq_true rfl) ?_
  intro X h1 h2 h3 h4 hX hR
  subst h4
  exact w_X1_seek hX ⟨h1, fun q => h2 ▸ q, h3⟩ k_x0 k_x1 r_x2 hR h
theorem dd_X1_seek : yX1_seek.cls = RX1 ∧ yX1_seek.cls ≠ "java/lang/invoke/MethodHandle" ∧ yX1_seek.cls ≠ "java/lang/invoke/VarHandle" ∧ (parseMethodDescriptor yX1_seek.desc).map (fun d => d.parameters.length) = some 2 := by decide +kernel
-- ProRataMarket$Sharing.put
theorem hi_X5_put_5 : ∀ w ∈ wsX50, w ∈ wsX5_put := fun w h => List.mem_cons_of_mem _ (List.mem_append_right _ h)
theorem fd_X5_put_33 : qFd RX5 wsX5_put 33 5 6 0 506 := ⟨RX5, TX5, 8, _, rfl, hi_X5_put_5, by decide, (by decide +kernel : Cond.fieldLink RX5 33 (TX5 6).1 (TX5 6).2.1 (TX5 6).2.2.1 ∈ wsX5_put), rfl, rfl, by decide⟩
theorem fd_X5_put_13 : qFd RX5 wsX5_put 13 5 0 1 500 := ⟨RX5, TX5, 8, _, rfl, hi_X5_put_5, by decide, (by decide +kernel : Cond.fieldLink RX5 13 (TX5 0).1 (TX5 0).2.1 (TX5 0).2.2.1 ∈ wsX5_put), rfl, rfl, by decide⟩
theorem fd_X5_put_17 : qFd RX5 wsX5_put 17 5 1 1 501 := ⟨RX5, TX5, 8, _, rfl, hi_X5_put_5, by decide, (by decide +kernel : Cond.fieldLink RX5 17 (TX5 1).1 (TX5 1).2.1 (TX5 1).2.2.1 ∈ wsX5_put), rfl, rfl, by decide⟩
theorem fd_X5_put_21 : qFd RX5 wsX5_put 21 5 2 1 502 := ⟨RX5, TX5, 8, _, rfl, hi_X5_put_5, by decide, (by decide +kernel : Cond.fieldLink RX5 21 (TX5 2).1 (TX5 2).2.1 (TX5 2).2.2.1 ∈ wsX5_put), rfl, rfl, by decide⟩
theorem fp_X5_put_33 : qFp RX5 wsX5_put 33 5 6 0 506 .int := ⟨RX5, TX5, 8, _, tyX5, rfl, hi_X5_put_5, by decide, (by decide +kernel : Cond.fieldLink RX5 33 (TX5 6).1 (TX5 6).2.1 (TX5 6).2.2.1 ∈ wsX5_put), rfl, rfl, by decide, tyX5_ok, nmX5, rfl, by decide +kernel⟩
theorem fd_X5_put_37 : qFd RX5 wsX5_put 37 5 7 0 507 := ⟨RX5, TX5, 8, _, rfl, hi_X5_put_5, by decide, (by decide +kernel : Cond.fieldLink RX5 37 (TX5 7).1 (TX5 7).2.1 (TX5 7).2.2.1 ∈ wsX5_put), rfl, rfl, by decide⟩
theorem fp_X5_put_37 : qFp RX5 wsX5_put 37 5 7 0 507 .int := ⟨RX5, TX5, 8, _, tyX5, rfl, hi_X5_put_5, by decide, (by decide +kernel : Cond.fieldLink RX5 37 (TX5 7).1 (TX5 7).2.1 (TX5 7).2.2.1 ∈ wsX5_put), rfl, rfl, by decide, tyX5_ok, nmX5, rfl, by decide +kernel⟩
set_option maxHeartbeats 4000000 in
set_option maxRecDepth 20000 in
theorem w_X5_put {X : qB} {N : Nat} (hX : qOk X cX5_put RX5 4 none wsX5_put 0 0) {r : qM} (hE : xr X = none ∧ (True → xΦ X) ∧ xμ X = r) 
    {x0 : Nat} {x1 : Nat} {x2 : Int} {x3 : Int} (k_x0 : gK (xG X) x0 = 6) (k_x1 : gK (xG X) x1 = 5) (r_x2 : in32 x2) (r_x3 : in32 x3) {m0 : qM} (hR_m0 : qR (xG X) m0)
    (h : f_X5_put N (xG X)  x0 x1 x2 x3 m0 = some r) : qN X 4 0 [(0, .ref x0), (1, .ref x1), (2, .int (iZ x2)), (3, .int (iZ x3))] [] m0 := by
  have hT := hX.T
  unfold f_X5_put at h
  refine qn_aload_n hX (pc := 0) dX5_put_0 0 rfl rfl ?_
  refine qn_getI hX (pc := 1) fd_X5_put_33 dX5_put_1 k_x0 ?_
  refine qn_bipush hX (pc := 4) dX5_put_4 (by decide) ?_
  refine qn_icmp_lt hX (pc := 6) (hR_m0.i 506 _ rfl) (by decide) 10 dX5_put_6 (by decide) (fun c1 => ?_) (fun c1 => ?_)
  · have h := ite_t h c1
    refine qn_aload_n hX (pc := 10) dX5_put_10 0 rfl rfl ?_
    refine qn_getR hX (pc := 11) fd_X5_put_13 dX5_put_11 k_x0 ?_
    refine qn_aload_n hX (pc := 14) dX5_put_14 0 rfl rfl ?_
    refine qn_getI hX (pc := 15) fd_X5_put_33 dX5_put_15 k_x0 ?_
    refine qn_aload_n hX (pc := 18) dX5_put_18 1 rfl rfl ?_
    obtain ⟨m2, e_m2, b_m2, h⟩ := wrQ_e h
    refine qn_aastO hX (pc := 19) 68 dX5_put_19 (qr_500 hT k_x0) (by decide) b_m2 hR_m0 k_x1 e_m2 (fun hR_m2 => ?_) 
    refine qn_aload_n hX (pc := 20) dX5_put_20 0 rfl rfl ?_
    refine qn_getR hX (pc := 21) fd_X5_put_17 dX5_put_21 k_x0 ?_
    refine qn_aload_n hX (pc := 24) dX5_put_24 0 rfl rfl ?_
    refine qn_getI hX (pc := 25) fd_X5_put_33 dX5_put_25 k_x0 ?_
    refine qn_iload_n hX (pc := 28) dX5_put_28 2 rfl rfl ?_
    obtain ⟨m3, e_m3, b_m3, h⟩ := wrA_e h
    refine qn_iast hX (pc := 29) 68 dX5_put_29 (qr_501 hT k_x0) (by decide) b_m3 hR_m2 r_x2 e_m3 (fun hR_m3 => ?_) 
    refine qn_aload_n hX (pc := 30) dX5_put_30 0 rfl rfl ?_
    refine qn_getR hX (pc := 31) fd_X5_put_21 dX5_put_31 k_x0 ?_
    refine qn_aload_n hX (pc := 34) dX5_put_34 0 rfl rfl ?_
    refine qn_getI hX (pc := 35) fd_X5_put_33 dX5_put_35 k_x0 ?_
    refine qn_iload_n hX (pc := 38) dX5_put_38 3 rfl rfl ?_
    obtain ⟨m4, e_m4, b_m4, h⟩ := wrA_e h
    refine qn_iast hX (pc := 39) 68 dX5_put_39 (qr_502 hT k_x0) (by decide) b_m4 hR_m3 r_x3 e_m4 (fun hR_m4 => ?_) 
    refine qn_aload_n hX (pc := 40) dX5_put_40 0 rfl rfl ?_
    refine qn_dup hX (pc := 41) dX5_put_41 rfl ?_
    refine qn_getI hX (pc := 42) fd_X5_put_33 dX5_put_42 k_x0 ?_
    refine qn_iconst hX (pc := 45) dX5_put_45 ?_
    obtain ⟨v5, e_v5, r_v5, h⟩ := ckI_e h
    refine qn_iadd hX (pc := 46) dX5_put_46 e_v5 ?_
    obtain ⟨m6, e_m6, h⟩ := kp_e h
    refine qn_putI hX (pc := 47) fp_X5_put_33 dX5_put_47 k_x0 hR_m4 r_v5 e_m6 (fun hR_m6 => ?_) 
    refine qn_aload_n hX (pc := 50) dX5_put_50 0 rfl rfl ?_
    refine qn_dup hX (pc := 51) dX5_put_51 rfl ?_
    refine qn_getI hX (pc := 52) fd_X5_put_37 dX5_put_52 k_x0 ?_
    refine qn_iload_n hX (pc := 55) dX5_put_55 2 rfl rfl ?_
    obtain ⟨v7, e_v7, r_v7, h⟩ := ckI_e h
    refine qn_iadd hX (pc := 56) dX5_put_56 e_v7 ?_
    obtain ⟨m8, e_m8, h⟩ := kp_e h
    refine qn_putI hX (pc := 57) fp_X5_put_37 dX5_put_57 k_x0 hR_m6 r_v7 e_m8 (fun hR_m8 => ?_) 
    exact qn_vret hX (pc := 60) dX5_put_60 hE hR_m8 (Option.some.inj h)
  · have h := ite_f h c1
    exact qn_vret hX (pc := 9) dX5_put_9 hE hR_m0 (Option.some.inj h)
theorem k_X5_put (l : Launch) {G : qG} (hT : qT G) {N : Nat} {x0 : Nat} {x1 : Nat} {x2 : Int} {x3 : Int} (k_x0 : gK G x0 = 6) (k_x1 : gK G x1 = 5) (r_x2 : in32 x2) (r_x3 : in32 x3) {m0 : qM} {r : qM} (h : f_X5_put N G x0 x1 x2 x3 m0 = some r) : qC l yX5_put wsX5_put 0 0 G [.ref x0, .ref x1, .int (iZ x2), .int (iZ x3)] m0 none True r := by
  refine qn_start (hy := by decide) hT (hw := rfl) (hn := Nat.le_of_ble_eq_true rfl) ?_
  intro X h1 h2 h3 h4 hX hR
  subst h4
  exact w_X5_put hX ⟨h1, fun q => h2 ▸ q, h3⟩ k_x0 k_x1 r_x2 r_x3 hR h
theorem dd_X5_put : yX5_put.cls = RX5 ∧ yX5_put.cls ≠ "java/lang/invoke/MethodHandle" ∧ yX5_put.cls ≠ "java/lang/invoke/VarHandle" ∧ (parseMethodDescriptor yX5_put.desc).map (fun d => d.parameters.length) = some 3 := by decide +kernel
