-- ProRataMarketModel.takes
theorem hi_X8_takes_8 : ∀ w ∈ wsX80, w ∈ wsX8_takes := fun w h => List.mem_cons_of_mem _ (List.mem_append_right _ h)
theorem fd_X8_takes_68 : qFd RX8 wsX8_takes 68 8 5 0 805 := ⟨RX8, TX8, 32, _, rfl, hi_X8_takes_8, by decide, (by decide +kernel : Cond.fieldLink RX8 68 (TX8 5).1 (TX8 5).2.1 (TX8 5).2.2.1 ∈ wsX8_takes), rfl, rfl, by decide⟩
theorem fd_X8_takes_35 : qFd RX8 wsX8_takes 35 8 10 1 810 := ⟨RX8, TX8, 32, _, rfl, hi_X8_takes_8, by decide, (by decide +kernel : Cond.fieldLink RX8 35 (TX8 10).1 (TX8 10).2.1 (TX8 10).2.2.1 ∈ wsX8_takes), rfl, rfl, by decide⟩
theorem fd_X8_takes_32 : qFd RX8 wsX8_takes 32 8 9 1 809 := ⟨RX8, TX8, 32, _, rfl, hi_X8_takes_8, by decide, (by decide +kernel : Cond.fieldLink RX8 32 (TX8 9).1 (TX8 9).2.1 (TX8 9).2.2.1 ∈ wsX8_takes), rfl, rfl, by decide⟩
theorem fd_X8_takes_29 : qFd RX8 wsX8_takes 29 8 8 1 808 := ⟨RX8, TX8, 32, _, rfl, hi_X8_takes_8, by decide, (by decide +kernel : Cond.fieldLink RX8 29 (TX8 8).1 (TX8 8).2.1 (TX8 8).2.2.1 ∈ wsX8_takes), rfl, rfl, by decide⟩
theorem fd_X8_takes_7 : qFd RX8 wsX8_takes 7 8 0 1 800 := ⟨RX8, TX8, 32, _, rfl, hi_X8_takes_8, by decide, (by decide +kernel : Cond.fieldLink RX8 7 (TX8 0).1 (TX8 0).2.1 (TX8 0).2.2.1 ∈ wsX8_takes), rfl, rfl, by decide⟩
set_option maxHeartbeats 4000000 in
set_option maxRecDepth 20000 in
theorem w_X8_takes_98 {X : qB} {N : Nat} (hX : qOk X cX8_takes RX8 6 none wsX8_takes 3 69) {r : qM} (hE : xr X = none ∧ (True → xΦ X) ∧ xμ X = r) {k98 : (Nat → Int → Int → Int → Int → qM → Option (qM))} (hk98 : ∀ (x0 : Nat) (x1 : Int) (x2 : Int) (x4 : Int) (x5 : Int) (m0 : qM), gK (xG X) x0 = 9 → in32 x1 → in32 x2 → in32 x4 → in32 x5 → qR (xG X) m0 → k98 x0 x1 x2 x4 x5 m0 = some r → qN X 6 98 [(0, .ref x0), (1, .int (iZ x1)), (2, .int (iZ x2)), (4, .int (iZ x4)), (5, .int (iZ x5))] [] m0)
    {x0 : Nat} {x1 : Int} {x2 : Int} {x4 : Int} {x5 : Int} (k_x0 : gK (xG X) x0 = 9) (r_x1 : in32 x1) (r_x2 : in32 x2) (r_x4 : in32 x4) (r_x5 : in32 x5) {m0 : qM} (hR_m0 : qR (xG X) m0)
    (h : f_X8_takes_98 N (xG X) k98 x0 x1 x2 x4 x5 m0 = some r) : qN X 6 98 [(0, .ref x0), (1, .int (iZ x1)), (2, .int (iZ x2)), (4, .int (iZ x4)), (5, .int (iZ x5))] [] m0 := by
  have hT := hX.T
  unfold f_X8_takes_98 at h
  refine qn_iload hX (pc := 98) dX8_takes_98 4 rfl ?_
  refine qn_aload_n hX (pc := 100) dX8_takes_100 0 rfl rfl ?_
  refine qn_getI hX (pc := 101) fd_X8_takes_68 dX8_takes_101 k_x0 ?_
  refine qn_icmp_ge hX (pc := 104) r_x5 (hR_m0.i 805 _ rfl) 128 dX8_takes_104 (by decide) (fun c1 => ?_) (fun c1 => ?_)
  · have h := ite_f h c1
    refine qn_aload_n hX (pc := 128) dX8_takes_128 0 rfl rfl ?_
    refine qn_iload_n hX (pc := 129) dX8_takes_129 1 rfl rfl ?_
    refine qn_iload hX (pc := 130) dX8_takes_130 3 rfl ?_
    obtain ⟨m2, e_m2, h⟩ := kb_e h
    refine qn_callVv hX (pc := 132) [.int (iZ x1), .int (iZ x4)] [.int (iZ x4), .int (iZ x1)] 2 dX8_takes_132 gX8_takes_X8_settles rfl dd_X8_settles ⟨rfl, rfl⟩ rfl rfl (by decide) k_x0 rfl rfl hR_m0 (k_X8_settles (xl X) hT k_x0 r_x1 r_x4 e_m2) (fun r_v3 hR_m2 => ?_)
    exact qn_vret hX (pc := 135) dX8_takes_135 hE hR_m2 (Option.some.inj h)
  · have h := ite_t h c1
    refine qn_aload_n hX (pc := 107) dX8_takes_107 0 rfl rfl ?_
    refine qn_iload hX (pc := 108) dX8_takes_108 4 rfl ?_
    refine qn_iload_n hX (pc := 110) dX8_takes_110 2 rfl rfl ?_
    refine qn_aload_n hX (pc := 111) dX8_takes_111 0 rfl rfl ?_
    refine qn_getR hX (pc := 112) fd_X8_takes_35 dX8_takes_112 k_x0 ?_
    refine qn_iload hX (pc := 115) dX8_takes_115 4 rfl ?_
    obtain ⟨v4, e_v4, b_v4, h⟩ := rdA_e h
    have r_v4 : in32 v4 := by rw [e_v4]; exact hR_m0.a (n := 70) _ (qr_810 hT k_x0) (by decide)
    refine qn_iald hX (pc := 117) 70 dX8_takes_117 (qr_810 hT k_x0) (by decide) b_v4 e_v4 ?_
    refine qn_iconst hX (pc := 118) dX8_takes_118 ?_
    obtain ⟨m5, e_m5, h⟩ := kb_e h
    refine qn_callVv hX (pc := 119) [.int (iZ x5), .int (iZ x2), .int (iZ v4), .int (iZ 2)] [.int (iZ 2), .int (iZ v4), .int (iZ x2), .int (iZ x5)] 4 dX8_takes_119 gX8_takes_X8_trades rfl dd_X8_trades ⟨rfl, rfl⟩ rfl rfl (by decide) k_x0 rfl rfl hR_m0 (k_X8_trades (xl X) hT k_x0 r_x5 r_x2 r_v4 (by decide) e_m5) (fun r_v6 hR_m5 => ?_)
    obtain ⟨v7, e_v7, r_v7, h⟩ := ckI_e h
    refine qn_iinc hX (pc := 122) (ls' := [(5, .int (iZ v7)), (0, .ref x0), (1, .int (iZ x1)), (2, .int (iZ x2)), (4, .int (iZ x4))]) dX8_takes_122 4 rfl e_v7 rfl rfl ?_
    refine qn_goto hX (pc := 125) 98 dX8_takes_125 (by decide) ?_
    refine qn_sub (ls' := [(0, .ref x0), (1, .int (iZ x1)), (2, .int (iZ x2)), (4, .int (iZ x4)), (5, .int (iZ v7))]) [1, 2, 3, 4, 0] rfl ?_
    exact hk98 x0 x1 x2 x4 v7 m5 k_x0 r_x1 r_x2 r_x4 r_v7 hR_m5 h
set_option maxHeartbeats 4000000 in
set_option maxRecDepth 20000 in
theorem w_X8_takes_L98 {X : qB} {N : Nat} (hX : qOk X cX8_takes RX8 6 none wsX8_takes 3 69) {r : qM} (hE : xr X = none ∧ (True → xΦ X) ∧ xμ X = r) 
    {x0 : Nat} {x1 : Int} {x2 : Int} {x4 : Int} {x5 : Int} (k_x0 : gK (xG X) x0 = 9) (r_x1 : in32 x1) (r_x2 : in32 x2) (r_x4 : in32 x4) (r_x5 : in32 x5) {m0 : qM} (hR_m0 : qR (xG X) m0)
    (h : f_X8_takes_L98 N (xG X)  x0 x1 x2 x4 x5 m0 = some r) : qN X 6 98 [(0, .ref x0), (1, .int (iZ x1)), (2, .int (iZ x2)), (4, .int (iZ x4)), (5, .int (iZ x5))] [] m0 := by
  unfold f_X8_takes_L98 at h
  exact qLoop_w (σ := Nat × Int × Int × Int × Int × qM) (P := fun p => gK (xG X) p.1 = 9 ∧ in32 p.2.1 ∧ in32 p.2.2.1 ∧ in32 p.2.2.2.1 ∧ in32 p.2.2.2.2.1 ∧ qR (xG X) p.2.2.2.2.2) (Q := fun p => qN X 6 98 [(0, .ref p.1), (1, .int (iZ p.2.1)), (2, .int (iZ p.2.2.1)), (4, .int (iZ p.2.2.2.1)), (5, .int (iZ p.2.2.2.2.1))] [] p.2.2.2.2.2) (fun k hrec p hp hh => w_X8_takes_98 hX hE (fun x0 x1 x2 x4 x5 m0 q0 q1 q2 q3 q4 hRm hh => hrec (x0, x1, x2, x4, x5, m0) ⟨q0, q1, q2, q3, q4, hRm⟩ hh) hp.1 hp.2.1 hp.2.2.1 hp.2.2.2.1 hp.2.2.2.2.1 hp.2.2.2.2.2 hh) N (x0, x1, x2, x4, x5, m0) ⟨k_x0, r_x1, r_x2, r_x4, r_x5, hR_m0⟩ h
set_option maxHeartbeats 4000000 in
set_option maxRecDepth 20000 in
theorem w_X8_takes_65 {X : qB} {N : Nat} (hX : qOk X cX8_takes RX8 6 none wsX8_takes 3 69) {r : qM} (hE : xr X = none ∧ (True → xΦ X) ∧ xμ X = r) {k65 : (Nat → Int → Int → Int → Int → qM → Option (qM))} (hk65 : ∀ (x0 : Nat) (x1 : Int) (x2 : Int) (x4 : Int) (x5 : Int) (m0 : qM), gK (xG X) x0 = 9 → in32 x1 → in32 x2 → in32 x4 → in32 x5 → qR (xG X) m0 → k65 x0 x1 x2 x4 x5 m0 = some r → qN X 6 65 [(0, .ref x0), (1, .int (iZ x1)), (2, .int (iZ x2)), (4, .int (iZ x4)), (5, .int (iZ x5))] [] m0)
    {x0 : Nat} {x1 : Int} {x2 : Int} {x4 : Int} {x5 : Int} (k_x0 : gK (xG X) x0 = 9) (r_x1 : in32 x1) (r_x2 : in32 x2) (r_x4 : in32 x4) (r_x5 : in32 x5) {m0 : qM} (hR_m0 : qR (xG X) m0)
    (h : f_X8_takes_65 N (xG X) k65 x0 x1 x2 x4 x5 m0 = some r) : qN X 6 65 [(0, .ref x0), (1, .int (iZ x1)), (2, .int (iZ x2)), (4, .int (iZ x4)), (5, .int (iZ x5))] [] m0 := by
  have hT := hX.T
  unfold f_X8_takes_65 at h
  refine qn_iload hX (pc := 65) dX8_takes_65 4 rfl ?_
  refine qn_aload_n hX (pc := 67) dX8_takes_67 0 rfl rfl ?_
  refine qn_getI hX (pc := 68) fd_X8_takes_68 dX8_takes_68 k_x0 ?_
  refine qn_icmp_ge hX (pc := 71) r_x5 (hR_m0.i 805 _ rfl) 95 dX8_takes_71 (by decide) (fun c1 => ?_) (fun c1 => ?_)
  · have h := ite_f h c1
    refine qn_iconst hX (pc := 95) dX8_takes_95 ?_
    refine qn_istore hX (pc := 96) (ls' := [(5, .int (iZ 0)), (0, .ref x0), (1, .int (iZ x1)), (2, .int (iZ x2)), (4, .int (iZ x4))]) dX8_takes_96 rfl rfl ?_
    refine qn_sub (ls' := [(0, .ref x0), (1, .int (iZ x1)), (2, .int (iZ x2)), (4, .int (iZ x4)), (5, .int (iZ 0))]) [1, 2, 3, 4, 0] rfl ?_
    exact w_X8_takes_L98 hX hE  k_x0 r_x1 r_x2 r_x4 (by decide) hR_m0 h
  · have h := ite_t h c1
    refine qn_aload_n hX (pc := 74) dX8_takes_74 0 rfl rfl ?_
    refine qn_iload hX (pc := 75) dX8_takes_75 4 rfl ?_
    refine qn_iload_n hX (pc := 77) dX8_takes_77 2 rfl rfl ?_
    refine qn_aload_n hX (pc := 78) dX8_takes_78 0 rfl rfl ?_
    refine qn_getR hX (pc := 79) fd_X8_takes_32 dX8_takes_79 k_x0 ?_
    refine qn_iload hX (pc := 82) dX8_takes_82 4 rfl ?_
    obtain ⟨v2, e_v2, b_v2, h⟩ := rdA_e h
    have r_v2 : in32 v2 := by rw [e_v2]; exact hR_m0.a (n := 70) _ (qr_809 hT k_x0) (by decide)
    refine qn_iald hX (pc := 84) 70 dX8_takes_84 (qr_809 hT k_x0) (by decide) b_v2 e_v2 ?_
    refine qn_iconst hX (pc := 85) dX8_takes_85 ?_
    obtain ⟨m3, e_m3, h⟩ := kb_e h
    refine qn_callVv hX (pc := 86) [.int (iZ x5), .int (iZ x2), .int (iZ v2), .int (iZ 1)] [.int (iZ 1), .int (iZ v2), .int (iZ x2), .int (iZ x5)] 4 dX8_takes_86 gX8_takes_X8_trades rfl dd_X8_trades ⟨rfl, rfl⟩ rfl rfl (by decide) k_x0 rfl rfl hR_m0 (k_X8_trades (xl X) hT k_x0 r_x5 r_x2 r_v2 (by decide) e_m3) (fun r_v4 hR_m3 => ?_)
    obtain ⟨v5, e_v5, r_v5, h⟩ := ckI_e h
    refine qn_iinc hX (pc := 89) (ls' := [(5, .int (iZ v5)), (0, .ref x0), (1, .int (iZ x1)), (2, .int (iZ x2)), (4, .int (iZ x4))]) dX8_takes_89 4 rfl e_v5 rfl rfl ?_
    refine qn_goto hX (pc := 92) 65 dX8_takes_92 (by decide) ?_
    refine qn_sub (ls' := [(0, .ref x0), (1, .int (iZ x1)), (2, .int (iZ x2)), (4, .int (iZ x4)), (5, .int (iZ v5))]) [1, 2, 3, 4, 0] rfl ?_
    exact hk65 x0 x1 x2 x4 v5 m3 k_x0 r_x1 r_x2 r_x4 r_v5 hR_m3 h
set_option maxHeartbeats 4000000 in
set_option maxRecDepth 20000 in
theorem w_X8_takes_L65 {X : qB} {N : Nat} (hX : qOk X cX8_takes RX8 6 none wsX8_takes 3 69) {r : qM} (hE : xr X = none ∧ (True → xΦ X) ∧ xμ X = r) 
    {x0 : Nat} {x1 : Int} {x2 : Int} {x4 : Int} {x5 : Int} (k_x0 : gK (xG X) x0 = 9) (r_x1 : in32 x1) (r_x2 : in32 x2) (r_x4 : in32 x4) (r_x5 : in32 x5) {m0 : qM} (hR_m0 : qR (xG X) m0)
    (h : f_X8_takes_L65 N (xG X)  x0 x1 x2 x4 x5 m0 = some r) : qN X 6 65 [(0, .ref x0), (1, .int (iZ x1)), (2, .int (iZ x2)), (4, .int (iZ x4)), (5, .int (iZ x5))] [] m0 := by
  unfold f_X8_takes_L65 at h
  exact qLoop_w (σ := Nat × Int × Int × Int × Int × qM) (P := fun p => gK (xG X) p.1 = 9 ∧ in32 p.2.1 ∧ in32 p.2.2.1 ∧ in32 p.2.2.2.1 ∧ in32 p.2.2.2.2.1 ∧ qR (xG X) p.2.2.2.2.2) (Q := fun p => qN X 6 65 [(0, .ref p.1), (1, .int (iZ p.2.1)), (2, .int (iZ p.2.2.1)), (4, .int (iZ p.2.2.2.1)), (5, .int (iZ p.2.2.2.2.1))] [] p.2.2.2.2.2) (fun k hrec p hp hh => w_X8_takes_65 hX hE (fun x0 x1 x2 x4 x5 m0 q0 q1 q2 q3 q4 hRm hh => hrec (x0, x1, x2, x4, x5, m0) ⟨q0, q1, q2, q3, q4, hRm⟩ hh) hp.1 hp.2.1 hp.2.2.1 hp.2.2.2.1 hp.2.2.2.2.1 hp.2.2.2.2.2 hh) N (x0, x1, x2, x4, x5, m0) ⟨k_x0, r_x1, r_x2, r_x4, r_x5, hR_m0⟩ h
set_option maxHeartbeats 4000000 in
set_option maxRecDepth 20000 in
theorem w_X8_takes_32 {X : qB} {N : Nat} (hX : qOk X cX8_takes RX8 6 none wsX8_takes 3 69) {r : qM} (hE : xr X = none ∧ (True → xΦ X) ∧ xμ X = r) {k32 : (Nat → Int → Int → Int → Int → qM → Option (qM))} (hk32 : ∀ (x0 : Nat) (x1 : Int) (x2 : Int) (x4 : Int) (x5 : Int) (m0 : qM), gK (xG X) x0 = 9 → in32 x1 → in32 x2 → in32 x4 → in32 x5 → qR (xG X) m0 → k32 x0 x1 x2 x4 x5 m0 = some r → qN X 6 32 [(0, .ref x0), (1, .int (iZ x1)), (2, .int (iZ x2)), (4, .int (iZ x4)), (5, .int (iZ x5))] [] m0)
    {x0 : Nat} {x1 : Int} {x2 : Int} {x4 : Int} {x5 : Int} (k_x0 : gK (xG X) x0 = 9) (r_x1 : in32 x1) (r_x2 : in32 x2) (r_x4 : in32 x4) (r_x5 : in32 x5) {m0 : qM} (hR_m0 : qR (xG X) m0)
    (h : f_X8_takes_32 N (xG X) k32 x0 x1 x2 x4 x5 m0 = some r) : qN X 6 32 [(0, .ref x0), (1, .int (iZ x1)), (2, .int (iZ x2)), (4, .int (iZ x4)), (5, .int (iZ x5))] [] m0 := by
  have hT := hX.T
  unfold f_X8_takes_32 at h
  refine qn_iload hX (pc := 32) dX8_takes_32 4 rfl ?_
  refine qn_aload_n hX (pc := 34) dX8_takes_34 0 rfl rfl ?_
  refine qn_getI hX (pc := 35) fd_X8_takes_68 dX8_takes_35 k_x0 ?_
  refine qn_icmp_ge hX (pc := 38) r_x5 (hR_m0.i 805 _ rfl) 62 dX8_takes_38 (by decide) (fun c1 => ?_) (fun c1 => ?_)
  · have h := ite_f h c1
    refine qn_iconst hX (pc := 62) dX8_takes_62 ?_
    refine qn_istore hX (pc := 63) (ls' := [(5, .int (iZ 0)), (0, .ref x0), (1, .int (iZ x1)), (2, .int (iZ x2)), (4, .int (iZ x4))]) dX8_takes_63 rfl rfl ?_
    refine qn_sub (ls' := [(0, .ref x0), (1, .int (iZ x1)), (2, .int (iZ x2)), (4, .int (iZ x4)), (5, .int (iZ 0))]) [1, 2, 3, 4, 0] rfl ?_
    exact w_X8_takes_L65 hX hE  k_x0 r_x1 r_x2 r_x4 (by decide) hR_m0 h
  · have h := ite_t h c1
    refine qn_aload_n hX (pc := 41) dX8_takes_41 0 rfl rfl ?_
    refine qn_iload hX (pc := 42) dX8_takes_42 4 rfl ?_
    refine qn_iload_n hX (pc := 44) dX8_takes_44 2 rfl rfl ?_
    refine qn_aload_n hX (pc := 45) dX8_takes_45 0 rfl rfl ?_
    refine qn_getR hX (pc := 46) fd_X8_takes_29 dX8_takes_46 k_x0 ?_
    refine qn_iload hX (pc := 49) dX8_takes_49 4 rfl ?_
    obtain ⟨v2, e_v2, b_v2, h⟩ := rdA_e h
    have r_v2 : in32 v2 := by rw [e_v2]; exact hR_m0.a (n := 70) _ (qr_808 hT k_x0) (by decide)
    refine qn_iald hX (pc := 51) 70 dX8_takes_51 (qr_808 hT k_x0) (by decide) b_v2 e_v2 ?_
    refine qn_iconst hX (pc := 52) dX8_takes_52 ?_
    obtain ⟨m3, e_m3, h⟩ := kb_e h
    refine qn_callVv hX (pc := 53) [.int (iZ x5), .int (iZ x2), .int (iZ v2), .int (iZ 0)] [.int (iZ 0), .int (iZ v2), .int (iZ x2), .int (iZ x5)] 4 dX8_takes_53 gX8_takes_X8_trades rfl dd_X8_trades ⟨rfl, rfl⟩ rfl rfl (by decide) k_x0 rfl rfl hR_m0 (k_X8_trades (xl X) hT k_x0 r_x5 r_x2 r_v2 (by decide) e_m3) (fun r_v4 hR_m3 => ?_)
    obtain ⟨v5, e_v5, r_v5, h⟩ := ckI_e h
    refine qn_iinc hX (pc := 56) (ls' := [(5, .int (iZ v5)), (0, .ref x0), (1, .int (iZ x1)), (2, .int (iZ x2)), (4, .int (iZ x4))]) dX8_takes_56 4 rfl e_v5 rfl rfl ?_
    refine qn_goto hX (pc := 59) 32 dX8_takes_59 (by decide) ?_
    refine qn_sub (ls' := [(0, .ref x0), (1, .int (iZ x1)), (2, .int (iZ x2)), (4, .int (iZ x4)), (5, .int (iZ v5))]) [1, 2, 3, 4, 0] rfl ?_
    exact hk32 x0 x1 x2 x4 v5 m3 k_x0 r_x1 r_x2 r_x4 r_v5 hR_m3 h
set_option maxHeartbeats 4000000 in
set_option maxRecDepth 20000 in
theorem w_X8_takes_L32 {X : qB} {N : Nat} (hX : qOk X cX8_takes RX8 6 none wsX8_takes 3 69) {r : qM} (hE : xr X = none ∧ (True → xΦ X) ∧ xμ X = r) 
    {x0 : Nat} {x1 : Int} {x2 : Int} {x4 : Int} {x5 : Int} (k_x0 : gK (xG X) x0 = 9) (r_x1 : in32 x1) (r_x2 : in32 x2) (r_x4 : in32 x4) (r_x5 : in32 x5) {m0 : qM} (hR_m0 : qR (xG X) m0)
    (h : f_X8_takes_L32 N (xG X)  x0 x1 x2 x4 x5 m0 = some r) : qN X 6 32 [(0, .ref x0), (1, .int (iZ x1)), (2, .int (iZ x2)), (4, .int (iZ x4)), (5, .int (iZ x5))] [] m0 := by
  unfold f_X8_takes_L32 at h
  exact qLoop_w (σ := Nat × Int × Int × Int × Int × qM) (P := fun p => gK (xG X) p.1 = 9 ∧ in32 p.2.1 ∧ in32 p.2.2.1 ∧ in32 p.2.2.2.1 ∧ in32 p.2.2.2.2.1 ∧ qR (xG X) p.2.2.2.2.2) (Q := fun p => qN X 6 32 [(0, .ref p.1), (1, .int (iZ p.2.1)), (2, .int (iZ p.2.2.1)), (4, .int (iZ p.2.2.2.1)), (5, .int (iZ p.2.2.2.2.1))] [] p.2.2.2.2.2) (fun k hrec p hp hh => w_X8_takes_32 hX hE (fun x0 x1 x2 x4 x5 m0 q0 q1 q2 q3 q4 hRm hh => hrec (x0, x1, x2, x4, x5, m0) ⟨q0, q1, q2, q3, q4, hRm⟩ hh) hp.1 hp.2.1 hp.2.2.1 hp.2.2.2.1 hp.2.2.2.2.1 hp.2.2.2.2.2 hh) N (x0, x1, x2, x4, x5, m0) ⟨k_x0, r_x1, r_x2, r_x4, r_x5, hR_m0⟩ h
set_option maxHeartbeats 4000000 in
set_option maxRecDepth 20000 in
theorem w_X8_takes {X : qB} {N : Nat} (hX : qOk X cX8_takes RX8 6 none wsX8_takes 3 69) {r : qM} (hE : xr X = none ∧ (True → xΦ X) ∧ xμ X = r) 
    {x0 : Nat} {x1 : Int} {x2 : Int} {x3 : Int} (k_x0 : gK (xG X) x0 = 9) (r_x1 : in32 x1) (r_x2 : in32 x2) (r_x3 : in32 x3) {m0 : qM} (hR_m0 : qR (xG X) m0)
    (h : f_X8_takes N (xG X)  x0 x1 x2 x3 m0 = some r) : qN X 6 0 [(0, .ref x0), (1, .int (iZ x1)), (2, .int (iZ x2)), (3, .int (iZ x3))] [] m0 := by
  have hT := hX.T
  unfold f_X8_takes at h
  refine qn_aload_n hX (pc := 0) dX8_takes_0 0 rfl rfl ?_
  refine qn_iload_n hX (pc := 1) dX8_takes_1 1 rfl rfl ?_
  refine qn_iload_n hX (pc := 2) dX8_takes_2 2 rfl rfl ?_
  obtain ⟨m1, e_m1, h⟩ := kb_e h
  refine qn_callVv hX (pc := 3) [.int (iZ x1), .int (iZ x2)] [.int (iZ x2), .int (iZ x1)] 2 dX8_takes_3 gX8_takes_X8_lays rfl dd_X8_lays ⟨rfl, rfl⟩ rfl rfl (by decide) k_x0 rfl rfl hR_m0 (k_X8_lays (xl X) hT k_x0 r_x1 r_x2 e_m1) (fun r_v2 hR_m1 => ?_)
  refine qn_aload_n hX (pc := 6) dX8_takes_6 0 rfl rfl ?_
  refine qn_iload_n hX (pc := 7) dX8_takes_7 1 rfl rfl ?_
  obtain ⟨v4, m3, e_m3, h⟩ := kb2_e h
  refine qn_callVi hX (pc := 8) [.int (iZ x1)] [.int (iZ x1)] 1 dX8_takes_8 gX8_takes_X8_topLaid rfl dd_X8_topLaid ⟨rfl, rfl⟩ rfl rfl (by decide) k_x0 rfl rfl hR_m1 (k_X8_topLaid (xl X) hT k_x0 r_x1 e_m3) (fun r_v4 hR_m3 => ?_)
  refine qn_istore hX (pc := 11) (ls' := [(4, .int (iZ v4)), (0, .ref x0), (1, .int (iZ x1)), (2, .int (iZ x2)), (3, .int (iZ x3))]) dX8_takes_11 rfl rfl ?_
  refine qn_aload_n hX (pc := 13) dX8_takes_13 1 rfl rfl ?_
  refine qn_iload_n hX (pc := 14) dX8_takes_14 4 rfl rfl ?_
  refine qn_iload hX (pc := 15) dX8_takes_15 0 rfl ?_
  refine qn_aload_n hX (pc := 17) dX8_takes_17 1 rfl rfl ?_
  refine qn_getR hX (pc := 18) fd_X8_takes_7 dX8_takes_18 k_x0 ?_
  refine qn_bipush hX (pc := 21) dX8_takes_21 (by decide) ?_
  refine qn_iload_n hX (pc := 23) dX8_takes_23 2 rfl rfl ?_
  obtain ⟨v5, e_v5, r_v5, h⟩ := ckI_e h
  refine qn_iadd hX (pc := 24) dX8_takes_24 e_v5 ?_
  obtain ⟨v6, e_v6, b_v6, h⟩ := rdA_e h
  have r_v6 : in32 v6 := by rw [e_v6]; exact hR_m3.a (n := 684) _ (qr_800 hT k_x0) (by decide)
  refine qn_iald hX (pc := 25) 684 dX8_takes_25 (qr_800 hT k_x0) (by decide) b_v6 e_v6 ?_
  obtain ⟨m7, e_m7, h⟩ := kb_e h
  refine qn_callVv hX (pc := 26) [.int (iZ x3), .int (iZ v4), .int (iZ v6)] [.int (iZ v6), .int (iZ v4), .int (iZ x3)] 3 dX8_takes_26 gX8_takes_X8_shares rfl dd_X8_shares ⟨rfl, rfl⟩ rfl rfl (by decide) k_x0 rfl rfl hR_m3 (k_X8_shares (xl X) hT k_x0 r_x3 r_v4 r_v6 e_m7) (fun r_v8 hR_m7 => ?_)
  refine qn_iconst hX (pc := 29) dX8_takes_29 ?_
  refine qn_istore hX (pc := 30) (ls' := [(5, .int (iZ 0)), (4, .int (iZ v4)), (0, .ref x0), (1, .int (iZ x1)), (2, .int (iZ x2)), (3, .int (iZ x3))]) dX8_takes_30 rfl rfl ?_
  refine qn_sub (ls' := [(0, .ref x0), (1, .int (iZ x1)), (2, .int (iZ x2)), (4, .int (iZ v4)), (5, .int (iZ 0))]) [2, 3, 4, 1, 0] rfl ?_
  exact w_X8_takes_L32 hX hE  k_x0 r_x1 r_x2 r_v4 (by decide) hR_m7 h
theorem k_X8_takes (l : Launch) {G : qG} (hT : qT G) {N : Nat} {x0 : Nat} {x1 : Int} {x2 : Int} {x3 : Int} (k_x0 : gK G x0 = 9) (r_x1 : in32 x1) (r_x2 : in32 x2) (r_x3 : in32 x3) {m0 : qM} {r : qM} (h : f_X8_takes N G x0 x1 x2 x3 m0 = some r) : qC l yX8_takes wsX8_takes 3 69 G [.ref x0, .int (iZ x1), .int (iZ x2), .int (iZ x3)] m0 none True r := by
  refine qn_start (hy := by decide) hT (hw := rfl) (hn := Nat.le_of_ble_eq_true rfl) ?_
  intro X h1 h2 h3 h4 hX hR
  subst h4
  exact w_X8_takes hX ⟨h1, fun q => h2 ▸ q, h3⟩ k_x0 r_x1 r_x2 r_x3 hR h
theorem dd_X8_takes : yX8_takes.cls = RX8 ∧ yX8_takes.cls ≠ "java/lang/invoke/MethodHandle" ∧ yX8_takes.cls ≠ "java/lang/invoke/VarHandle" ∧ (parseMethodDescriptor yX8_takes.desc).map (fun d => d.parameters.length) = some 3 := by decide +kernel
-- ProRataMarketModel.meets
theorem hi_X8_meets_8 : ∀ w ∈ wsX80, w ∈ wsX8_meets := fun w h => List.mem_cons_of_mem _ (List.mem_append_right _ h)
theorem fd_X8_meets_80 : qFd RX8 wsX8_meets 80 8 13 0 813 := ⟨RX8, TX8, 32, _, rfl, hi_X8_meets_8, by decide, (by decide +kernel : Cond.fieldLink RX8 80 (TX8 13).1 (TX8 13).2.1 (TX8 13).2.2.1 ∈ wsX8_meets), rfl, rfl, by decide⟩
set_option maxHeartbeats 4000000 in
set_option maxRecDepth 20000 in
theorem w_X8_meets_143 {X : qB} {N : Nat} (hX : qOk X cX8_meets RX8 9 (some .int) wsX8_meets 4 94) {r : Int} {nu : qM} (hE : xr X = some (.int (iZ r)) ∧ (in32 r → xΦ X) ∧ xμ X = nu) {k11 : (Nat → Int → Int → Int → Int → qM → Option (Int × qM))} (hk11 : ∀ (x0 : Nat) (x1 : Int) (x3 : Int) (x4 : Int) (x5 : Int) (m0 : qM), gK (xG X) x0 = 9 → in32 x1 → in32 x3 → in32 x4 → in32 x5 → qR (xG X) m0 → k11 x0 x1 x3 x4 x5 m0 = some (r, nu) → qN X 9 11 [(0, .ref x0), (1, .int (iZ x1)), (3, .int (iZ x3)), (4, .int (iZ x4)), (5, .int (iZ x5))] [] m0)
    {x0 : Nat} {x1 : Int} {x3 : Int} {x4 : Int} {x5 : Int} {x8 : Int} (k_x0 : gK (xG X) x0 = 9) (r_x1 : in32 x1) (r_x3 : in32 x3) (r_x4 : in32 x4) (r_x5 : in32 x5) (r_x8 : in32 x8) {m0 : qM} (hR_m0 : qR (xG X) m0)
    (h : f_X8_meets_143 N (xG X) k11 x0 x1 x3 x4 x5 x8 m0 = some (r, nu)) : qN X 9 143 [(0, .ref x0), (1, .int (iZ x1)), (3, .int (iZ x3)), (4, .int (iZ x4)), (5, .int (iZ x5)), (8, .int (iZ x8))] [] m0 := by
  have hT := hX.T
  unfold f_X8_meets_143 at h
  refine qn_iload hX (pc := 143) dX8_meets_143 3 rfl ?_
  refine qn_iload hX (pc := 145) dX8_meets_145 5 rfl ?_
  obtain ⟨v1, e_v1, r_v1, h⟩ := ckI_e h
  refine qn_isub hX (pc := 147) dX8_meets_147 e_v1 ?_
  refine qn_istore hX (pc := 148) (ls' := [(4, .int (iZ v1)), (0, .ref x0), (1, .int (iZ x1)), (3, .int (iZ x3)), (5, .int (iZ x5)), (8, .int (iZ x8))]) dX8_meets_148 rfl rfl ?_
  refine qn_goto hX (pc := 150) 11 dX8_meets_150 (by decide) ?_
  refine qn_sub (ls' := [(0, .ref x0), (1, .int (iZ x1)), (3, .int (iZ x3)), (4, .int (iZ v1)), (5, .int (iZ x5))]) [1, 2, 3, 0, 4] rfl ?_
  exact hk11 x0 x1 x3 v1 x5 m0 k_x0 r_x1 r_x3 r_v1 r_x5 hR_m0 h
set_option maxHeartbeats 4000000 in
set_option maxRecDepth 20000 in
theorem w_X8_meets_126 {X : qB} {N : Nat} (hX : qOk X cX8_meets RX8 9 (some .int) wsX8_meets 4 94) {r : Int} {nu : qM} (hE : xr X = some (.int (iZ r)) ∧ (in32 r → xΦ X) ∧ xμ X = nu) {k11 : (Nat → Int → Int → Int → Int → qM → Option (Int × qM))} (hk11 : ∀ (x0 : Nat) (x1 : Int) (x3 : Int) (x4 : Int) (x5 : Int) (m0 : qM), gK (xG X) x0 = 9 → in32 x1 → in32 x3 → in32 x4 → in32 x5 → qR (xG X) m0 → k11 x0 x1 x3 x4 x5 m0 = some (r, nu) → qN X 9 11 [(0, .ref x0), (1, .int (iZ x1)), (3, .int (iZ x3)), (4, .int (iZ x4)), (5, .int (iZ x5))] [] m0)
    {x0 : Nat} {x1 : Int} {x3 : Int} {x4 : Int} {x5 : Int} {x6 : Int} {s0 : Int} (k_x0 : gK (xG X) x0 = 9) (r_x1 : in32 x1) (r_x3 : in32 x3) (r_x4 : in32 x4) (r_x5 : in32 x5) (r_x6 : in32 x6) (r_s0 : in32 s0) {m0 : qM} (hR_m0 : qR (xG X) m0)
    (h : f_X8_meets_126 N (xG X) k11 x0 x1 x3 x4 x5 x6 s0 m0 = some (r, nu)) : qN X 9 126 [(0, .ref x0), (1, .int (iZ x1)), (3, .int (iZ x3)), (4, .int (iZ x4)), (5, .int (iZ x5)), (6, .int (iZ x6))] [.int (iZ s0)] m0 := by
  have hT := hX.T
  unfold f_X8_meets_126 at h
  refine qn_istore hX (pc := 126) (ls' := [(8, .int (iZ s0)), (0, .ref x0), (1, .int (iZ x1)), (3, .int (iZ x3)), (4, .int (iZ x4)), (5, .int (iZ x5)), (6, .int (iZ x6))]) dX8_meets_126 rfl rfl ?_
  refine qn_iload hX (pc := 128) dX8_meets_128 0 rfl ?_
  refine qn_if_le hX (pc := 130) r_s0 143 dX8_meets_130 (by decide) (fun c1 => ?_) (fun c1 => ?_)
  · have h := ite_f h c1
    refine qn_sub (ls' := [(0, .ref x0), (1, .int (iZ x1)), (3, .int (iZ x3)), (4, .int (iZ x4)), (5, .int (iZ x5)), (8, .int (iZ s0))]) [1, 2, 3, 4, 5, 0] rfl ?_
    exact w_X8_meets_143 hX hE hk11 k_x0 r_x1 r_x3 r_x4 r_x5 r_s0 hR_m0 h
  · have h := ite_t h c1
    refine qn_aload_n hX (pc := 133) dX8_meets_133 1 rfl rfl ?_
    refine qn_iload hX (pc := 134) dX8_meets_134 5 rfl ?_
    refine qn_iload hX (pc := 136) dX8_meets_136 6 rfl ?_
    refine qn_iload hX (pc := 138) dX8_meets_138 0 rfl ?_
    obtain ⟨m2, e_m2, h⟩ := kb_e h
    refine qn_callVv hX (pc := 140) [.int (iZ x5), .int (iZ x6), .int (iZ s0)] [.int (iZ s0), .int (iZ x6), .int (iZ x5)] 3 dX8_meets_140 gX8_meets_X8_takes rfl dd_X8_takes ⟨rfl, rfl⟩ rfl rfl (by decide) k_x0 rfl rfl hR_m0 (k_X8_takes (xl X) hT k_x0 r_x5 r_x6 r_s0 e_m2) (fun r_v3 hR_m2 => ?_)
    refine qn_sub (ls' := [(0, .ref x0), (1, .int (iZ x1)), (3, .int (iZ x3)), (4, .int (iZ x4)), (5, .int (iZ x5)), (8, .int (iZ s0))]) [1, 2, 3, 4, 5, 0] rfl ?_
    exact w_X8_meets_143 hX hE hk11 k_x0 r_x1 r_x3 r_x4 r_x5 r_s0 hR_m2 h
set_option maxHeartbeats 4000000 in
set_option maxRecDepth 20000 in
theorem w_X8_meets_102 {X : qB} {N : Nat} (hX : qOk X cX8_meets RX8 9 (some .int) wsX8_meets 4 94) {r : Int} {nu : qM} (hE : xr X = some (.int (iZ r)) ∧ (in32 r → xΦ X) ∧ xμ X = nu) {k11 : (Nat → Int → Int → Int → Int → qM → Option (Int × qM))} (hk11 : ∀ (x0 : Nat) (x1 : Int) (x3 : Int) (x4 : Int) (x5 : Int) (m0 : qM), gK (xG X) x0 = 9 → in32 x1 → in32 x3 → in32 x4 → in32 x5 → qR (xG X) m0 → k11 x0 x1 x3 x4 x5 m0 = some (r, nu) → qN X 9 11 [(0, .ref x0), (1, .int (iZ x1)), (3, .int (iZ x3)), (4, .int (iZ x4)), (5, .int (iZ x5))] [] m0)
    {x0 : Nat} {x1 : Int} {x3 : Int} {x4 : Int} {x5 : Int} {x6 : Int} (k_x0 : gK (xG X) x0 = 9) (r_x1 : in32 x1) (r_x3 : in32 x3) (r_x4 : in32 x4) (r_x5 : in32 x5) (r_x6 : in32 x6) {m0 : qM} (hR_m0 : qR (xG X) m0)
    (h : f_X8_meets_102 N (xG X) k11 x0 x1 x3 x4 x5 x6 m0 = some (r, nu)) : qN X 9 102 [(0, .ref x0), (1, .int (iZ x1)), (3, .int (iZ x3)), (4, .int (iZ x4)), (5, .int (iZ x5)), (6, .int (iZ x6))] [] m0 := by
  have hT := hX.T
  unfold f_X8_meets_102 at h
  refine qn_aload_n hX (pc := 102) dX8_meets_102 0 rfl rfl ?_
  refine qn_iload hX (pc := 103) dX8_meets_103 4 rfl ?_
  refine qn_iload hX (pc := 105) dX8_meets_105 5 rfl ?_
  obtain ⟨v2, m1, e_m1, h⟩ := kb2_e h
  refine qn_callVi hX (pc := 107) [.int (iZ x5), .int (iZ x6)] [.int (iZ x6), .int (iZ x5)] 2 dX8_meets_107 gX8_meets_X8_sizesAt rfl dd_X8_sizesAt ⟨rfl, rfl⟩ rfl rfl (by decide) k_x0 rfl rfl hR_m0 (k_X8_sizesAt (xl X) hT k_x0 r_x5 r_x6 e_m1) (fun r_v2 hR_m1 => ?_)
  refine qn_istore hX (pc := 110) (ls' := [(7, .int (iZ v2)), (0, .ref x0), (1, .int (iZ x1)), (3, .int (iZ x3)), (4, .int (iZ x4)), (5, .int (iZ x5)), (6, .int (iZ x6))]) dX8_meets_110 rfl rfl ?_
  refine qn_iload hX (pc := 112) dX8_meets_112 4 rfl ?_
  refine qn_iload hX (pc := 114) dX8_meets_114 0 rfl ?_
  refine qn_icmp_ge hX (pc := 116) r_x4 r_v2 124 dX8_meets_116 (by decide) (fun c3 => ?_) (fun c3 => ?_)
  · have h := ite_f h c3
    refine qn_iload hX (pc := 124) dX8_meets_124 0 rfl ?_
    refine qn_sub (ls' := [(0, .ref x0), (1, .int (iZ x1)), (3, .int (iZ x3)), (4, .int (iZ x4)), (5, .int (iZ x5)), (6, .int (iZ x6))]) [1, 2, 3, 4, 5, 6] rfl ?_
    exact w_X8_meets_126 hX hE hk11 k_x0 r_x1 r_x3 r_x4 r_x5 r_x6 r_v2 hR_m1 h
  · have h := ite_t h c3
    refine qn_iload hX (pc := 119) dX8_meets_119 4 rfl ?_
    refine qn_goto hX (pc := 121) 126 dX8_meets_121 (by decide) ?_
    refine qn_sub (ls' := [(0, .ref x0), (1, .int (iZ x1)), (3, .int (iZ x3)), (4, .int (iZ x4)), (5, .int (iZ x5)), (6, .int (iZ x6))]) [1, 2, 3, 4, 5, 6] rfl ?_
    exact w_X8_meets_126 hX hE hk11 k_x0 r_x1 r_x3 r_x4 r_x5 r_x6 r_x4 hR_m1 h
set_option maxHeartbeats 4000000 in
set_option maxRecDepth 20000 in
theorem w_X8_meets_73 {X : qB} {N : Nat} (hX : qOk X cX8_meets RX8 9 (some .int) wsX8_meets 4 94) {r : Int} {nu : qM} (hE : xr X = some (.int (iZ r)) ∧ (in32 r → xΦ X) ∧ xμ X = nu) {k11 : (Nat → Int → Int → Int → Int → qM → Option (Int × qM))} (hk11 : ∀ (x0 : Nat) (x1 : Int) (x3 : Int) (x4 : Int) (x5 : Int) (m0 : qM), gK (xG X) x0 = 9 → in32 x1 → in32 x3 → in32 x4 → in32 x5 → qR (xG X) m0 → k11 x0 x1 x3 x4 x5 m0 = some (r, nu) → qN X 9 11 [(0, .ref x0), (1, .int (iZ x1)), (3, .int (iZ x3)), (4, .int (iZ x4)), (5, .int (iZ x5))] [] m0)
    {x0 : Nat} {x1 : Int} {x3 : Int} {x4 : Int} {x5 : Int} {x6 : Int} (k_x0 : gK (xG X) x0 = 9) (r_x1 : in32 x1) (r_x3 : in32 x3) (r_x4 : in32 x4) (r_x5 : in32 x5) (r_x6 : in32 x6) {m0 : qM} (hR_m0 : qR (xG X) m0)
    (h : f_X8_meets_73 N (xG X) k11 x0 x1 x3 x4 x5 x6 m0 = some (r, nu)) : qN X 9 73 [(0, .ref x0), (1, .int (iZ x1)), (3, .int (iZ x3)), (4, .int (iZ x4)), (5, .int (iZ x5)), (6, .int (iZ x6))] [] m0 := by
  have hT := hX.T
  unfold f_X8_meets_73 at h
  refine qn_iload_n hX (pc := 73) dX8_meets_73 2 rfl rfl ?_
  refine qn_iconst hX (pc := 74) dX8_meets_74 ?_
  refine qn_icmp_eq hX (pc := 75) r_x3 (by decide) 83 dX8_meets_75 (by decide) (fun c1 => ?_) (fun c1 => ?_)
  · have h := ite_t h c1
    refine qn_iconst hX (pc := 83) dX8_meets_83 ?_
    exact qn_iret hX (pc := 84) dX8_meets_84 hE hR_m0 (by decide) (Option.some.inj h)
  · have h := ite_f h c1
    refine qn_iload_n hX (pc := 78) dX8_meets_78 2 rfl rfl ?_
    refine qn_iconst hX (pc := 79) dX8_meets_79 ?_
    refine qn_icmp_ne hX (pc := 80) r_x3 (by decide) 85 dX8_meets_80 (by decide) (fun c2 => ?_) (fun c2 => ?_)
    · have h := ite_f h c2
      refine qn_iload_n hX (pc := 85) dX8_meets_85 2 rfl rfl ?_
      refine qn_iconst hX (pc := 86) dX8_meets_86 ?_
      refine qn_icmp_ne hX (pc := 87) r_x3 (by decide) 102 dX8_meets_87 (by decide) (fun c3 => ?_) (fun c3 => ?_)
      · have h := ite_f h c3
        refine qn_sub (ls' := [(0, .ref x0), (1, .int (iZ x1)), (3, .int (iZ x3)), (4, .int (iZ x4)), (5, .int (iZ x5)), (6, .int (iZ x6))]) [0, 1, 2, 3, 4, 5] rfl ?_
        exact w_X8_meets_102 hX hE hk11 k_x0 r_x1 r_x3 r_x4 r_x5 r_x6 hR_m0 h
      · have h := ite_t h c3
        refine qn_aload_n hX (pc := 90) dX8_meets_90 0 rfl rfl ?_
        refine qn_iload hX (pc := 91) dX8_meets_91 4 rfl ?_
        refine qn_iload hX (pc := 93) dX8_meets_93 5 rfl ?_
        refine qn_iload hX (pc := 95) dX8_meets_95 3 rfl ?_
        obtain ⟨v5, m4, e_m4, h⟩ := kb2_e h
        refine qn_callVi hX (pc := 97) [.int (iZ x5), .int (iZ x6), .int (iZ x4)] [.int (iZ x4), .int (iZ x6), .int (iZ x5)] 3 dX8_meets_97 gX8_meets_X8_makesLess rfl dd_X8_makesLess ⟨rfl, rfl⟩ rfl rfl (by decide) k_x0 rfl rfl hR_m0 (k_X8_makesLess (xl X) hT k_x0 r_x5 r_x6 r_x4 e_m4) (fun r_v5 hR_m4 => ?_)
        refine qn_istore hX (pc := 100) (ls' := [(4, .int (iZ v5)), (0, .ref x0), (1, .int (iZ x1)), (3, .int (iZ x3)), (5, .int (iZ x5)), (6, .int (iZ x6))]) dX8_meets_100 rfl rfl ?_
        refine qn_sub (ls' := [(0, .ref x0), (1, .int (iZ x1)), (3, .int (iZ x3)), (4, .int (iZ v5)), (5, .int (iZ x5)), (6, .int (iZ x6))]) [1, 2, 3, 0, 4, 5] rfl ?_
        exact w_X8_meets_102 hX hE hk11 k_x0 r_x1 r_x3 r_v5 r_x5 r_x6 hR_m4 h
    · have h := ite_t h c2
      refine qn_iconst hX (pc := 83) dX8_meets_83 ?_
      exact qn_iret hX (pc := 84) dX8_meets_84 hE hR_m0 (by decide) (Option.some.inj h)
set_option maxHeartbeats 4000000 in
set_option maxRecDepth 20000 in
theorem w_X8_meets_65 {X : qB} {N : Nat} (hX : qOk X cX8_meets RX8 9 (some .int) wsX8_meets 4 94) {r : Int} {nu : qM} (hE : xr X = some (.int (iZ r)) ∧ (in32 r → xΦ X) ∧ xμ X = nu) {k11 : (Nat → Int → Int → Int → Int → qM → Option (Int × qM))} (hk11 : ∀ (x0 : Nat) (x1 : Int) (x3 : Int) (x4 : Int) (x5 : Int) (m0 : qM), gK (xG X) x0 = 9 → in32 x1 → in32 x3 → in32 x4 → in32 x5 → qR (xG X) m0 → k11 x0 x1 x3 x4 x5 m0 = some (r, nu) → qN X 9 11 [(0, .ref x0), (1, .int (iZ x1)), (3, .int (iZ x3)), (4, .int (iZ x4)), (5, .int (iZ x5))] [] m0)
    {x0 : Nat} {x1 : Int} {x3 : Int} {x4 : Int} {x5 : Int} {x6 : Int} (k_x0 : gK (xG X) x0 = 9) (r_x1 : in32 x1) (r_x3 : in32 x3) (r_x4 : in32 x4) (r_x5 : in32 x5) (r_x6 : in32 x6) {m0 : qM} (hR_m0 : qR (xG X) m0)
    (h : f_X8_meets_65 N (xG X) k11 x0 x1 x3 x4 x5 x6 m0 = some (r, nu)) : qN X 9 65 [(0, .ref x0), (1, .int (iZ x1)), (3, .int (iZ x3)), (4, .int (iZ x4)), (5, .int (iZ x5)), (6, .int (iZ x6))] [] m0 := by
  have hT := hX.T
  unfold f_X8_meets_65 at h
  refine qn_aload_n hX (pc := 65) dX8_meets_65 0 rfl rfl ?_
  refine qn_iload hX (pc := 66) dX8_meets_66 4 rfl ?_
  refine qn_iload hX (pc := 68) dX8_meets_68 5 rfl ?_
  obtain ⟨m1, e_m1, h⟩ := kb_e h
  refine qn_callVv hX (pc := 70) [.int (iZ x5), .int (iZ x6)] [.int (iZ x6), .int (iZ x5)] 2 dX8_meets_70 gX8_meets_X8_takesOwnOff rfl dd_X8_takesOwnOff ⟨rfl, rfl⟩ rfl rfl (by decide) k_x0 rfl rfl hR_m0 (k_X8_takesOwnOff (xl X) hT k_x0 r_x5 r_x6 e_m1) (fun r_v2 hR_m1 => ?_)
  refine qn_sub (ls' := [(0, .ref x0), (1, .int (iZ x1)), (3, .int (iZ x3)), (4, .int (iZ x4)), (5, .int (iZ x5)), (6, .int (iZ x6))]) [0, 1, 2, 3, 4, 5] rfl ?_
  exact w_X8_meets_73 hX hE hk11 k_x0 r_x1 r_x3 r_x4 r_x5 r_x6 hR_m1 h
set_option maxHeartbeats 4000000 in
set_option maxRecDepth 20000 in
theorem w_X8_meets_11 {X : qB} {N : Nat} (hX : qOk X cX8_meets RX8 9 (some .int) wsX8_meets 4 94) {r : Int} {nu : qM} (hE : xr X = some (.int (iZ r)) ∧ (in32 r → xΦ X) ∧ xμ X = nu) {k11 : (Nat → Int → Int → Int → Int → qM → Option (Int × qM))} (hk11 : ∀ (x0 : Nat) (x1 : Int) (x3 : Int) (x4 : Int) (x5 : Int) (m0 : qM), gK (xG X) x0 = 9 → in32 x1 → in32 x3 → in32 x4 → in32 x5 → qR (xG X) m0 → k11 x0 x1 x3 x4 x5 m0 = some (r, nu) → qN X 9 11 [(0, .ref x0), (1, .int (iZ x1)), (3, .int (iZ x3)), (4, .int (iZ x4)), (5, .int (iZ x5))] [] m0)
    {x0 : Nat} {x1 : Int} {x3 : Int} {x4 : Int} {x5 : Int} (k_x0 : gK (xG X) x0 = 9) (r_x1 : in32 x1) (r_x3 : in32 x3) (r_x4 : in32 x4) (r_x5 : in32 x5) {m0 : qM} (hR_m0 : qR (xG X) m0)
    (h : f_X8_meets_11 N (xG X) k11 x0 x1 x3 x4 x5 m0 = some (r, nu)) : qN X 9 11 [(0, .ref x0), (1, .int (iZ x1)), (3, .int (iZ x3)), (4, .int (iZ x4)), (5, .int (iZ x5))] [] m0 := by
  have hT := hX.T
  unfold f_X8_meets_11 at h
  refine qn_iload hX (pc := 11) dX8_meets_11 3 rfl ?_
  refine qn_if_le hX (pc := 13) r_x4 153 dX8_meets_13 (by decide) (fun c1 => ?_) (fun c1 => ?_)
  · have h := ite_f h c1
    refine qn_iconst hX (pc := 153) dX8_meets_153 ?_
    exact qn_iret hX (pc := 154) dX8_meets_154 hE hR_m0 (by decide) (Option.some.inj h)
  · have h := ite_t h c1
    refine qn_aload_n hX (pc := 16) dX8_meets_16 0 rfl rfl ?_
    refine qn_iload hX (pc := 17) dX8_meets_17 4 rfl ?_
    obtain ⟨v3, m2, e_m2, h⟩ := kb2_e h
    refine qn_callVi hX (pc := 19) [.int (iZ x5)] [.int (iZ x5)] 1 dX8_meets_19 gX8_meets_X8_bestOf rfl dd_X8_bestOf ⟨rfl, rfl⟩ rfl rfl (by decide) k_x0 rfl rfl hR_m0 (k_X8_bestOf (xl X) hT k_x0 r_x5 e_m2) (fun r_v3 hR_m2 => ?_)
    refine qn_istore hX (pc := 22) (ls' := [(6, .int (iZ v3)), (0, .ref x0), (1, .int (iZ x1)), (3, .int (iZ x3)), (4, .int (iZ x4)), (5, .int (iZ x5))]) dX8_meets_22 rfl rfl ?_
    refine qn_iload hX (pc := 24) dX8_meets_24 0 rfl ?_
    refine qn_if_eq hX (pc := 26) r_v3 42 dX8_meets_26 (by decide) (fun c4 => ?_) (fun c4 => ?_)
    · have h := ite_t h c4
      refine qn_iload hX (pc := 42) dX8_meets_42 4 rfl ?_
      exact qn_iret hX (pc := 44) dX8_meets_44 hE hR_m2 r_x4 (Option.some.inj h)
    · have h := ite_f h c4
      refine qn_aload_n hX (pc := 29) dX8_meets_29 1 rfl rfl ?_
      refine qn_getI hX (pc := 30) fd_X8_meets_80 dX8_meets_30 k_x0 ?_
      refine qn_iload hX (pc := 33) dX8_meets_33 0 rfl ?_
      refine qn_iload_n hX (pc := 35) dX8_meets_35 2 rfl rfl ?_
      obtain ⟨v6, m5, e_m5, h⟩ := kb2_e h
      refine qn_callSi hX (pc := 36) [.int (iZ (gI m2 813 x0)), .int (iZ v3), .int (iZ x1)] [.int (iZ x1), .int (iZ v3), .int (iZ (gI m2 813 x0))] 3 dX8_meets_36 gX8_meets_X8_isBetter rfl dd_X8_isBetter ⟨rfl, rfl⟩ rfl rfl rfl hR_m2 (k_X8_isBetter (xl X) hT (hR_m2.i 813 _ rfl) r_v3 r_x1 e_m5) (fun r_v6 hR_m5 => ?_)
      refine qn_if_eq hX (pc := 39) r_v6.i 45 dX8_meets_39 (by decide) (fun c7 => ?_) (fun c7 => ?_)
      · have h := ite_t h c7
        refine qn_aload_n hX (pc := 45) dX8_meets_45 1 rfl rfl ?_
        refine qn_iload hX (pc := 46) dX8_meets_46 5 rfl ?_
        refine qn_iload hX (pc := 48) dX8_meets_48 0 rfl ?_
        obtain ⟨v9, m8, e_m8, h⟩ := kb2_e h
        refine qn_callVi hX (pc := 50) [.int (iZ x5), .int (iZ v3)] [.int (iZ v3), .int (iZ x5)] 2 dX8_meets_50 gX8_meets_X8_hasOwn rfl dd_X8_hasOwn ⟨rfl, rfl⟩ rfl rfl (by decide) k_x0 rfl rfl hR_m5 (k_X8_hasOwn (xl X) hT k_x0 r_x5 r_v3 e_m8) (fun r_v9 hR_m8 => ?_)
        refine qn_if_eq hX (pc := 53) r_v9.i 102 dX8_meets_53 (by decide) (fun c10 => ?_) (fun c10 => ?_)
        · have h := ite_t h c10
          refine qn_sub (ls' := [(0, .ref x0), (1, .int (iZ x1)), (3, .int (iZ x3)), (4, .int (iZ x4)), (5, .int (iZ x5)), (6, .int (iZ v3))]) [1, 2, 3, 4, 5, 0] rfl ?_
          exact w_X8_meets_102 hX hE hk11 k_x0 r_x1 r_x3 r_x4 r_x5 r_v3 hR_m8 h
        · have h := ite_f h c10
          refine qn_iload_n hX (pc := 56) dX8_meets_56 3 rfl rfl ?_
          refine qn_if_eq hX (pc := 57) r_x3 65 dX8_meets_57 (by decide) (fun c11 => ?_) (fun c11 => ?_)
          · have h := ite_t h c11
            refine qn_sub (ls' := [(0, .ref x0), (1, .int (iZ x1)), (3, .int (iZ x3)), (4, .int (iZ x4)), (5, .int (iZ x5)), (6, .int (iZ v3))]) [1, 2, 3, 4, 5, 0] rfl ?_
            exact w_X8_meets_65 hX hE hk11 k_x0 r_x1 r_x3 r_x4 r_x5 r_v3 hR_m8 h
          · have h := ite_f h c11
            refine qn_iload_n hX (pc := 60) dX8_meets_60 3 rfl rfl ?_
            refine qn_iconst hX (pc := 61) dX8_meets_61 ?_
            refine qn_icmp_ne hX (pc := 62) r_x3 (by decide) 73 dX8_meets_62 (by decide) (fun c12 => ?_) (fun c12 => ?_)
            · have h := ite_f h c12
              refine qn_sub (ls' := [(0, .ref x0), (1, .int (iZ x1)), (3, .int (iZ x3)), (4, .int (iZ x4)), (5, .int (iZ x5)), (6, .int (iZ v3))]) [1, 2, 3, 4, 5, 0] rfl ?_
              exact w_X8_meets_73 hX hE hk11 k_x0 r_x1 r_x3 r_x4 r_x5 r_v3 hR_m8 h
            · have h := ite_t h c12
              refine qn_sub (ls' := [(0, .ref x0), (1, .int (iZ x1)), (3, .int (iZ x3)), (4, .int (iZ x4)), (5, .int (iZ x5)), (6, .int (iZ v3))]) [1, 2, 3, 4, 5, 0] rfl ?_
              exact w_X8_meets_65 hX hE hk11 k_x0 r_x1 r_x3 r_x4 r_x5 r_v3 hR_m8 h
      · have h := ite_f h c7
        refine qn_iload hX (pc := 42) dX8_meets_42 4 rfl ?_
        exact qn_iret hX (pc := 44) dX8_meets_44 hE hR_m5 r_x4 (Option.some.inj h)
set_option maxHeartbeats 4000000 in
set_option maxRecDepth 20000 in
theorem w_X8_meets_L11 {X : qB} {N : Nat} (hX : qOk X cX8_meets RX8 9 (some .int) wsX8_meets 4 94) {r : Int} {nu : qM} (hE : xr X = some (.int (iZ r)) ∧ (in32 r → xΦ X) ∧ xμ X = nu) 
    {x0 : Nat} {x1 : Int} {x3 : Int} {x4 : Int} {x5 : Int} (k_x0 : gK (xG X) x0 = 9) (r_x1 : in32 x1) (r_x3 : in32 x3) (r_x4 : in32 x4) (r_x5 : in32 x5) {m0 : qM} (hR_m0 : qR (xG X) m0)
    (h : f_X8_meets_L11 N (xG X)  x0 x1 x3 x4 x5 m0 = some (r, nu)) : qN X 9 11 [(0, .ref x0), (1, .int (iZ x1)), (3, .int (iZ x3)), (4, .int (iZ x4)), (5, .int (iZ x5))] [] m0 := by
  unfold f_X8_meets_L11 at h
  exact qLoop_w (σ := Nat × Int × Int × Int × Int × qM) (P := fun p => gK (xG X) p.1 = 9 ∧ in32 p.2.1 ∧ in32 p.2.2.1 ∧ in32 p.2.2.2.1 ∧ in32 p.2.2.2.2.1 ∧ qR (xG X) p.2.2.2.2.2) (Q := fun p => qN X 9 11 [(0, .ref p.1), (1, .int (iZ p.2.1)), (3, .int (iZ p.2.2.1)), (4, .int (iZ p.2.2.2.1)), (5, .int (iZ p.2.2.2.2.1))] [] p.2.2.2.2.2) (fun k hrec p hp hh => w_X8_meets_11 hX hE (fun x0 x1 x3 x4 x5 m0 q0 q1 q2 q3 q4 hRm hh => hrec (x0, x1, x3, x4, x5, m0) ⟨q0, q1, q2, q3, q4, hRm⟩ hh) hp.1 hp.2.1 hp.2.2.1 hp.2.2.2.1 hp.2.2.2.2.1 hp.2.2.2.2.2 hh) N (x0, x1, x3, x4, x5, m0) ⟨k_x0, r_x1, r_x3, r_x4, r_x5, hR_m0⟩ h
set_option maxHeartbeats 4000000 in
set_option maxRecDepth 20000 in
theorem w_X8_meets {X : qB} {N : Nat} (hX : qOk X cX8_meets RX8 9 (some .int) wsX8_meets 4 94) {r : Int} {nu : qM} (hE : xr X = some (.int (iZ r)) ∧ (in32 r → xΦ X) ∧ xμ X = nu) 
    {x0 : Nat} {x1 : Int} {x2 : Int} {x3 : Int} (k_x0 : gK (xG X) x0 = 9) (r_x1 : in32 x1) (r_x2 : in32 x2) (r_x3 : in32 x3) {m0 : qM} (hR_m0 : qR (xG X) m0)
    (h : f_X8_meets N (xG X)  x0 x1 x2 x3 m0 = some (r, nu)) : qN X 9 0 [(0, .ref x0), (1, .int (iZ x1)), (2, .int (iZ x2)), (3, .int (iZ x3))] [] m0 := by
  have hT := hX.T
  unfold f_X8_meets at h
  refine qn_iload_n hX (pc := 0) dX8_meets_0 2 rfl rfl ?_
  refine qn_istore hX (pc := 1) (ls' := [(4, .int (iZ x2)), (0, .ref x0), (1, .int (iZ x1)), (2, .int (iZ x2)), (3, .int (iZ x3))]) dX8_meets_1 rfl rfl ?_
  refine qn_iconst hX (pc := 3) dX8_meets_3 ?_
  refine qn_aload_n hX (pc := 4) dX8_meets_4 1 rfl rfl ?_
  refine qn_getI hX (pc := 5) fd_X8_meets_80 dX8_meets_5 k_x0 ?_
  obtain ⟨v1, e_v1, r_v1, h⟩ := ckI_e h
  refine qn_isub hX (pc := 8) dX8_meets_8 e_v1 ?_
  refine qn_istore hX (pc := 9) (ls' := [(5, .int (iZ v1)), (4, .int (iZ x2)), (0, .ref x0), (1, .int (iZ x1)), (2, .int (iZ x2)), (3, .int (iZ x3))]) dX8_meets_9 rfl rfl ?_
  refine qn_sub (ls' := [(0, .ref x0), (1, .int (iZ x1)), (3, .int (iZ x3)), (4, .int (iZ x2)), (5, .int (iZ v1))]) [2, 3, 5, 1, 0] rfl ?_
  exact w_X8_meets_L11 hX hE  k_x0 r_x1 r_x3 r_x2 r_v1 hR_m0 h
theorem k_X8_meets (l : Launch) {G : qG} (hT : qT G) {N : Nat} {x0 : Nat} {x1 : Int} {x2 : Int} {x3 : Int} (k_x0 : gK G x0 = 9) (r_x1 : in32 x1) (r_x2 : in32 x2) (r_x3 : in32 x3) {m0 : qM} {r : Int} {nu : qM} (h : f_X8_meets N G x0 x1 x2 x3 m0 = some (r, nu)) : qC l yX8_meets wsX8_meets 4 94 G [.ref x0, .int (iZ x1), .int (iZ x2), .int (iZ x3)] m0 (some (.int (iZ r))) (in32 r) nu := by
  refine qn_start (hy := by decide) hT (hw := rfl) (hn := Nat.le_of_ble_eq_true rfl) ?_
  intro X h1 h2 h3 h4 hX hR
  subst h4
  exact w_X8_meets hX ⟨h1, fun q => h2 ▸ q, h3⟩ k_x0 r_x1 r_x2 r_x3 hR h
theorem dd_X8_meets : yX8_meets.cls = RX8 ∧ yX8_meets.cls ≠ "java/lang/invoke/MethodHandle" ∧ yX8_meets.cls ≠ "java/lang/invoke/VarHandle" ∧ (parseMethodDescriptor yX8_meets.desc).map (fun d => d.parameters.length) = some 3 := by decide +kernel
-- ProRataMarketModel.rests
theorem hi_X8_rests_8 : ∀ w ∈ wsX80, w ∈ wsX8_rests := fun w h => List.mem_cons_of_mem _ (List.mem_append_right _ h)
theorem fd_X8_rests_7 : qFd RX8 wsX8_rests 7 8 0 1 800 := ⟨RX8, TX8, 32, _, rfl, hi_X8_rests_8, by decide, (by decide +kernel : Cond.fieldLink RX8 7 (TX8 0).1 (TX8 0).2.1 (TX8 0).2.2.1 ∈ wsX8_rests), rfl, rfl, by decide⟩
set_option maxHeartbeats 4000000 in
set_option maxRecDepth 20000 in
theorem w_X8_rests {X : qB} {N : Nat} (hX : qOk X cX8_rests RX8 8 none wsX8_rests 1 23) {r : qM} (hE : xr X = none ∧ (True → xΦ X) ∧ xμ X = r) 
    {x0 : Nat} {x1 : Int} {x2 : Int} {x3 : Int} {x4 : Int} {x5 : Int} {x6 : Int} (k_x0 : gK (xG X) x0 = 9) (r_x1 : in32 x1) (r_x2 : in32 x2) (r_x3 : in32 x3) (r_x4 : in32 x4) (r_x5 : in32 x5) (r_x6 : in32 x6) {m0 : qM} (hR_m0 : qR (xG X) m0)
    (h : f_X8_rests N (xG X)  x0 x1 x2 x3 x4 x5 x6 m0 = some r) : qN X 8 0 [(0, .ref x0), (1, .int (iZ x1)), (2, .int (iZ x2)), (3, .int (iZ x3)), (4, .int (iZ x4)), (5, .int (iZ x5)), (6, .int (iZ x6))] [] m0 := by
  have hT := hX.T
  unfold f_X8_rests at h
  refine qn_aload_n hX (pc := 0) dX8_rests_0 0 rfl rfl ?_
  refine qn_getR hX (pc := 1) fd_X8_rests_7 dX8_rests_1 k_x0 ?_
  refine qn_iconst hX (pc := 4) dX8_rests_4 ?_
  refine qn_iald hX (pc := 5) (v := gA m0 (gR (xG X) 800 x0) 5) 684 dX8_rests_5 (qr_800 hT k_x0) (by decide) (by decide) rfl ?_
  refine qn_istore hX (pc := 6) (ls' := [(7, .int (iZ (gA m0 (gR (xG X) 800 x0) 5))), (0, .ref x0), (1, .int (iZ x1)), (2, .int (iZ x2)), (3, .int (iZ x3)), (4, .int (iZ x4)), (5, .int (iZ x5)), (6, .int (iZ x6))]) dX8_rests_6 rfl rfl ?_
  refine qn_aload_n hX (pc := 8) dX8_rests_8 1 rfl rfl ?_
  refine qn_getR hX (pc := 9) fd_X8_rests_7 dX8_rests_9 k_x0 ?_
  refine qn_iconst hX (pc := 12) dX8_rests_12 ?_
  refine qn_dup2 hX (pc := 13) dX8_rests_13 rfl rfl ?_
  refine qn_iald hX (pc := 14) (v := gA m0 (gR (xG X) 800 x0) 5) 684 dX8_rests_14 (qr_800 hT k_x0) (by decide) (by decide) rfl ?_
  refine qn_iconst hX (pc := 15) dX8_rests_15 ?_
  obtain ⟨v1, e_v1, r_v1, h⟩ := ckI_e h
  refine qn_iadd hX (pc := 16) dX8_rests_16 e_v1 ?_
  obtain ⟨m2, e_m2, h⟩ := kp_e h
  refine qn_iast hX (pc := 17) 684 dX8_rests_17 (qr_800 hT k_x0) (by decide) (by decide) hR_m0 r_v1 e_m2 (fun hR_m2 => ?_) 
  refine qn_aload_n hX (pc := 18) dX8_rests_18 1 rfl rfl ?_
  refine qn_iload hX (pc := 19) dX8_rests_19 0 rfl ?_
  refine qn_iconst hX (pc := 21) dX8_rests_21 ?_
  refine qn_iload_n hX (pc := 22) dX8_rests_22 2 rfl rfl ?_
  obtain ⟨m3, e_m3, h⟩ := kb_e h
  refine qn_callVv hX (pc := 23) [.int (iZ (gA m0 (gR (xG X) 800 x0) 5)), .int (iZ 0), .int (iZ x1)] [.int (iZ x1), .int (iZ 0), .int (iZ (gA m0 (gR (xG X) 800 x0) 5))] 3 dX8_rests_23 gX8_rests_X8_setOrder rfl dd_X8_setOrder ⟨rfl, rfl⟩ rfl rfl (by decide) k_x0 rfl rfl hR_m2 (k_X8_setOrder (xl X) hT k_x0 (hR_m0.a (n := 684) _ (qr_800 hT k_x0) (by decide)) (by decide) r_x1 e_m3) (fun r_v4 hR_m3 => ?_)
  refine qn_aload_n hX (pc := 26) dX8_rests_26 1 rfl rfl ?_
  refine qn_iload hX (pc := 27) dX8_rests_27 0 rfl ?_
  refine qn_iconst hX (pc := 29) dX8_rests_29 ?_
  refine qn_iload_n hX (pc := 30) dX8_rests_30 3 rfl rfl ?_
  obtain ⟨m5, e_m5, h⟩ := kb_e h
  refine qn_callVv hX (pc := 31) [.int (iZ (gA m0 (gR (xG X) 800 x0) 5)), .int (iZ 1), .int (iZ x2)] [.int (iZ x2), .int (iZ 1), .int (iZ (gA m0 (gR (xG X) 800 x0) 5))] 3 dX8_rests_31 gX8_rests_X8_setOrder rfl dd_X8_setOrder ⟨rfl, rfl⟩ rfl rfl (by decide) k_x0 rfl rfl hR_m3 (k_X8_setOrder (xl X) hT k_x0 (hR_m0.a (n := 684) _ (qr_800 hT k_x0) (by decide)) (by decide) r_x2 e_m5) (fun r_v6 hR_m5 => ?_)
  refine qn_aload_n hX (pc := 34) dX8_rests_34 1 rfl rfl ?_
  refine qn_iload hX (pc := 35) dX8_rests_35 0 rfl ?_
  refine qn_iconst hX (pc := 37) dX8_rests_37 ?_
  refine qn_iload_n hX (pc := 38) dX8_rests_38 4 rfl rfl ?_
  obtain ⟨m7, e_m7, h⟩ := kb_e h
  refine qn_callVv hX (pc := 39) [.int (iZ (gA m0 (gR (xG X) 800 x0) 5)), .int (iZ 2), .int (iZ x3)] [.int (iZ x3), .int (iZ 2), .int (iZ (gA m0 (gR (xG X) 800 x0) 5))] 3 dX8_rests_39 gX8_rests_X8_setOrder rfl dd_X8_setOrder ⟨rfl, rfl⟩ rfl rfl (by decide) k_x0 rfl rfl hR_m5 (k_X8_setOrder (xl X) hT k_x0 (hR_m0.a (n := 684) _ (qr_800 hT k_x0) (by decide)) (by decide) r_x3 e_m7) (fun r_v8 hR_m7 => ?_)
  refine qn_aload_n hX (pc := 42) dX8_rests_42 1 rfl rfl ?_
  refine qn_iload hX (pc := 43) dX8_rests_43 0 rfl ?_
  refine qn_iconst hX (pc := 45) dX8_rests_45 ?_
  refine qn_iload hX (pc := 46) dX8_rests_46 5 rfl ?_
  obtain ⟨m9, e_m9, h⟩ := kb_e h
  refine qn_callVv hX (pc := 48) [.int (iZ (gA m0 (gR (xG X) 800 x0) 5)), .int (iZ 3), .int (iZ x4)] [.int (iZ x4), .int (iZ 3), .int (iZ (gA m0 (gR (xG X) 800 x0) 5))] 3 dX8_rests_48 gX8_rests_X8_setOrder rfl dd_X8_setOrder ⟨rfl, rfl⟩ rfl rfl (by decide) k_x0 rfl rfl hR_m7 (k_X8_setOrder (xl X) hT k_x0 (hR_m0.a (n := 684) _ (qr_800 hT k_x0) (by decide)) (by decide) r_x4 e_m9) (fun r_v10 hR_m9 => ?_)
  refine qn_aload_n hX (pc := 51) dX8_rests_51 1 rfl rfl ?_
  refine qn_iload hX (pc := 52) dX8_rests_52 0 rfl ?_
  refine qn_iconst hX (pc := 54) dX8_rests_54 ?_
  refine qn_iload hX (pc := 55) dX8_rests_55 6 rfl ?_
  obtain ⟨m11, e_m11, h⟩ := kb_e h
  refine qn_callVv hX (pc := 57) [.int (iZ (gA m0 (gR (xG X) 800 x0) 5)), .int (iZ 4), .int (iZ x5)] [.int (iZ x5), .int (iZ 4), .int (iZ (gA m0 (gR (xG X) 800 x0) 5))] 3 dX8_rests_57 gX8_rests_X8_setOrder rfl dd_X8_setOrder ⟨rfl, rfl⟩ rfl rfl (by decide) k_x0 rfl rfl hR_m9 (k_X8_setOrder (xl X) hT k_x0 (hR_m0.a (n := 684) _ (qr_800 hT k_x0) (by decide)) (by decide) r_x5 e_m11) (fun r_v12 hR_m11 => ?_)
  refine qn_aload_n hX (pc := 60) dX8_rests_60 1 rfl rfl ?_
  refine qn_iload hX (pc := 61) dX8_rests_61 0 rfl ?_
  refine qn_iconst hX (pc := 63) dX8_rests_63 ?_
  refine qn_iload hX (pc := 64) dX8_rests_64 7 rfl ?_
  obtain ⟨m13, e_m13, h⟩ := kb_e h
  refine qn_callVv hX (pc := 66) [.int (iZ (gA m0 (gR (xG X) 800 x0) 5)), .int (iZ 5), .int (iZ x6)] [.int (iZ x6), .int (iZ 5), .int (iZ (gA m0 (gR (xG X) 800 x0) 5))] 3 dX8_rests_66 gX8_rests_X8_setOrder rfl dd_X8_setOrder ⟨rfl, rfl⟩ rfl rfl (by decide) k_x0 rfl rfl hR_m11 (k_X8_setOrder (xl X) hT k_x0 (hR_m0.a (n := 684) _ (qr_800 hT k_x0) (by decide)) (by decide) r_x6 e_m13) (fun r_v14 hR_m13 => ?_)
  exact qn_vret hX (pc := 69) dX8_rests_69 hE hR_m13 (Option.some.inj h)
theorem k_X8_rests (l : Launch) {G : qG} (hT : qT G) {N : Nat} {x0 : Nat} {x1 : Int} {x2 : Int} {x3 : Int} {x4 : Int} {x5 : Int} {x6 : Int} (k_x0 : gK G x0 = 9) (r_x1 : in32 x1) (r_x2 : in32 x2) (r_x3 : in32 x3) (r_x4 : in32 x4) (r_x5 : in32 x5) (r_x6 : in32 x6) {m0 : qM} {r : qM} (h : f_X8_rests N G x0 x1 x2 x3 x4 x5 x6 m0 = some r) : qC l yX8_rests wsX8_rests 1 23 G [.ref x0, .int (iZ x1), .int (iZ x2), .int (iZ x3), .int (iZ x4), .int (iZ x5), .int (iZ x6)] m0 none True r := by
  refine qn_start (hy := by decide) hT (hw := rfl) (hn := Nat.le_of_ble_eq_true rfl) ?_
  intro X h1 h2 h3 h4 hX hR
  subst h4
  exact w_X8_rests hX ⟨h1, fun q => h2 ▸ q, h3⟩ k_x0 r_x1 r_x2 r_x3 r_x4 r_x5 r_x6 hR h
theorem dd_X8_rests : yX8_rests.cls = RX8 ∧ yX8_rests.cls ≠ "java/lang/invoke/MethodHandle" ∧ yX8_rests.cls ≠ "java/lang/invoke/VarHandle" ∧ (parseMethodDescriptor yX8_rests.desc).map (fun d => d.parameters.length) = some 6 := by decide +kernel
-- ProRataMarketModel.trading
theorem hi_X8_trading_8 : ∀ w ∈ wsX80, w ∈ wsX8_trading := fun w h => List.mem_cons_of_mem _ (List.mem_append_right _ h)
theorem fd_X8_trading_73 : qFd RX8 wsX8_trading 73 8 11 0 811 := ⟨RX8, TX8, 32, _, rfl, hi_X8_trading_8, by decide, (by decide +kernel : Cond.fieldLink RX8 73 (TX8 11).1 (TX8 11).2.1 (TX8 11).2.2.1 ∈ wsX8_trading), rfl, rfl, by decide⟩
theorem fd_X8_trading_7 : qFd RX8 wsX8_trading 7 8 0 1 800 := ⟨RX8, TX8, 32, _, rfl, hi_X8_trading_8, by decide, (by decide +kernel : Cond.fieldLink RX8 7 (TX8 0).1 (TX8 0).2.1 (TX8 0).2.2.1 ∈ wsX8_trading), rfl, rfl, by decide⟩
set_option maxHeartbeats 4000000 in
set_option maxRecDepth 20000 in
theorem w_X8_trading_78 {X : qB} {N : Nat} (hX : qOk X cX8_trading RX8 9 (some .int) wsX8_trading 5 122) {r : Int} {nu : qM} (hE : xr X = some (.int (iZ r)) ∧ (in32 r → xΦ X) ∧ xμ X = nu) 
    {x0 : Nat} {x1 : Int} {x2 : Int} {x3 : Int} {x4 : Int} {x6 : Int} {s0 : Int} (k_x0 : gK (xG X) x0 = 9) (r_x1 : in32 x1) (r_x2 : in32 x2) (r_x3 : in32 x3) (r_x4 : in32 x4) (r_x6 : in32 x6) (b_s0 : in01 s0) {m0 : qM} (hR_m0 : qR (xG X) m0)
    (h : f_X8_trading_78 N (xG X)  x0 x1 x2 x3 x4 x6 s0 m0 = some (r, nu)) : qN X 9 78 [(0, .ref x0), (1, .int (iZ x1)), (2, .int (iZ x2)), (3, .int (iZ x3)), (4, .int (iZ x4)), (6, .int (iZ x6))] [.int (iZ s0)] m0 := by
  have hT := hX.T
  unfold f_X8_trading_78 at h
  refine qn_istore hX (pc := 78) (ls' := [(8, .int (iZ s0)), (0, .ref x0), (1, .int (iZ x1)), (2, .int (iZ x2)), (3, .int (iZ x3)), (4, .int (iZ x4)), (6, .int (iZ x6))]) dX8_trading_78 rfl rfl ?_
  refine qn_aload_n hX (pc := 80) dX8_trading_80 1 rfl rfl ?_
  refine qn_aload_n hX (pc := 81) dX8_trading_81 1 rfl rfl ?_
  refine qn_getI hX (pc := 82) fd_X8_trading_73 dX8_trading_82 k_x0 ?_
  refine qn_iload_n hX (pc := 85) dX8_trading_85 2 rfl rfl ?_
  refine qn_iload_n hX (pc := 86) dX8_trading_86 3 rfl rfl ?_
  refine qn_iload_n hX (pc := 87) dX8_trading_87 4 rfl rfl ?_
  refine qn_iload hX (pc := 88) dX8_trading_88 6 rfl ?_
  refine qn_iload hX (pc := 90) dX8_trading_90 5 rfl ?_
  obtain ⟨m1, e_m1, h⟩ := kb_e h
  refine qn_callVv hX (pc := 92) [.int (iZ (gI m0 811 x0)), .int (iZ x1), .int (iZ x2), .int (iZ x3), .int (iZ x6), .int (iZ x4)] [.int (iZ x4), .int (iZ x6), .int (iZ x3), .int (iZ x2), .int (iZ x1), .int (iZ (gI m0 811 x0))] 6 dX8_trading_92 gX8_trading_X8_rests rfl dd_X8_rests ⟨rfl, rfl⟩ rfl rfl (by decide) k_x0 rfl rfl hR_m0 (k_X8_rests (xl X) hT k_x0 (hR_m0.i 811 _ rfl) r_x1 r_x2 r_x3 r_x6 r_x4 e_m1) (fun r_v2 hR_m1 => ?_)
  refine qn_iload hX (pc := 95) dX8_trading_95 0 rfl ?_
  refine qn_if_eq hX (pc := 97) b_s0.i 128 dX8_trading_97 (by decide) (fun c3 => ?_) (fun c3 => ?_)
  · have h := ite_t h c3
    refine qn_iload hX (pc := 128) dX8_trading_128 6 rfl ?_
    exact qn_iret hX (pc := 130) dX8_trading_130 hE hR_m1 r_x6 (Option.some.inj h)
  · have h := ite_f h c3
    refine qn_aload_n hX (pc := 100) dX8_trading_100 1 rfl rfl ?_
    refine qn_getR hX (pc := 101) fd_X8_trading_7 dX8_trading_101 k_x0 ?_
    refine qn_bipush hX (pc := 104) dX8_trading_104 (by decide) ?_
    refine qn_iload_n hX (pc := 106) dX8_trading_106 3 rfl rfl ?_
    obtain ⟨v4, e_v4, r_v4, h⟩ := ckI_e h
    refine qn_iadd hX (pc := 107) dX8_trading_107 e_v4 ?_
    refine qn_aload_n hX (pc := 108) dX8_trading_108 1 rfl rfl ?_
    refine qn_getI hX (pc := 109) fd_X8_trading_73 dX8_trading_109 k_x0 ?_
    obtain ⟨m5, e_m5, b_m5, h⟩ := wrA_e h
    refine qn_iast hX (pc := 112) 684 dX8_trading_112 (qr_800 hT k_x0) (by decide) b_m5 hR_m1 (hR_m1.i 811 _ rfl) e_m5 (fun hR_m5 => ?_) 
    refine qn_aload_n hX (pc := 113) dX8_trading_113 1 rfl rfl ?_
    refine qn_getR hX (pc := 114) fd_X8_trading_7 dX8_trading_114 k_x0 ?_
    refine qn_bipush hX (pc := 117) dX8_trading_117 (by decide) ?_
    refine qn_iload_n hX (pc := 119) dX8_trading_119 3 rfl rfl ?_
    obtain ⟨v6, e_v6, r_v6, h⟩ := ckI_e h
    refine qn_iadd hX (pc := 120) dX8_trading_120 e_v6 ?_
    refine qn_aload_n hX (pc := 121) dX8_trading_121 1 rfl rfl ?_
    refine qn_getR hX (pc := 122) fd_X8_trading_7 dX8_trading_122 k_x0 ?_
    refine qn_iconst hX (pc := 125) dX8_trading_125 ?_
    refine qn_iald hX (pc := 126) (v := gA m5 (gR (xG X) 800 x0) 0) 684 dX8_trading_126 (qr_800 hT k_x0) (by decide) (by decide) rfl ?_
    obtain ⟨m7, e_m7, b_m7, h⟩ := wrA_e h
    refine qn_iast hX (pc := 127) 684 dX8_trading_127 (qr_800 hT k_x0) (by decide) b_m7 hR_m5 (hR_m5.a (n := 684) _ (qr_800 hT k_x0) (by decide)) e_m7 (fun hR_m7 => ?_) 
    refine qn_iload hX (pc := 128) dX8_trading_128 6 rfl ?_
    exact qn_iret hX (pc := 130) dX8_trading_130 hE hR_m7 r_x6 (Option.some.inj h)
set_option maxHeartbeats 4000000 in
set_option maxRecDepth 20000 in
theorem w_X8_trading_77 {X : qB} {N : Nat} (hX : qOk X cX8_trading RX8 9 (some .int) wsX8_trading 5 122) {r : Int} {nu : qM} (hE : xr X = some (.int (iZ r)) ∧ (in32 r → xΦ X) ∧ xμ X = nu) 
    {x0 : Nat} {x1 : Int} {x2 : Int} {x3 : Int} {x4 : Int} {x6 : Int} (k_x0 : gK (xG X) x0 = 9) (r_x1 : in32 x1) (r_x2 : in32 x2) (r_x3 : in32 x3) (r_x4 : in32 x4) (r_x6 : in32 x6) {m0 : qM} (hR_m0 : qR (xG X) m0)
    (h : f_X8_trading_77 N (xG X)  x0 x1 x2 x3 x4 x6 m0 = some (r, nu)) : qN X 9 77 [(0, .ref x0), (1, .int (iZ x1)), (2, .int (iZ x2)), (3, .int (iZ x3)), (4, .int (iZ x4)), (6, .int (iZ x6))] [] m0 := by
  have hT := hX.T
  unfold f_X8_trading_77 at h
  refine qn_iconst hX (pc := 77) dX8_trading_77 ?_
  refine qn_sub (ls' := [(0, .ref x0), (1, .int (iZ x1)), (2, .int (iZ x2)), (3, .int (iZ x3)), (4, .int (iZ x4)), (6, .int (iZ x6))]) [0, 1, 2, 3, 4, 5] rfl ?_
  exact w_X8_trading_78 hX hE  k_x0 r_x1 r_x2 r_x3 r_x4 r_x6 (by decide) hR_m0 h
set_option maxHeartbeats 4000000 in
set_option maxRecDepth 20000 in
theorem w_X8_trading_73 {X : qB} {N : Nat} (hX : qOk X cX8_trading RX8 9 (some .int) wsX8_trading 5 122) {r : Int} {nu : qM} (hE : xr X = some (.int (iZ r)) ∧ (in32 r → xΦ X) ∧ xμ X = nu) 
    {x0 : Nat} {x1 : Int} {x2 : Int} {x3 : Int} {x4 : Int} {x6 : Int} (k_x0 : gK (xG X) x0 = 9) (r_x1 : in32 x1) (r_x2 : in32 x2) (r_x3 : in32 x3) (r_x4 : in32 x4) (r_x6 : in32 x6) {m0 : qM} (hR_m0 : qR (xG X) m0)
    (h : f_X8_trading_73 N (xG X)  x0 x1 x2 x3 x4 x6 m0 = some (r, nu)) : qN X 9 73 [(0, .ref x0), (1, .int (iZ x1)), (2, .int (iZ x2)), (3, .int (iZ x3)), (4, .int (iZ x4)), (6, .int (iZ x6))] [] m0 := by
  have hT := hX.T
  unfold f_X8_trading_73 at h
  refine qn_iconst hX (pc := 73) dX8_trading_73 ?_
  refine qn_goto hX (pc := 74) 78 dX8_trading_74 (by decide) ?_
  refine qn_sub (ls' := [(0, .ref x0), (1, .int (iZ x1)), (2, .int (iZ x2)), (3, .int (iZ x3)), (4, .int (iZ x4)), (6, .int (iZ x6))]) [0, 1, 2, 3, 4, 5] rfl ?_
  exact w_X8_trading_78 hX hE  k_x0 r_x1 r_x2 r_x3 r_x4 r_x6 (by decide) hR_m0 h
set_option maxHeartbeats 4000000 in
set_option maxRecDepth 20000 in
theorem w_X8_trading {X : qB} {N : Nat} (hX : qOk X cX8_trading RX8 9 (some .int) wsX8_trading 5 122) {r : Int} {nu : qM} (hE : xr X = some (.int (iZ r)) ∧ (in32 r → xΦ X) ∧ xμ X = nu) 
    {x0 : Nat} {x1 : Int} {x2 : Int} {x3 : Int} {x4 : Int} {x5 : Int} (k_x0 : gK (xG X) x0 = 9) (r_x1 : in32 x1) (r_x2 : in32 x2) (r_x3 : in32 x3) (r_x4 : in32 x4) (r_x5 : in32 x5) {m0 : qM} (hR_m0 : qR (xG X) m0)
    (h : f_X8_trading N (xG X)  x0 x1 x2 x3 x4 x5 m0 = some (r, nu)) : qN X 9 0 [(0, .ref x0), (1, .int (iZ x1)), (2, .int (iZ x2)), (3, .int (iZ x3)), (4, .int (iZ x4)), (5, .int (iZ x5))] [] m0 := by
  have hT := hX.T
  unfold f_X8_trading at h
  refine qn_aload_n hX (pc := 0) dX8_trading_0 0 rfl rfl ?_
  refine qn_iload_n hX (pc := 1) dX8_trading_1 1 rfl rfl ?_
  refine qn_iload_n hX (pc := 2) dX8_trading_2 2 rfl rfl ?_
  obtain ⟨m1, e_m1, h⟩ := kb_e h
  refine qn_callVv hX (pc := 3) [.int (iZ x1), .int (iZ x2)] [.int (iZ x2), .int (iZ x1)] 2 dX8_trading_3 gX8_trading_X8_comes rfl dd_X8_comes ⟨rfl, rfl⟩ rfl rfl (by decide) k_x0 rfl rfl hR_m0 (k_X8_comes (xl X) hT k_x0 r_x1 r_x2 e_m1) (fun r_v2 hR_m1 => ?_)
  refine qn_aload_n hX (pc := 6) dX8_trading_6 0 rfl rfl ?_
  refine qn_iload_n hX (pc := 7) dX8_trading_7 3 rfl rfl ?_
  refine qn_iload hX (pc := 8) dX8_trading_8 4 rfl ?_
  refine qn_iload hX (pc := 10) dX8_trading_10 5 rfl ?_
  obtain ⟨v4, m3, e_m3, h⟩ := kb2_e h
  refine qn_callVi hX (pc := 12) [.int (iZ x3), .int (iZ x4), .int (iZ x5)] [.int (iZ x5), .int (iZ x4), .int (iZ x3)] 3 dX8_trading_12 gX8_trading_X8_meets rfl dd_X8_meets ⟨rfl, rfl⟩ rfl rfl (by decide) k_x0 rfl rfl hR_m1 (k_X8_meets (xl X) hT k_x0 r_x3 r_x4 r_x5 e_m3) (fun r_v4 hR_m3 => ?_)
  refine qn_istore hX (pc := 15) (ls' := [(6, .int (iZ v4)), (0, .ref x0), (1, .int (iZ x1)), (2, .int (iZ x2)), (3, .int (iZ x3)), (4, .int (iZ x4)), (5, .int (iZ x5))]) dX8_trading_15 rfl rfl ?_
  refine qn_iload hX (pc := 17) dX8_trading_17 0 rfl ?_
  refine qn_if_eq hX (pc := 19) r_v4 33 dX8_trading_19 (by decide) (fun c5 => ?_) (fun c5 => ?_)
  · have h := ite_t h c5
    refine qn_iconst hX (pc := 33) dX8_trading_33 ?_
    exact qn_iret hX (pc := 34) dX8_trading_34 hE hR_m3 (by decide) (Option.some.inj h)
  · have h := ite_f h c5
    refine qn_aload_n hX (pc := 22) dX8_trading_22 1 rfl rfl ?_
    refine qn_getR hX (pc := 23) fd_X8_trading_7 dX8_trading_23 k_x0 ?_
    refine qn_iconst hX (pc := 26) dX8_trading_26 ?_
    refine qn_iald hX (pc := 27) (v := gA m3 (gR (xG X) 800 x0) 5) 684 dX8_trading_27 (qr_800 hT k_x0) (by decide) (by decide) rfl ?_
    refine qn_bipush hX (pc := 28) dX8_trading_28 (by decide) ?_
    refine qn_icmp_ne hX (pc := 30) (hR_m3.a (n := 684) _ (qr_800 hT k_x0) (by decide)) (by decide) 35 dX8_trading_30 (by decide) (fun c6 => ?_) (fun c6 => ?_)
    · have h := ite_f h c6
      refine qn_aload_n hX (pc := 35) dX8_trading_35 1 rfl rfl ?_
      refine qn_iload_n hX (pc := 36) dX8_trading_36 3 rfl rfl ?_
      obtain ⟨v8, m7, e_m7, h⟩ := kb2_e h
      refine qn_callVi hX (pc := 37) [.int (iZ x2)] [.int (iZ x2)] 1 dX8_trading_37 gX8_trading_X8_bestOf rfl dd_X8_bestOf ⟨rfl, rfl⟩ rfl rfl (by decide) k_x0 rfl rfl hR_m3 (k_X8_bestOf (xl X) hT k_x0 r_x2 e_m7) (fun r_v8 hR_m7 => ?_)
      refine qn_istore hX (pc := 40) (ls' := [(7, .int (iZ v8)), (6, .int (iZ v4)), (0, .ref x0), (1, .int (iZ x1)), (2, .int (iZ x2)), (3, .int (iZ x3)), (4, .int (iZ x4)), (5, .int (iZ x5))]) dX8_trading_40 rfl rfl ?_
      refine qn_iload hX (pc := 42) dX8_trading_42 1 rfl ?_
      refine qn_iload hX (pc := 44) dX8_trading_44 6 rfl ?_
      refine qn_icmp_ne hX (pc := 46) r_v4 r_x4 77 dX8_trading_46 (by decide) (fun c9 => ?_) (fun c9 => ?_)
      · have h := ite_f h c9
        refine qn_sub (ls' := [(0, .ref x0), (1, .int (iZ x1)), (2, .int (iZ x2)), (3, .int (iZ x3)), (4, .int (iZ x4)), (6, .int (iZ v4))]) [2, 3, 4, 5, 6, 1] rfl ?_
        exact w_X8_trading_77 hX hE  k_x0 r_x1 r_x2 r_x3 r_x4 r_v4 hR_m7 h
      · have h := ite_t h c9
        refine qn_aload_n hX (pc := 49) dX8_trading_49 2 rfl rfl ?_
        refine qn_getR hX (pc := 50) fd_X8_trading_7 dX8_trading_50 k_x0 ?_
        refine qn_iconst hX (pc := 53) dX8_trading_53 ?_
        refine qn_iald hX (pc := 54) (v := gA m7 (gR (xG X) 800 x0) 0) 684 dX8_trading_54 (qr_800 hT k_x0) (by decide) (by decide) rfl ?_
        refine qn_if_le hX (pc := 55) (hR_m7.a (n := 684) _ (qr_800 hT k_x0) (by decide)) 77 dX8_trading_55 (by decide) (fun c10 => ?_) (fun c10 => ?_)
        · have h := ite_f h c10
          refine qn_sub (ls' := [(0, .ref x0), (1, .int (iZ x1)), (2, .int (iZ x2)), (3, .int (iZ x3)), (4, .int (iZ x4)), (6, .int (iZ v4))]) [2, 3, 4, 5, 6, 1] rfl ?_
          exact w_X8_trading_77 hX hE  k_x0 r_x1 r_x2 r_x3 r_x4 r_v4 hR_m7 h
        · have h := ite_t h c10
          refine qn_iload hX (pc := 58) dX8_trading_58 0 rfl ?_
          refine qn_if_eq hX (pc := 60) r_v8 73 dX8_trading_60 (by decide) (fun c11 => ?_) (fun c11 => ?_)
          · have h := ite_t h c11
            refine qn_sub (ls' := [(0, .ref x0), (1, .int (iZ x1)), (2, .int (iZ x2)), (3, .int (iZ x3)), (4, .int (iZ x4)), (6, .int (iZ v4))]) [2, 3, 4, 5, 6, 1] rfl ?_
            exact w_X8_trading_73 hX hE  k_x0 r_x1 r_x2 r_x3 r_x4 r_v4 hR_m7 h
          · have h := ite_f h c11
            refine qn_iload_n hX (pc := 63) dX8_trading_63 4 rfl rfl ?_
            refine qn_iload_n hX (pc := 64) dX8_trading_64 5 rfl rfl ?_
            refine qn_iload hX (pc := 65) dX8_trading_65 0 rfl ?_
            obtain ⟨v13, m12, e_m12, h⟩ := kb2_e h
            refine qn_callSi hX (pc := 67) [.int (iZ x2), .int (iZ x3), .int (iZ v8)] [.int (iZ v8), .int (iZ x3), .int (iZ x2)] 3 dX8_trading_67 gX8_trading_X8_isBetter rfl dd_X8_isBetter ⟨rfl, rfl⟩ rfl rfl rfl hR_m7 (k_X8_isBetter (xl X) hT r_x2 r_x3 r_v8 e_m12) (fun r_v13 hR_m12 => ?_)
            refine qn_if_eq hX (pc := 70) r_v13.i 77 dX8_trading_70 (by decide) (fun c14 => ?_) (fun c14 => ?_)
            · have h := ite_t h c14
              refine qn_sub (ls' := [(0, .ref x0), (1, .int (iZ x1)), (2, .int (iZ x2)), (3, .int (iZ x3)), (4, .int (iZ x4)), (6, .int (iZ v4))]) [2, 3, 4, 5, 6, 1] rfl ?_
              exact w_X8_trading_77 hX hE  k_x0 r_x1 r_x2 r_x3 r_x4 r_v4 hR_m12 h
            · have h := ite_f h c14
              refine qn_sub (ls' := [(0, .ref x0), (1, .int (iZ x1)), (2, .int (iZ x2)), (3, .int (iZ x3)), (4, .int (iZ x4)), (6, .int (iZ v4))]) [2, 3, 4, 5, 6, 1] rfl ?_
              exact w_X8_trading_73 hX hE  k_x0 r_x1 r_x2 r_x3 r_x4 r_v4 hR_m12 h
    · have h := ite_t h c6
      refine qn_iconst hX (pc := 33) dX8_trading_33 ?_
      exact qn_iret hX (pc := 34) dX8_trading_34 hE hR_m3 (by decide) (Option.some.inj h)
theorem k_X8_trading (l : Launch) {G : qG} (hT : qT G) {N : Nat} {x0 : Nat} {x1 : Int} {x2 : Int} {x3 : Int} {x4 : Int} {x5 : Int} (k_x0 : gK G x0 = 9) (r_x1 : in32 x1) (r_x2 : in32 x2) (r_x3 : in32 x3) (r_x4 : in32 x4) (r_x5 : in32 x5) {m0 : qM} {r : Int} {nu : qM} (h : f_X8_trading N G x0 x1 x2 x3 x4 x5 m0 = some (r, nu)) : qC l yX8_trading wsX8_trading 5 122 G [.ref x0, .int (iZ x1), .int (iZ x2), .int (iZ x3), .int (iZ x4), .int (iZ x5)] m0 (some (.int (iZ r))) (in32 r) nu := by
  refine qn_start (hy := by decide) hT (hw := rfl) (hn := Nat.le_of_ble_eq_true rfl) ?_
  intro X h1 h2 h3 h4 hX hR
  subst h4
  exact w_X8_trading hX ⟨h1, fun q => h2 ▸ q, h3⟩ k_x0 r_x1 r_x2 r_x3 r_x4 r_x5 hR h
theorem dd_X8_trading : yX8_trading.cls = RX8 ∧ yX8_trading.cls ≠ "java/lang/invoke/MethodHandle" ∧ yX8_trading.cls ≠ "java/lang/invoke/VarHandle" ∧ (parseMethodDescriptor yX8_trading.desc).map (fun d => d.parameters.length) = some 5 := by decide +kernel
-- ProRataMarketModel.orders
theorem hi_X8_orders_8 : ∀ w ∈ wsX80, w ∈ wsX8_orders := fun w h => List.mem_cons_of_mem _ (List.mem_append_right _ h)
theorem fd_X8_orders_7 : qFd RX8 wsX8_orders 7 8 0 1 800 := ⟨RX8, TX8, 32, _, rfl, hi_X8_orders_8, by decide, (by decide +kernel : Cond.fieldLink RX8 7 (TX8 0).1 (TX8 0).2.1 (TX8 0).2.2.1 ∈ wsX8_orders), rfl, rfl, by decide⟩
theorem fd_X8_orders_73 : qFd RX8 wsX8_orders 73 8 11 0 811 := ⟨RX8, TX8, 32, _, rfl, hi_X8_orders_8, by decide, (by decide +kernel : Cond.fieldLink RX8 73 (TX8 11).1 (TX8 11).2.1 (TX8 11).2.2.1 ∈ wsX8_orders), rfl, rfl, by decide⟩
set_option maxHeartbeats 4000000 in
set_option maxRecDepth 20000 in
theorem w_X8_orders {X : qB} {N : Nat} (hX : qOk X cX8_orders RX8 7 (some .int) wsX8_orders 6 150) {r : Int} {nu : qM} (hE : xr X = some (.int (iZ r)) ∧ (in32 r → xΦ X) ∧ xμ X = nu) 
    {x0 : Nat} {x1 : Int} {x2 : Int} {x3 : Int} {x4 : Int} {x5 : Int} (k_x0 : gK (xG X) x0 = 9) (r_x1 : in32 x1) (r_x2 : in32 x2) (r_x3 : in32 x3) (r_x4 : in32 x4) (r_x5 : in32 x5) {m0 : qM} (hR_m0 : qR (xG X) m0)
    (h : f_X8_orders N (xG X)  x0 x1 x2 x3 x4 x5 m0 = some (r, nu)) : qN X 7 0 [(0, .ref x0), (1, .int (iZ x1)), (2, .int (iZ x2)), (3, .int (iZ x3)), (4, .int (iZ x4)), (5, .int (iZ x5))] [] m0 := by
  have hT := hX.T
  unfold f_X8_orders at h
  refine qn_aload_n hX (pc := 0) dX8_orders_0 0 rfl rfl ?_
  refine qn_getR hX (pc := 1) fd_X8_orders_7 dX8_orders_1 k_x0 ?_
  refine qn_iconst hX (pc := 4) dX8_orders_4 ?_
  refine qn_iald hX (pc := 5) (v := gA m0 (gR (xG X) 800 x0) 2) 684 dX8_orders_5 (qr_800 hT k_x0) (by decide) (by decide) rfl ?_
  refine qn_if_ne hX (pc := 6) (hR_m0.a (n := 684) _ (qr_800 hT k_x0) (by decide)) 36 dX8_orders_6 (by decide) (fun c1 => ?_) (fun c1 => ?_)
  · have h := ite_f h c1
    refine qn_aload_n hX (pc := 36) dX8_orders_36 0 rfl rfl ?_
    refine qn_getR hX (pc := 37) fd_X8_orders_7 dX8_orders_37 k_x0 ?_
    refine qn_iconst hX (pc := 40) dX8_orders_40 ?_
    refine qn_iald hX (pc := 41) (v := gA m0 (gR (xG X) 800 x0) 5) 684 dX8_orders_41 (qr_800 hT k_x0) (by decide) (by decide) rfl ?_
    refine qn_bipush hX (pc := 42) dX8_orders_42 (by decide) ?_
    refine qn_icmp_ne hX (pc := 44) (hR_m0.a (n := 684) _ (qr_800 hT k_x0) (by decide)) (by decide) 50 dX8_orders_44 (by decide) (fun c2 => ?_) (fun c2 => ?_)
    · have h := ite_f h c2
      refine qn_aload_n hX (pc := 50) dX8_orders_50 0 rfl rfl ?_
      refine qn_iload_n hX (pc := 51) dX8_orders_51 1 rfl rfl ?_
      refine qn_iload_n hX (pc := 52) dX8_orders_52 2 rfl rfl ?_
      obtain ⟨m3, e_m3, h⟩ := kb_e h
      refine qn_callVv hX (pc := 53) [.int (iZ x1), .int (iZ x2)] [.int (iZ x2), .int (iZ x1)] 2 dX8_orders_53 gX8_orders_X8_comes rfl dd_X8_comes ⟨rfl, rfl⟩ rfl rfl (by decide) k_x0 rfl rfl hR_m0 (k_X8_comes (xl X) hT k_x0 r_x1 r_x2 e_m3) (fun r_v4 hR_m3 => ?_)
      refine qn_aload_n hX (pc := 56) dX8_orders_56 0 rfl rfl ?_
      refine qn_aload_n hX (pc := 57) dX8_orders_57 0 rfl rfl ?_
      refine qn_getI hX (pc := 58) fd_X8_orders_73 dX8_orders_58 k_x0 ?_
      refine qn_iload_n hX (pc := 61) dX8_orders_61 1 rfl rfl ?_
      refine qn_iload_n hX (pc := 62) dX8_orders_62 2 rfl rfl ?_
      refine qn_iload_n hX (pc := 63) dX8_orders_63 3 rfl rfl ?_
      refine qn_iload hX (pc := 64) dX8_orders_64 4 rfl ?_
      refine qn_iload hX (pc := 66) dX8_orders_66 4 rfl ?_
      obtain ⟨m5, e_m5, h⟩ := kb_e h
      refine qn_callVv hX (pc := 68) [.int (iZ (gI m3 811 x0)), .int (iZ x1), .int (iZ x2), .int (iZ x3), .int (iZ x4), .int (iZ x4)] [.int (iZ x4), .int (iZ x4), .int (iZ x3), .int (iZ x2), .int (iZ x1), .int (iZ (gI m3 811 x0))] 6 dX8_orders_68 gX8_orders_X8_rests rfl dd_X8_rests ⟨rfl, rfl⟩ rfl rfl (by decide) k_x0 rfl rfl hR_m3 (k_X8_rests (xl X) hT k_x0 (hR_m3.i 811 _ rfl) r_x1 r_x2 r_x3 r_x4 r_x4 e_m5) (fun r_v6 hR_m5 => ?_)
      refine qn_aload_n hX (pc := 71) dX8_orders_71 0 rfl rfl ?_
      refine qn_getI hX (pc := 72) fd_X8_orders_73 dX8_orders_72 k_x0 ?_
      exact qn_iret hX (pc := 75) dX8_orders_75 hE hR_m5 (hR_m5.i 811 _ rfl) (Option.some.inj h)
    · have h := ite_t h c2
      refine qn_bipush hX (pc := 47) dX8_orders_47 (by decide) ?_
      exact qn_iret hX (pc := 49) dX8_orders_49 hE hR_m0 (by decide) (Option.some.inj h)
  · have h := ite_t h c1
    refine qn_aload_n hX (pc := 9) dX8_orders_9 0 rfl rfl ?_
    refine qn_iload_n hX (pc := 10) dX8_orders_10 1 rfl rfl ?_
    refine qn_iload_n hX (pc := 11) dX8_orders_11 2 rfl rfl ?_
    refine qn_iload_n hX (pc := 12) dX8_orders_12 3 rfl rfl ?_
    refine qn_iload hX (pc := 13) dX8_orders_13 4 rfl ?_
    refine qn_iload hX (pc := 15) dX8_orders_15 5 rfl ?_
    obtain ⟨v8, m7, e_m7, h⟩ := kb2_e h
    refine qn_callVi hX (pc := 17) [.int (iZ x1), .int (iZ x2), .int (iZ x3), .int (iZ x4), .int (iZ x5)] [.int (iZ x5), .int (iZ x4), .int (iZ x3), .int (iZ x2), .int (iZ x1)] 5 dX8_orders_17 gX8_orders_X8_trading rfl dd_X8_trading ⟨rfl, rfl⟩ rfl rfl (by decide) k_x0 rfl rfl hR_m0 (k_X8_trading (xl X) hT k_x0 r_x1 r_x2 r_x3 r_x4 r_x5 e_m7) (fun r_v8 hR_m7 => ?_)
    refine qn_istore hX (pc := 20) (ls' := [(6, .int (iZ v8)), (0, .ref x0), (1, .int (iZ x1)), (2, .int (iZ x2)), (3, .int (iZ x3)), (4, .int (iZ x4)), (5, .int (iZ x5))]) dX8_orders_20 rfl rfl ?_
    refine qn_iload hX (pc := 22) dX8_orders_22 0 rfl ?_
    refine qn_if_lt hX (pc := 24) r_v8 34 dX8_orders_24 (by decide) (fun c9 => ?_) (fun c9 => ?_)
    · have h := ite_t h c9
      refine qn_iconst hX (pc := 34) dX8_orders_34 ?_
      exact qn_iret hX (pc := 35) dX8_orders_35 hE hR_m7 (by decide) (Option.some.inj h)
    · have h := ite_f h c9
      refine qn_aload_n hX (pc := 27) dX8_orders_27 1 rfl rfl ?_
      refine qn_getI hX (pc := 28) fd_X8_orders_73 dX8_orders_28 k_x0 ?_
      refine qn_goto hX (pc := 31) 35 dX8_orders_31 (by decide) ?_
      exact qn_iret hX (pc := 35) dX8_orders_35 hE hR_m7 (hR_m7.i 811 _ rfl) (Option.some.inj h)
theorem k_X8_orders (l : Launch) {G : qG} (hT : qT G) {N : Nat} {x0 : Nat} {x1 : Int} {x2 : Int} {x3 : Int} {x4 : Int} {x5 : Int} (k_x0 : gK G x0 = 9) (r_x1 : in32 x1) (r_x2 : in32 x2) (r_x3 : in32 x3) (r_x4 : in32 x4) (r_x5 : in32 x5) {m0 : qM} {r : Int} {nu : qM} (h : f_X8_orders N G x0 x1 x2 x3 x4 x5 m0 = some (r, nu)) : qC l yX8_orders wsX8_orders 6 150 G [.ref x0, .int (iZ x1), .int (iZ x2), .int (iZ x3), .int (iZ x4), .int (iZ x5)] m0 (some (.int (iZ r))) (in32 r) nu := by
  refine qn_start (hy := by decide) hT (hw := rfl) (hn := Nat.le_of_ble_eq_true rfl) ?_
  intro X h1 h2 h3 h4 hX hR
  subst h4
  exact w_X8_orders hX ⟨h1, fun q => h2 ▸ q, h3⟩ k_x0 r_x1 r_x2 r_x3 r_x4 r_x5 hR h
theorem dd_X8_orders : yX8_orders.cls = RX8 ∧ yX8_orders.cls ≠ "java/lang/invoke/MethodHandle" ∧ yX8_orders.cls ≠ "java/lang/invoke/VarHandle" ∧ (parseMethodDescriptor yX8_orders.desc).map (fun d => d.parameters.length) = some 5 := by decide +kernel
-- ProRataMarketModel.takesOff
set_option maxHeartbeats 4000000 in
set_option maxRecDepth 20000 in
theorem w_X8_takesOff {X : qB} {N : Nat} (hX : qOk X cX8_takesOff RX8 4 (some .int) wsX8_takesOff 2 45) {r : Int} {nu : qM} (hE : xr X = some (.int (iZ r)) ∧ (in32 r → xΦ X) ∧ xμ X = nu) 
    {x0 : Nat} {x1 : Int} (k_x0 : gK (xG X) x0 = 9) (r_x1 : in32 x1) {m0 : qM} (hR_m0 : qR (xG X) m0)
    (h : f_X8_takesOff N (xG X)  x0 x1 m0 = some (r, nu)) : qN X 4 0 [(0, .ref x0), (1, .int (iZ x1))] [] m0 := by
  have hT := hX.T
  unfold f_X8_takesOff at h
  refine qn_aload_n hX (pc := 0) dX8_takesOff_0 0 rfl rfl ?_
  refine qn_iload_n hX (pc := 1) dX8_takesOff_1 1 rfl rfl ?_
  obtain ⟨v2, m1, e_m1, h⟩ := kb2_e h
  refine qn_callVi hX (pc := 2) [.int (iZ x1)] [.int (iZ x1)] 1 dX8_takesOff_2 gX8_takesOff_X8_placeOf rfl dd_X8_placeOf ⟨rfl, rfl⟩ rfl rfl (by decide) k_x0 rfl rfl hR_m0 (k_X8_placeOf (xl X) hT k_x0 r_x1 e_m1) (fun r_v2 hR_m1 => ?_)
  refine qn_istore_n hX (pc := 5) (ls' := [(2, .int (iZ v2)), (0, .ref x0), (1, .int (iZ x1))]) dX8_takesOff_5 rfl rfl rfl ?_
  refine qn_iload_n hX (pc := 6) dX8_takesOff_6 0 rfl rfl ?_
  refine qn_if_ge hX (pc := 7) r_v2 12 dX8_takesOff_7 (by decide) (fun c3 => ?_) (fun c3 => ?_)
  · have h := ite_f h c3
    refine qn_aload_n hX (pc := 12) dX8_takesOff_12 1 rfl rfl ?_
    refine qn_iload_n hX (pc := 13) dX8_takesOff_13 0 rfl rfl ?_
    refine qn_iconst hX (pc := 14) dX8_takesOff_14 ?_
    obtain ⟨v5, m4, e_m4, h⟩ := kb2_e h
    refine qn_callVi hX (pc := 15) [.int (iZ v2), .int (iZ 4)] [.int (iZ 4), .int (iZ v2)] 2 dX8_takesOff_15 gX8_takesOff_X8_ofOrder rfl dd_X8_ofOrder ⟨rfl, rfl⟩ rfl rfl (by decide) k_x0 rfl rfl hR_m1 (k_X8_ofOrder (xl X) hT k_x0 r_v2 (by decide) e_m4) (fun r_v5 hR_m4 => ?_)
    refine qn_istore_n hX (pc := 18) (ls' := [(3, .int (iZ v5)), (2, .int (iZ v2)), (0, .ref x0), (1, .int (iZ x1))]) dX8_takesOff_18 rfl rfl rfl ?_
    refine qn_aload_n hX (pc := 19) dX8_takesOff_19 2 rfl rfl ?_
    refine qn_iload_n hX (pc := 20) dX8_takesOff_20 1 rfl rfl ?_
    obtain ⟨m6, e_m6, h⟩ := kb_e h
    refine qn_callVv hX (pc := 21) [.int (iZ v2)] [.int (iZ v2)] 1 dX8_takesOff_21 gX8_takesOff_X8_goes rfl dd_X8_goes ⟨rfl, rfl⟩ rfl rfl (by decide) k_x0 rfl rfl hR_m4 (k_X8_goes (xl X) hT k_x0 r_v2 e_m6) (fun r_v7 hR_m6 => ?_)
    refine qn_iload_n hX (pc := 24) dX8_takesOff_24 0 rfl rfl ?_
    exact qn_iret hX (pc := 25) dX8_takesOff_25 hE hR_m6 r_v5 (Option.some.inj h)
  · have h := ite_t h c3
    refine qn_iconst hX (pc := 10) dX8_takesOff_10 ?_
    exact qn_iret hX (pc := 11) dX8_takesOff_11 hE hR_m1 (by decide) (Option.some.inj h)
theorem k_X8_takesOff (l : Launch) {G : qG} (hT : qT G) {N : Nat} {x0 : Nat} {x1 : Int} (k_x0 : gK G x0 = 9) (r_x1 : in32 x1) {m0 : qM} {r : Int} {nu : qM} (h : f_X8_takesOff N G x0 x1 m0 = some (r, nu)) : qC l yX8_takesOff wsX8_takesOff 2 45 G [.ref x0, .int (iZ x1)] m0 (some (.int (iZ r))) (in32 r) nu := by
  refine qn_start (hy := by decide) hT (hw := rfl) (hn := Nat.le_of_ble_eq_true rfl) ?_
  intro X h1 h2 h3 h4 hX hR
  subst h4
  exact w_X8_takesOff hX ⟨h1, fun q => h2 ▸ q, h3⟩ k_x0 r_x1 hR h
theorem dd_X8_takesOff : yX8_takesOff.cls = RX8 ∧ yX8_takesOff.cls ≠ "java/lang/invoke/MethodHandle" ∧ yX8_takesOff.cls ≠ "java/lang/invoke/VarHandle" ∧ (parseMethodDescriptor yX8_takesOff.desc).map (fun d => d.parameters.length) = some 1 := by decide +kernel
-- ProRataMarketModel.sets
theorem hi_X8_sets_8 : ∀ w ∈ wsX80, w ∈ wsX8_sets := fun w h => List.mem_cons_of_mem _ (List.mem_append_right _ h)
theorem fd_X8_sets_7 : qFd RX8 wsX8_sets 7 8 0 1 800 := ⟨RX8, TX8, 32, _, rfl, hi_X8_sets_8, by decide, (by decide +kernel : Cond.fieldLink RX8 7 (TX8 0).1 (TX8 0).2.1 (TX8 0).2.2.1 ∈ wsX8_sets), rfl, rfl, by decide⟩
set_option maxHeartbeats 4000000 in
set_option maxRecDepth 20000 in
theorem w_X8_sets {X : qB} {N : Nat} (hX : qOk X cX8_sets RX8 6 (some .int) wsX8_sets 1 25) {r : Int} {nu : qM} (hE : xr X = some (.int (iZ r)) ∧ (in32 r → xΦ X) ∧ xμ X = nu) 
    {x0 : Nat} {x1 : Int} {x2 : Int} {x3 : Int} {x4 : Int} (k_x0 : gK (xG X) x0 = 9) (r_x1 : in32 x1) (r_x2 : in32 x2) (r_x3 : in32 x3) (r_x4 : in32 x4) {m0 : qM} (hR_m0 : qR (xG X) m0)
    (h : f_X8_sets N (xG X)  x0 x1 x2 x3 x4 m0 = some (r, nu)) : qN X 6 0 [(0, .ref x0), (1, .int (iZ x1)), (2, .int (iZ x2)), (3, .int (iZ x3)), (4, .int (iZ x4))] [] m0 := by
  have hT := hX.T
  unfold f_X8_sets at h
  refine qn_iload_n hX (pc := 0) dX8_sets_0 2 rfl rfl ?_
  refine qn_i2l hX (pc := 1) r_x2 dX8_sets_1 ?_
  refine qn_iload_n hX (pc := 2) dX8_sets_2 3 rfl rfl ?_
  refine qn_i2l hX (pc := 3) r_x3 dX8_sets_3 ?_
  refine qn_iload hX (pc := 4) dX8_sets_4 4 rfl ?_
  refine qn_i2l hX (pc := 6) r_x4 dX8_sets_6 ?_
  obtain ⟨v2, m1, e_m1, h⟩ := kb2_e h
  refine qn_callSi hX (pc := 7) [.long (lZ x2), .long (lZ x3), .long (lZ x4)] [.long (lZ x4), .long (lZ x3), .long (lZ x2)] 3 dX8_sets_7 gX8_sets_X8_within rfl dd_X8_within ⟨rfl, rfl⟩ rfl rfl rfl hR_m0 (k_X8_within (xl X) hT (in32.l r_x2) (in32.l r_x3) (in32.l r_x4) e_m1) (fun r_v2 hR_m1 => ?_)
  refine qn_if_ne hX (pc := 10) r_v2.i 15 dX8_sets_10 (by decide) (fun c3 => ?_) (fun c3 => ?_)
  · have h := ite_f h c3
    refine qn_aload_n hX (pc := 15) dX8_sets_15 0 rfl rfl ?_
    refine qn_getR hX (pc := 16) fd_X8_sets_7 dX8_sets_16 k_x0 ?_
    refine qn_iload_n hX (pc := 19) dX8_sets_19 1 rfl rfl ?_
    obtain ⟨v4, e_v4, b_v4, h⟩ := rdA_e h
    have r_v4 : in32 v4 := by rw [e_v4]; exact hR_m1.a (n := 684) _ (qr_800 hT k_x0) (by decide)
    refine qn_iald hX (pc := 20) 684 dX8_sets_20 (qr_800 hT k_x0) (by decide) b_v4 e_v4 ?_
    refine qn_istore hX (pc := 21) (ls' := [(5, .int (iZ v4)), (0, .ref x0), (1, .int (iZ x1)), (2, .int (iZ x2)), (3, .int (iZ x3)), (4, .int (iZ x4))]) dX8_sets_21 rfl rfl ?_
    refine qn_aload_n hX (pc := 23) dX8_sets_23 1 rfl rfl ?_
    refine qn_getR hX (pc := 24) fd_X8_sets_7 dX8_sets_24 k_x0 ?_
    refine qn_iload_n hX (pc := 27) dX8_sets_27 2 rfl rfl ?_
    refine qn_iload_n hX (pc := 28) dX8_sets_28 3 rfl rfl ?_
    obtain ⟨m5, e_m5, b_m5, h⟩ := wrA_e h
    refine qn_iast hX (pc := 29) 684 dX8_sets_29 (qr_800 hT k_x0) (by decide) b_m5 hR_m1 r_x2 e_m5 (fun hR_m5 => ?_) 
    refine qn_iload hX (pc := 30) dX8_sets_30 0 rfl ?_
    exact qn_iret hX (pc := 32) dX8_sets_32 hE hR_m5 r_v4 (Option.some.inj h)
  · have h := ite_t h c3
    refine qn_iconst hX (pc := 13) dX8_sets_13 ?_
    exact qn_iret hX (pc := 14) dX8_sets_14 hE hR_m1 (by decide) (Option.some.inj h)
theorem k_X8_sets (l : Launch) {G : qG} (hT : qT G) {N : Nat} {x0 : Nat} {x1 : Int} {x2 : Int} {x3 : Int} {x4 : Int} (k_x0 : gK G x0 = 9) (r_x1 : in32 x1) (r_x2 : in32 x2) (r_x3 : in32 x3) (r_x4 : in32 x4) {m0 : qM} {r : Int} {nu : qM} (h : f_X8_sets N G x0 x1 x2 x3 x4 m0 = some (r, nu)) : qC l yX8_sets wsX8_sets 1 25 G [.ref x0, .int (iZ x1), .int (iZ x2), .int (iZ x3), .int (iZ x4)] m0 (some (.int (iZ r))) (in32 r) nu := by
  refine qn_start (hy := by decide) hT (hw := rfl) (hn := Nat.le_of_ble_eq_true rfl) ?_
  intro X h1 h2 h3 h4 hX hR
  subst h4
  exact w_X8_sets hX ⟨h1, fun q => h2 ▸ q, h3⟩ k_x0 r_x1 r_x2 r_x3 r_x4 hR h
theorem dd_X8_sets : yX8_sets.cls = RX8 ∧ yX8_sets.cls ≠ "java/lang/invoke/MethodHandle" ∧ yX8_sets.cls ≠ "java/lang/invoke/VarHandle" ∧ (parseMethodDescriptor yX8_sets.desc).map (fun d => d.parameters.length) = some 4 := by decide +kernel
-- ProRataMarketModel.opens
theorem hi_X8_opens_8 : ∀ w ∈ wsX80, w ∈ wsX8_opens := fun w h => List.mem_cons_of_mem _ (List.mem_append_right _ h)
theorem fd_X8_opens_23 : qFd RX8 wsX8_opens 23 8 6 1 806 := ⟨RX8, TX8, 32, _, rfl, hi_X8_opens_8, by decide, (by decide +kernel : Cond.fieldLink RX8 23 (TX8 6).1 (TX8 6).2.1 (TX8 6).2.2.1 ∈ wsX8_opens), rfl, rfl, by decide⟩
theorem fd_X8_opens_217 : qFd RX8 wsX8_opens 217 8 18 0 818 := ⟨RX8, TX8, 32, _, rfl, hi_X8_opens_8, by decide, (by decide +kernel : Cond.fieldLink RX8 217 (TX8 18).1 (TX8 18).2.1 (TX8 18).2.2.1 ∈ wsX8_opens), rfl, rfl, by decide⟩
set_option maxHeartbeats 4000000 in
set_option maxRecDepth 20000 in
theorem w_X8_opens {X : qB} {N : Nat} (hX : qOk X cX8_opens RX8 5 none wsX8_opens 1 26) {r : qM} (hE : xr X = none ∧ (True → xΦ X) ∧ xμ X = r) 
    {x0 : Nat} {x1 : Int} {x2 : Int} {x3 : Int} (k_x0 : gK (xG X) x0 = 9) (r_x1 : in32 x1) (r_x2 : in32 x2) (r_x3 : in32 x3) {m0 : qM} (hR_m0 : qR (xG X) m0)
    (h : f_X8_opens N (xG X)  x0 x1 x2 x3 m0 = some r) : qN X 5 0 [(0, .ref x0), (1, .int (iZ x1)), (2, .int (iZ x2)), (3, .int (iZ x3))] [] m0 := by
  have hT := hX.T
  unfold f_X8_opens at h
  refine qn_iload_n hX (pc := 0) dX8_opens_0 2 rfl rfl ?_
  refine qn_if_ne hX (pc := 1) r_x2 5 dX8_opens_1 (by decide) (fun c1 => ?_) (fun c1 => ?_)
  · have h := ite_f h c1
    refine qn_aload_n hX (pc := 5) dX8_opens_5 0 rfl rfl ?_
    refine qn_getR hX (pc := 6) fd_X8_opens_23 dX8_opens_6 k_x0 ?_
    refine qn_iload_n hX (pc := 9) dX8_opens_9 1 rfl rfl ?_
    obtain ⟨v2, e_v2, b_v2, h⟩ := rdA_e h
    have r_v2 : in32 v2 := by rw [e_v2]; exact hR_m0.a (n := 70) _ (qr_806 hT k_x0) (by decide)
    refine qn_iald hX (pc := 10) 70 dX8_opens_10 (qr_806 hT k_x0) (by decide) b_v2 e_v2 ?_
    refine qn_istore hX (pc := 11) (ls' := [(4, .int (iZ v2)), (0, .ref x0), (1, .int (iZ x1)), (2, .int (iZ x2)), (3, .int (iZ x3))]) dX8_opens_11 rfl rfl ?_
    refine qn_aload_n hX (pc := 13) dX8_opens_13 1 rfl rfl ?_
    refine qn_aload_n hX (pc := 14) dX8_opens_14 1 rfl rfl ?_
    refine qn_iload hX (pc := 15) dX8_opens_15 0 rfl ?_
    refine qn_iconst hX (pc := 17) dX8_opens_17 ?_
    obtain ⟨v4, m3, e_m3, h⟩ := kb2_e h
    refine qn_callVi hX (pc := 18) [.int (iZ v2), .int (iZ 0)] [.int (iZ 0), .int (iZ v2)] 2 dX8_opens_18 gX8_opens_X8_ofOrder rfl dd_X8_ofOrder ⟨rfl, rfl⟩ rfl rfl (by decide) k_x0 rfl rfl hR_m0 (k_X8_ofOrder (xl X) hT k_x0 r_v2 (by decide) e_m3) (fun r_v4 hR_m3 => ?_)
    refine qn_iconst hX (pc := 21) dX8_opens_21 ?_
    refine qn_aload_n hX (pc := 22) dX8_opens_22 1 rfl rfl ?_
    refine qn_getI hX (pc := 23) fd_X8_opens_217 dX8_opens_23 k_x0 ?_
    refine qn_iload_n hX (pc := 26) dX8_opens_26 3 rfl rfl ?_
    refine qn_iload_n hX (pc := 27) dX8_opens_27 4 rfl rfl ?_
    obtain ⟨m5, e_m5, h⟩ := kb_e h
    refine qn_callVv hX (pc := 28) [.int (iZ v4), .int (iZ 0), .int (iZ (gI m3 818 x0)), .int (iZ x2), .int (iZ x3)] [.int (iZ x3), .int (iZ x2), .int (iZ (gI m3 818 x0)), .int (iZ 0), .int (iZ v4)] 5 dX8_opens_28 gX8_opens_X8_tells rfl dd_X8_tells ⟨rfl, rfl⟩ rfl rfl (by decide) k_x0 rfl rfl hR_m3 (k_X8_tells (xl X) hT k_x0 r_v4 (by decide) (hR_m3.i 818 _ rfl) r_x2 r_x3 e_m5) (fun r_v6 hR_m5 => ?_)
    refine qn_aload_n hX (pc := 31) dX8_opens_31 1 rfl rfl ?_
    refine qn_aload_n hX (pc := 32) dX8_opens_32 1 rfl rfl ?_
    refine qn_iload hX (pc := 33) dX8_opens_33 0 rfl ?_
    refine qn_iconst hX (pc := 35) dX8_opens_35 ?_
    obtain ⟨v8, m7, e_m7, h⟩ := kb2_e h
    refine qn_callVi hX (pc := 36) [.int (iZ v2), .int (iZ 1)] [.int (iZ 1), .int (iZ v2)] 2 dX8_opens_36 gX8_opens_X8_ofOrder rfl dd_X8_ofOrder ⟨rfl, rfl⟩ rfl rfl (by decide) k_x0 rfl rfl hR_m5 (k_X8_ofOrder (xl X) hT k_x0 r_v2 (by decide) e_m7) (fun r_v8 hR_m7 => ?_)
    refine qn_aload_n hX (pc := 39) dX8_opens_39 1 rfl rfl ?_
    refine qn_iload hX (pc := 40) dX8_opens_40 0 rfl ?_
    refine qn_iconst hX (pc := 42) dX8_opens_42 ?_
    obtain ⟨v10, m9, e_m9, h⟩ := kb2_e h
    refine qn_callVi hX (pc := 43) [.int (iZ v2), .int (iZ 2)] [.int (iZ 2), .int (iZ v2)] 2 dX8_opens_43 gX8_opens_X8_ofOrder rfl dd_X8_ofOrder ⟨rfl, rfl⟩ rfl rfl (by decide) k_x0 rfl rfl hR_m7 (k_X8_ofOrder (xl X) hT k_x0 r_v2 (by decide) e_m9) (fun r_v10 hR_m9 => ?_)
    refine qn_aload_n hX (pc := 46) dX8_opens_46 1 rfl rfl ?_
    refine qn_getI hX (pc := 47) fd_X8_opens_217 dX8_opens_47 k_x0 ?_
    refine qn_iload_n hX (pc := 50) dX8_opens_50 3 rfl rfl ?_
    obtain ⟨m11, e_m11, h⟩ := kb_e h
    refine qn_callVv hX (pc := 51) [.int (iZ v8), .int (iZ v10), .int (iZ (gI m9 818 x0)), .int (iZ x2)] [.int (iZ x2), .int (iZ (gI m9 818 x0)), .int (iZ v10), .int (iZ v8)] 4 dX8_opens_51 gX8_opens_X8_moves rfl dd_X8_moves ⟨rfl, rfl⟩ rfl rfl (by decide) k_x0 rfl rfl hR_m9 (k_X8_moves (xl X) hT k_x0 r_v8 r_v10 (hR_m9.i 818 _ rfl) r_x2 e_m11) (fun r_v12 hR_m11 => ?_)
    exact qn_vret hX (pc := 54) dX8_opens_54 hE hR_m11 (Option.some.inj h)
  · have h := ite_t h c1
    exact qn_vret hX (pc := 4) dX8_opens_4 hE hR_m0 (Option.some.inj h)
theorem k_X8_opens (l : Launch) {G : qG} (hT : qT G) {N : Nat} {x0 : Nat} {x1 : Int} {x2 : Int} {x3 : Int} (k_x0 : gK G x0 = 9) (r_x1 : in32 x1) (r_x2 : in32 x2) (r_x3 : in32 x3) {m0 : qM} {r : qM} (h : f_X8_opens N G x0 x1 x2 x3 m0 = some r) : qC l yX8_opens wsX8_opens 1 26 G [.ref x0, .int (iZ x1), .int (iZ x2), .int (iZ x3)] m0 none True r := by
  refine qn_start (hy := by decide) hT (hw := rfl) (hn := Nat.le_of_ble_eq_true rfl) ?_
  intro X h1 h2 h3 h4 hX hR
  subst h4
  exact w_X8_opens hX ⟨h1, fun q => h2 ▸ q, h3⟩ k_x0 r_x1 r_x2 r_x3 hR h
theorem dd_X8_opens : yX8_opens.cls = RX8 ∧ yX8_opens.cls ≠ "java/lang/invoke/MethodHandle" ∧ yX8_opens.cls ≠ "java/lang/invoke/VarHandle" ∧ (parseMethodDescriptor yX8_opens.desc).map (fun d => d.parameters.length) = some 3 := by decide +kernel
