-- ProRataMarketModel.opensSide
theorem hi_X8_opensSide_8 : ∀ w ∈ wsX80, w ∈ wsX8_opensSide := fun w h => List.mem_cons_of_mem _ (List.mem_append_right _ h)
theorem fd_X8_opensSide_68 : qFd RX8 wsX8_opensSide 68 8 5 0 805 := ⟨RX8, TX8, 32, _, rfl, hi_X8_opensSide_8, by decide, (by decide +kernel : Cond.fieldLink RX8 68 (TX8 5).1 (TX8 5).2.1 (TX8 5).2.2.1 ∈ wsX8_opensSide), rfl, rfl, by decide⟩
theorem fd_X8_opensSide_35 : qFd RX8 wsX8_opensSide 35 8 10 1 810 := ⟨RX8, TX8, 32, _, rfl, hi_X8_opensSide_8, by decide, (by decide +kernel : Cond.fieldLink RX8 35 (TX8 10).1 (TX8 10).2.1 (TX8 10).2.2.1 ∈ wsX8_opensSide), rfl, rfl, by decide⟩
theorem fd_X8_opensSide_32 : qFd RX8 wsX8_opensSide 32 8 9 1 809 := ⟨RX8, TX8, 32, _, rfl, hi_X8_opensSide_8, by decide, (by decide +kernel : Cond.fieldLink RX8 32 (TX8 9).1 (TX8 9).2.1 (TX8 9).2.2.1 ∈ wsX8_opensSide), rfl, rfl, by decide⟩
theorem fd_X8_opensSide_29 : qFd RX8 wsX8_opensSide 29 8 8 1 808 := ⟨RX8, TX8, 32, _, rfl, hi_X8_opensSide_8, by decide, (by decide +kernel : Cond.fieldLink RX8 29 (TX8 8).1 (TX8 8).2.1 (TX8 8).2.2.1 ∈ wsX8_opensSide), rfl, rfl, by decide⟩
theorem fd_X8_opensSide_26 : qFd RX8 wsX8_opensSide 26 8 7 1 807 := ⟨RX8, TX8, 32, _, rfl, hi_X8_opensSide_8, by decide, (by decide +kernel : Cond.fieldLink RX8 26 (TX8 7).1 (TX8 7).2.1 (TX8 7).2.2.1 ∈ wsX8_opensSide), rfl, rfl, by decide⟩
theorem fd_X8_opensSide_208 : qFd RX8 wsX8_opensSide 208 8 19 0 819 := ⟨RX8, TX8, 32, _, rfl, hi_X8_opensSide_8, by decide, (by decide +kernel : Cond.fieldLink RX8 208 (TX8 19).1 (TX8 19).2.1 (TX8 19).2.2.1 ∈ wsX8_opensSide), rfl, rfl, by decide⟩
set_option maxHeartbeats 4000000 in
set_option maxRecDepth 20000 in
theorem w_X8_opensSide_184 {X : qB} {N : Nat} (hX : qOk X cX8_opensSide RX8 6 none wsX8_opensSide 3 69) {r : qM} (hE : xr X = none ∧ (True → xΦ X) ∧ xμ X = r) {k5 : (Nat → Int → Int → qM → Option (qM))} (hk5 : ∀ (x0 : Nat) (x1 : Int) (x2 : Int) (m0 : qM), gK (xG X) x0 = 9 → in32 x1 → in32 x2 → qR (xG X) m0 → k5 x0 x1 x2 m0 = some r → qN X 6 5 [(0, .ref x0), (1, .int (iZ x1)), (2, .int (iZ x2))] [] m0)
    {x0 : Nat} {x1 : Int} {s0 : Int} {s1 : Int} (k_x0 : gK (xG X) x0 = 9) (r_x1 : in32 x1) (r_s0 : in32 s0) (r_s1 : in32 s1) {m0 : qM} (hR_m0 : qR (xG X) m0)
    (h : f_X8_opensSide_184 N (xG X) k5 x0 x1 s0 s1 m0 = some r) : qN X 6 184 [(0, .ref x0), (1, .int (iZ x1))] [.int (iZ s1), .int (iZ s0)] m0 := by
  have hT := hX.T
  unfold f_X8_opensSide_184 at h
  obtain ⟨v1, e_v1, r_v1, h⟩ := ckI_e h
  refine qn_isub hX (pc := 184) dX8_opensSide_184 e_v1 ?_
  refine qn_istore_n hX (pc := 185) (ls' := [(2, .int (iZ v1)), (0, .ref x0), (1, .int (iZ x1))]) dX8_opensSide_185 rfl rfl rfl ?_
  refine qn_aload_n hX (pc := 186) dX8_opensSide_186 1 rfl rfl ?_
  refine qn_iload_n hX (pc := 187) dX8_opensSide_187 2 rfl rfl ?_
  refine qn_iconst hX (pc := 188) dX8_opensSide_188 ?_
  obtain ⟨m2, e_m2, h⟩ := kb_e h
  refine qn_callVv hX (pc := 189) [.int (iZ x1), .int (iZ (-1))] [.int (iZ (-1)), .int (iZ x1)] 2 dX8_opensSide_189 gX8_opensSide_X8_settles rfl dd_X8_settles ⟨rfl, rfl⟩ rfl rfl (by decide) k_x0 rfl rfl hR_m0 (k_X8_settles (xl X) hT k_x0 r_x1 (by decide) e_m2) (fun r_v3 hR_m2 => ?_)
  refine qn_goto hX (pc := 192) 5 dX8_opensSide_192 (by decide) ?_
  refine qn_sub (ls' := [(0, .ref x0), (1, .int (iZ x1)), (2, .int (iZ v1))]) [1, 2, 0] rfl ?_
  exact hk5 x0 x1 v1 m2 k_x0 r_x1 r_v1 hR_m2 h
set_option maxHeartbeats 4000000 in
set_option maxRecDepth 20000 in
theorem w_X8_opensSide_171 {X : qB} {N : Nat} (hX : qOk X cX8_opensSide RX8 6 none wsX8_opensSide 3 69) {r : qM} (hE : xr X = none ∧ (True → xΦ X) ∧ xμ X = r) {k5 : (Nat → Int → Int → qM → Option (qM))} (hk5 : ∀ (x0 : Nat) (x1 : Int) (x2 : Int) (m0 : qM), gK (xG X) x0 = 9 → in32 x1 → in32 x2 → qR (xG X) m0 → k5 x0 x1 x2 m0 = some r → qN X 6 5 [(0, .ref x0), (1, .int (iZ x1)), (2, .int (iZ x2))] [] m0)
    {x0 : Nat} {x1 : Int} {x2 : Int} {x4 : Int} (k_x0 : gK (xG X) x0 = 9) (r_x1 : in32 x1) (r_x2 : in32 x2) (r_x4 : in32 x4) {m0 : qM} (hR_m0 : qR (xG X) m0)
    (h : f_X8_opensSide_171 N (xG X) k5 x0 x1 x2 x4 m0 = some r) : qN X 6 171 [(0, .ref x0), (1, .int (iZ x1)), (2, .int (iZ x2)), (4, .int (iZ x4))] [] m0 := by
  have hT := hX.T
  unfold f_X8_opensSide_171 at h
  refine qn_iload_n hX (pc := 171) dX8_opensSide_171 2 rfl rfl ?_
  refine qn_iload hX (pc := 172) dX8_opensSide_172 3 rfl ?_
  refine qn_iload_n hX (pc := 174) dX8_opensSide_174 2 rfl rfl ?_
  refine qn_icmp_ge hX (pc := 175) r_x4 r_x2 183 dX8_opensSide_175 (by decide) (fun c1 => ?_) (fun c1 => ?_)
  · have h := ite_f h c1
    refine qn_iload_n hX (pc := 183) dX8_opensSide_183 2 rfl rfl ?_
    refine qn_sub (ls' := [(0, .ref x0), (1, .int (iZ x1))]) [0, 1] rfl ?_
    exact w_X8_opensSide_184 hX hE hk5 k_x0 r_x1 r_x2 r_x2 hR_m0 h
  · have h := ite_t h c1
    refine qn_iload hX (pc := 178) dX8_opensSide_178 3 rfl ?_
    refine qn_goto hX (pc := 180) 184 dX8_opensSide_180 (by decide) ?_
    refine qn_sub (ls' := [(0, .ref x0), (1, .int (iZ x1))]) [0, 1] rfl ?_
    exact w_X8_opensSide_184 hX hE hk5 k_x0 r_x1 r_x2 r_x4 hR_m0 h
set_option maxHeartbeats 4000000 in
set_option maxRecDepth 20000 in
theorem w_X8_opensSide_142 {X : qB} {N : Nat} (hX : qOk X cX8_opensSide RX8 6 none wsX8_opensSide 3 69) {r : qM} (hE : xr X = none ∧ (True → xΦ X) ∧ xμ X = r) {k5 : (Nat → Int → Int → qM → Option (qM))} (hk5 : ∀ (x0 : Nat) (x1 : Int) (x2 : Int) (m0 : qM), gK (xG X) x0 = 9 → in32 x1 → in32 x2 → qR (xG X) m0 → k5 x0 x1 x2 m0 = some r → qN X 6 5 [(0, .ref x0), (1, .int (iZ x1)), (2, .int (iZ x2))] [] m0) {k142 : (Nat → Int → Int → Int → Int → qM → Option (qM))} (hk142 : ∀ (x0 : Nat) (x1 : Int) (x2 : Int) (x4 : Int) (x5 : Int) (m0 : qM), gK (xG X) x0 = 9 → in32 x1 → in32 x2 → in32 x4 → in32 x5 → qR (xG X) m0 → k142 x0 x1 x2 x4 x5 m0 = some r → qN X 6 142 [(0, .ref x0), (1, .int (iZ x1)), (2, .int (iZ x2)), (4, .int (iZ x4)), (5, .int (iZ x5))] [] m0)
    {x0 : Nat} {x1 : Int} {x2 : Int} {x4 : Int} {x5 : Int} (k_x0 : gK (xG X) x0 = 9) (r_x1 : in32 x1) (r_x2 : in32 x2) (r_x4 : in32 x4) (r_x5 : in32 x5) {m0 : qM} (hR_m0 : qR (xG X) m0)
    (h : f_X8_opensSide_142 N (xG X) k5 k142 x0 x1 x2 x4 x5 m0 = some r) : qN X 6 142 [(0, .ref x0), (1, .int (iZ x1)), (2, .int (iZ x2)), (4, .int (iZ x4)), (5, .int (iZ x5))] [] m0 := by
  have hT := hX.T
  unfold f_X8_opensSide_142 at h
  refine qn_iload hX (pc := 142) dX8_opensSide_142 4 rfl ?_
  refine qn_aload_n hX (pc := 144) dX8_opensSide_144 0 rfl rfl ?_
  refine qn_getI hX (pc := 145) fd_X8_opensSide_68 dX8_opensSide_145 k_x0 ?_
  refine qn_icmp_ge hX (pc := 148) r_x5 (hR_m0.i 805 _ rfl) 171 dX8_opensSide_148 (by decide) (fun c1 => ?_) (fun c1 => ?_)
  · have h := ite_f h c1
    refine qn_sub (ls' := [(0, .ref x0), (1, .int (iZ x1)), (2, .int (iZ x2)), (4, .int (iZ x4))]) [0, 1, 2, 3] rfl ?_
    exact w_X8_opensSide_171 hX hE hk5 k_x0 r_x1 r_x2 r_x4 hR_m0 h
  · have h := ite_t h c1
    refine qn_aload_n hX (pc := 151) dX8_opensSide_151 0 rfl rfl ?_
    refine qn_iload hX (pc := 152) dX8_opensSide_152 4 rfl ?_
    refine qn_aload_n hX (pc := 154) dX8_opensSide_154 0 rfl rfl ?_
    refine qn_getR hX (pc := 155) fd_X8_opensSide_35 dX8_opensSide_155 k_x0 ?_
    refine qn_iload hX (pc := 158) dX8_opensSide_158 4 rfl ?_
    obtain ⟨v2, e_v2, b_v2, h⟩ := rdA_e h
    have r_v2 : in32 v2 := by rw [e_v2]; exact hR_m0.a (n := 70) _ (qr_810 hT k_x0) (by decide)
    refine qn_iald hX (pc := 160) 70 dX8_opensSide_160 (qr_810 hT k_x0) (by decide) b_v2 e_v2 ?_
    refine qn_iconst hX (pc := 161) dX8_opensSide_161 ?_
    obtain ⟨m3, e_m3, h⟩ := kb_e h
    refine qn_callVv hX (pc := 162) [.int (iZ x5), .int (iZ v2), .int (iZ 2)] [.int (iZ 2), .int (iZ v2), .int (iZ x5)] 3 dX8_opensSide_162 gX8_opensSide_X8_opens rfl dd_X8_opens ⟨rfl, rfl⟩ rfl rfl (by decide) k_x0 rfl rfl hR_m0 (k_X8_opens (xl X) hT k_x0 r_x5 r_v2 (by decide) e_m3) (fun r_v4 hR_m3 => ?_)
    obtain ⟨v5, e_v5, r_v5, h⟩ := ckI_e h
    refine qn_iinc hX (pc := 165) (ls' := [(5, .int (iZ v5)), (0, .ref x0), (1, .int (iZ x1)), (2, .int (iZ x2)), (4, .int (iZ x4))]) dX8_opensSide_165 4 rfl e_v5 rfl rfl ?_
    refine qn_goto hX (pc := 168) 142 dX8_opensSide_168 (by decide) ?_
    refine qn_sub (ls' := [(0, .ref x0), (1, .int (iZ x1)), (2, .int (iZ x2)), (4, .int (iZ x4)), (5, .int (iZ v5))]) [1, 2, 3, 4, 0] rfl ?_
    exact hk142 x0 x1 x2 x4 v5 m3 k_x0 r_x1 r_x2 r_x4 r_v5 hR_m3 h
set_option maxHeartbeats 4000000 in
set_option maxRecDepth 20000 in
theorem w_X8_opensSide_L142 {X : qB} {N : Nat} (hX : qOk X cX8_opensSide RX8 6 none wsX8_opensSide 3 69) {r : qM} (hE : xr X = none ∧ (True → xΦ X) ∧ xμ X = r) {k5 : (Nat → Int → Int → qM → Option (qM))} (hk5 : ∀ (x0 : Nat) (x1 : Int) (x2 : Int) (m0 : qM), gK (xG X) x0 = 9 → in32 x1 → in32 x2 → qR (xG X) m0 → k5 x0 x1 x2 m0 = some r → qN X 6 5 [(0, .ref x0), (1, .int (iZ x1)), (2, .int (iZ x2))] [] m0)
    {x0 : Nat} {x1 : Int} {x2 : Int} {x4 : Int} {x5 : Int} (k_x0 : gK (xG X) x0 = 9) (r_x1 : in32 x1) (r_x2 : in32 x2) (r_x4 : in32 x4) (r_x5 : in32 x5) {m0 : qM} (hR_m0 : qR (xG X) m0)
    (h : f_X8_opensSide_L142 N (xG X) k5 x0 x1 x2 x4 x5 m0 = some r) : qN X 6 142 [(0, .ref x0), (1, .int (iZ x1)), (2, .int (iZ x2)), (4, .int (iZ x4)), (5, .int (iZ x5))] [] m0 := by
  unfold f_X8_opensSide_L142 at h
  exact qLoop_w (σ := Nat × Int × Int × Int × Int × qM) (P := fun p => gK (xG X) p.1 = 9 ∧ in32 p.2.1 ∧ in32 p.2.2.1 ∧ in32 p.2.2.2.1 ∧ in32 p.2.2.2.2.1 ∧ qR (xG X) p.2.2.2.2.2) (Q := fun p => qN X 6 142 [(0, .ref p.1), (1, .int (iZ p.2.1)), (2, .int (iZ p.2.2.1)), (4, .int (iZ p.2.2.2.1)), (5, .int (iZ p.2.2.2.2.1))] [] p.2.2.2.2.2) (fun k hrec p hp hh => w_X8_opensSide_142 hX hE hk5 (fun x0 x1 x2 x4 x5 m0 q0 q1 q2 q3 q4 hRm hh => hrec (x0, x1, x2, x4, x5, m0) ⟨q0, q1, q2, q3, q4, hRm⟩ hh) hp.1 hp.2.1 hp.2.2.1 hp.2.2.2.1 hp.2.2.2.2.1 hp.2.2.2.2.2 hh) N (x0, x1, x2, x4, x5, m0) ⟨k_x0, r_x1, r_x2, r_x4, r_x5, hR_m0⟩ h
set_option maxHeartbeats 4000000 in
set_option maxRecDepth 20000 in
theorem w_X8_opensSide_110 {X : qB} {N : Nat} (hX : qOk X cX8_opensSide RX8 6 none wsX8_opensSide 3 69) {r : qM} (hE : xr X = none ∧ (True → xΦ X) ∧ xμ X = r) {k5 : (Nat → Int → Int → qM → Option (qM))} (hk5 : ∀ (x0 : Nat) (x1 : Int) (x2 : Int) (m0 : qM), gK (xG X) x0 = 9 → in32 x1 → in32 x2 → qR (xG X) m0 → k5 x0 x1 x2 m0 = some r → qN X 6 5 [(0, .ref x0), (1, .int (iZ x1)), (2, .int (iZ x2))] [] m0) {k110 : (Nat → Int → Int → Int → Int → qM → Option (qM))} (hk110 : ∀ (x0 : Nat) (x1 : Int) (x2 : Int) (x4 : Int) (x5 : Int) (m0 : qM), gK (xG X) x0 = 9 → in32 x1 → in32 x2 → in32 x4 → in32 x5 → qR (xG X) m0 → k110 x0 x1 x2 x4 x5 m0 = some r → qN X 6 110 [(0, .ref x0), (1, .int (iZ x1)), (2, .int (iZ x2)), (4, .int (iZ x4)), (5, .int (iZ x5))] [] m0)
    {x0 : Nat} {x1 : Int} {x2 : Int} {x4 : Int} {x5 : Int} (k_x0 : gK (xG X) x0 = 9) (r_x1 : in32 x1) (r_x2 : in32 x2) (r_x4 : in32 x4) (r_x5 : in32 x5) {m0 : qM} (hR_m0 : qR (xG X) m0)
    (h : f_X8_opensSide_110 N (xG X) k5 k110 x0 x1 x2 x4 x5 m0 = some r) : qN X 6 110 [(0, .ref x0), (1, .int (iZ x1)), (2, .int (iZ x2)), (4, .int (iZ x4)), (5, .int (iZ x5))] [] m0 := by
  have hT := hX.T
  unfold f_X8_opensSide_110 at h
  refine qn_iload hX (pc := 110) dX8_opensSide_110 4 rfl ?_
  refine qn_aload_n hX (pc := 112) dX8_opensSide_112 0 rfl rfl ?_
  refine qn_getI hX (pc := 113) fd_X8_opensSide_68 dX8_opensSide_113 k_x0 ?_
  refine qn_icmp_ge hX (pc := 116) r_x5 (hR_m0.i 805 _ rfl) 139 dX8_opensSide_116 (by decide) (fun c1 => ?_) (fun c1 => ?_)
  · have h := ite_f h c1
    refine qn_iconst hX (pc := 139) dX8_opensSide_139 ?_
    refine qn_istore hX (pc := 140) (ls' := [(5, .int (iZ 0)), (0, .ref x0), (1, .int (iZ x1)), (2, .int (iZ x2)), (4, .int (iZ x4))]) dX8_opensSide_140 rfl rfl ?_
    refine qn_sub (ls' := [(0, .ref x0), (1, .int (iZ x1)), (2, .int (iZ x2)), (4, .int (iZ x4)), (5, .int (iZ 0))]) [1, 2, 3, 4, 0] rfl ?_
    exact w_X8_opensSide_L142 hX hE hk5 k_x0 r_x1 r_x2 r_x4 (by decide) hR_m0 h
  · have h := ite_t h c1
    refine qn_aload_n hX (pc := 119) dX8_opensSide_119 0 rfl rfl ?_
    refine qn_iload hX (pc := 120) dX8_opensSide_120 4 rfl ?_
    refine qn_aload_n hX (pc := 122) dX8_opensSide_122 0 rfl rfl ?_
    refine qn_getR hX (pc := 123) fd_X8_opensSide_32 dX8_opensSide_123 k_x0 ?_
    refine qn_iload hX (pc := 126) dX8_opensSide_126 4 rfl ?_
    obtain ⟨v2, e_v2, b_v2, h⟩ := rdA_e h
    have r_v2 : in32 v2 := by rw [e_v2]; exact hR_m0.a (n := 70) _ (qr_809 hT k_x0) (by decide)
    refine qn_iald hX (pc := 128) 70 dX8_opensSide_128 (qr_809 hT k_x0) (by decide) b_v2 e_v2 ?_
    refine qn_iconst hX (pc := 129) dX8_opensSide_129 ?_
    obtain ⟨m3, e_m3, h⟩ := kb_e h
    refine qn_callVv hX (pc := 130) [.int (iZ x5), .int (iZ v2), .int (iZ 1)] [.int (iZ 1), .int (iZ v2), .int (iZ x5)] 3 dX8_opensSide_130 gX8_opensSide_X8_opens rfl dd_X8_opens ⟨rfl, rfl⟩ rfl rfl (by decide) k_x0 rfl rfl hR_m0 (k_X8_opens (xl X) hT k_x0 r_x5 r_v2 (by decide) e_m3) (fun r_v4 hR_m3 => ?_)
    obtain ⟨v5, e_v5, r_v5, h⟩ := ckI_e h
    refine qn_iinc hX (pc := 133) (ls' := [(5, .int (iZ v5)), (0, .ref x0), (1, .int (iZ x1)), (2, .int (iZ x2)), (4, .int (iZ x4))]) dX8_opensSide_133 4 rfl e_v5 rfl rfl ?_
    refine qn_goto hX (pc := 136) 110 dX8_opensSide_136 (by decide) ?_
    refine qn_sub (ls' := [(0, .ref x0), (1, .int (iZ x1)), (2, .int (iZ x2)), (4, .int (iZ x4)), (5, .int (iZ v5))]) [1, 2, 3, 4, 0] rfl ?_
    exact hk110 x0 x1 x2 x4 v5 m3 k_x0 r_x1 r_x2 r_x4 r_v5 hR_m3 h
set_option maxHeartbeats 4000000 in
set_option maxRecDepth 20000 in
theorem w_X8_opensSide_L110 {X : qB} {N : Nat} (hX : qOk X cX8_opensSide RX8 6 none wsX8_opensSide 3 69) {r : qM} (hE : xr X = none ∧ (True → xΦ X) ∧ xμ X = r) {k5 : (Nat → Int → Int → qM → Option (qM))} (hk5 : ∀ (x0 : Nat) (x1 : Int) (x2 : Int) (m0 : qM), gK (xG X) x0 = 9 → in32 x1 → in32 x2 → qR (xG X) m0 → k5 x0 x1 x2 m0 = some r → qN X 6 5 [(0, .ref x0), (1, .int (iZ x1)), (2, .int (iZ x2))] [] m0)
    {x0 : Nat} {x1 : Int} {x2 : Int} {x4 : Int} {x5 : Int} (k_x0 : gK (xG X) x0 = 9) (r_x1 : in32 x1) (r_x2 : in32 x2) (r_x4 : in32 x4) (r_x5 : in32 x5) {m0 : qM} (hR_m0 : qR (xG X) m0)
    (h : f_X8_opensSide_L110 N (xG X) k5 x0 x1 x2 x4 x5 m0 = some r) : qN X 6 110 [(0, .ref x0), (1, .int (iZ x1)), (2, .int (iZ x2)), (4, .int (iZ x4)), (5, .int (iZ x5))] [] m0 := by
  unfold f_X8_opensSide_L110 at h
  exact qLoop_w (σ := Nat × Int × Int × Int × Int × qM) (P := fun p => gK (xG X) p.1 = 9 ∧ in32 p.2.1 ∧ in32 p.2.2.1 ∧ in32 p.2.2.2.1 ∧ in32 p.2.2.2.2.1 ∧ qR (xG X) p.2.2.2.2.2) (Q := fun p => qN X 6 110 [(0, .ref p.1), (1, .int (iZ p.2.1)), (2, .int (iZ p.2.2.1)), (4, .int (iZ p.2.2.2.1)), (5, .int (iZ p.2.2.2.2.1))] [] p.2.2.2.2.2) (fun k hrec p hp hh => w_X8_opensSide_110 hX hE hk5 (fun x0 x1 x2 x4 x5 m0 q0 q1 q2 q3 q4 hRm hh => hrec (x0, x1, x2, x4, x5, m0) ⟨q0, q1, q2, q3, q4, hRm⟩ hh) hp.1 hp.2.1 hp.2.2.1 hp.2.2.2.1 hp.2.2.2.2.1 hp.2.2.2.2.2 hh) N (x0, x1, x2, x4, x5, m0) ⟨k_x0, r_x1, r_x2, r_x4, r_x5, hR_m0⟩ h
set_option maxHeartbeats 4000000 in
set_option maxRecDepth 20000 in
theorem w_X8_opensSide_38 {X : qB} {N : Nat} (hX : qOk X cX8_opensSide RX8 6 none wsX8_opensSide 3 69) {r : qM} (hE : xr X = none ∧ (True → xΦ X) ∧ xμ X = r) {k5 : (Nat → Int → Int → qM → Option (qM))} (hk5 : ∀ (x0 : Nat) (x1 : Int) (x2 : Int) (m0 : qM), gK (xG X) x0 = 9 → in32 x1 → in32 x2 → qR (xG X) m0 → k5 x0 x1 x2 m0 = some r → qN X 6 5 [(0, .ref x0), (1, .int (iZ x1)), (2, .int (iZ x2))] [] m0) {k38 : (Nat → Int → Int → Int → Int → qM → Option (qM))} (hk38 : ∀ (x0 : Nat) (x1 : Int) (x2 : Int) (x4 : Int) (x5 : Int) (m0 : qM), gK (xG X) x0 = 9 → in32 x1 → in32 x2 → in32 x4 → in32 x5 → qR (xG X) m0 → k38 x0 x1 x2 x4 x5 m0 = some r → qN X 6 38 [(0, .ref x0), (1, .int (iZ x1)), (2, .int (iZ x2)), (4, .int (iZ x4)), (5, .int (iZ x5))] [] m0)
    {x0 : Nat} {x1 : Int} {x2 : Int} {x4 : Int} {x5 : Int} (k_x0 : gK (xG X) x0 = 9) (r_x1 : in32 x1) (r_x2 : in32 x2) (r_x4 : in32 x4) (r_x5 : in32 x5) {m0 : qM} (hR_m0 : qR (xG X) m0)
    (h : f_X8_opensSide_38 N (xG X) k5 k38 x0 x1 x2 x4 x5 m0 = some r) : qN X 6 38 [(0, .ref x0), (1, .int (iZ x1)), (2, .int (iZ x2)), (4, .int (iZ x4)), (5, .int (iZ x5))] [] m0 := by
  have hT := hX.T
  unfold f_X8_opensSide_38 at h
  refine qn_iload hX (pc := 38) dX8_opensSide_38 4 rfl ?_
  refine qn_aload_n hX (pc := 40) dX8_opensSide_40 0 rfl rfl ?_
  refine qn_getI hX (pc := 41) fd_X8_opensSide_68 dX8_opensSide_41 k_x0 ?_
  refine qn_icmp_ge hX (pc := 44) r_x5 (hR_m0.i 805 _ rfl) 97 dX8_opensSide_44 (by decide) (fun c1 => ?_) (fun c1 => ?_)
  · have h := ite_f h c1
    refine qn_goto hX (pc := 97) 171 dX8_opensSide_97 (by decide) ?_
    refine qn_sub (ls' := [(0, .ref x0), (1, .int (iZ x1)), (2, .int (iZ x2)), (4, .int (iZ x4))]) [0, 1, 2, 3] rfl ?_
    exact w_X8_opensSide_171 hX hE hk5 k_x0 r_x1 r_x2 r_x4 hR_m0 h
  · have h := ite_t h c1
    refine qn_aload_n hX (pc := 47) dX8_opensSide_47 0 rfl rfl ?_
    refine qn_getR hX (pc := 48) fd_X8_opensSide_29 dX8_opensSide_48 k_x0 ?_
    refine qn_iload hX (pc := 51) dX8_opensSide_51 4 rfl ?_
    refine qn_iconst hX (pc := 53) dX8_opensSide_53 ?_
    obtain ⟨m2, e_m2, b_m2, h⟩ := wrA_e h
    refine qn_iast hX (pc := 54) 70 dX8_opensSide_54 (qr_808 hT k_x0) (by decide) b_m2 hR_m0 (by decide) e_m2 (fun hR_m2 => ?_) 
    refine qn_aload_n hX (pc := 55) dX8_opensSide_55 0 rfl rfl ?_
    refine qn_getR hX (pc := 56) fd_X8_opensSide_32 dX8_opensSide_56 k_x0 ?_
    refine qn_iload hX (pc := 59) dX8_opensSide_59 4 rfl ?_
    refine qn_aload_n hX (pc := 61) dX8_opensSide_61 0 rfl rfl ?_
    refine qn_getR hX (pc := 62) fd_X8_opensSide_26 dX8_opensSide_62 k_x0 ?_
    refine qn_iload hX (pc := 65) dX8_opensSide_65 4 rfl ?_
    obtain ⟨v3, e_v3, b_v3, h⟩ := rdA_e h
    have r_v3 : in32 v3 := by rw [e_v3]; exact hR_m2.a (n := 70) _ (qr_807 hT k_x0) (by decide)
    refine qn_iald hX (pc := 67) 70 dX8_opensSide_67 (qr_807 hT k_x0) (by decide) b_v3 e_v3 ?_
    obtain ⟨m4, e_m4, b_m4, h⟩ := wrA_e h
    refine qn_iast hX (pc := 68) 70 dX8_opensSide_68 (qr_809 hT k_x0) (by decide) b_m4 hR_m2 r_v3 e_m4 (fun hR_m4 => ?_) 
    refine qn_aload_n hX (pc := 69) dX8_opensSide_69 0 rfl rfl ?_
    refine qn_getR hX (pc := 70) fd_X8_opensSide_35 dX8_opensSide_70 k_x0 ?_
    refine qn_iload hX (pc := 73) dX8_opensSide_73 4 rfl ?_
    refine qn_iconst hX (pc := 75) dX8_opensSide_75 ?_
    obtain ⟨m5, e_m5, b_m5, h⟩ := wrA_e h
    refine qn_iast hX (pc := 76) 70 dX8_opensSide_76 (qr_810 hT k_x0) (by decide) b_m5 hR_m4 (by decide) e_m5 (fun hR_m5 => ?_) 
    refine qn_aload_n hX (pc := 77) dX8_opensSide_77 0 rfl rfl ?_
    refine qn_iload hX (pc := 78) dX8_opensSide_78 4 rfl ?_
    refine qn_aload_n hX (pc := 80) dX8_opensSide_80 0 rfl rfl ?_
    refine qn_getR hX (pc := 81) fd_X8_opensSide_26 dX8_opensSide_81 k_x0 ?_
    refine qn_iload hX (pc := 84) dX8_opensSide_84 4 rfl ?_
    obtain ⟨v6, e_v6, b_v6, h⟩ := rdA_e h
    have r_v6 : in32 v6 := by rw [e_v6]; exact hR_m5.a (n := 70) _ (qr_807 hT k_x0) (by decide)
    refine qn_iald hX (pc := 86) 70 dX8_opensSide_86 (qr_807 hT k_x0) (by decide) b_v6 e_v6 ?_
    refine qn_iconst hX (pc := 87) dX8_opensSide_87 ?_
    obtain ⟨m7, e_m7, h⟩ := kb_e h
    refine qn_callVv hX (pc := 88) [.int (iZ x5), .int (iZ v6), .int (iZ 3)] [.int (iZ 3), .int (iZ v6), .int (iZ x5)] 3 dX8_opensSide_88 gX8_opensSide_X8_opens rfl dd_X8_opens ⟨rfl, rfl⟩ rfl rfl (by decide) k_x0 rfl rfl hR_m5 (k_X8_opens (xl X) hT k_x0 r_x5 r_v6 (by decide) e_m7) (fun r_v8 hR_m7 => ?_)
    obtain ⟨v9, e_v9, r_v9, h⟩ := ckI_e h
    refine qn_iinc hX (pc := 91) (ls' := [(5, .int (iZ v9)), (0, .ref x0), (1, .int (iZ x1)), (2, .int (iZ x2)), (4, .int (iZ x4))]) dX8_opensSide_91 4 rfl e_v9 rfl rfl ?_
    refine qn_goto hX (pc := 94) 38 dX8_opensSide_94 (by decide) ?_
    refine qn_sub (ls' := [(0, .ref x0), (1, .int (iZ x1)), (2, .int (iZ x2)), (4, .int (iZ x4)), (5, .int (iZ v9))]) [1, 2, 3, 4, 0] rfl ?_
    exact hk38 x0 x1 x2 x4 v9 m7 k_x0 r_x1 r_x2 r_x4 r_v9 hR_m7 h
set_option maxHeartbeats 4000000 in
set_option maxRecDepth 20000 in
theorem w_X8_opensSide_L38 {X : qB} {N : Nat} (hX : qOk X cX8_opensSide RX8 6 none wsX8_opensSide 3 69) {r : qM} (hE : xr X = none ∧ (True → xΦ X) ∧ xμ X = r) {k5 : (Nat → Int → Int → qM → Option (qM))} (hk5 : ∀ (x0 : Nat) (x1 : Int) (x2 : Int) (m0 : qM), gK (xG X) x0 = 9 → in32 x1 → in32 x2 → qR (xG X) m0 → k5 x0 x1 x2 m0 = some r → qN X 6 5 [(0, .ref x0), (1, .int (iZ x1)), (2, .int (iZ x2))] [] m0)
    {x0 : Nat} {x1 : Int} {x2 : Int} {x4 : Int} {x5 : Int} (k_x0 : gK (xG X) x0 = 9) (r_x1 : in32 x1) (r_x2 : in32 x2) (r_x4 : in32 x4) (r_x5 : in32 x5) {m0 : qM} (hR_m0 : qR (xG X) m0)
    (h : f_X8_opensSide_L38 N (xG X) k5 x0 x1 x2 x4 x5 m0 = some r) : qN X 6 38 [(0, .ref x0), (1, .int (iZ x1)), (2, .int (iZ x2)), (4, .int (iZ x4)), (5, .int (iZ x5))] [] m0 := by
  unfold f_X8_opensSide_L38 at h
  exact qLoop_w (σ := Nat × Int × Int × Int × Int × qM) (P := fun p => gK (xG X) p.1 = 9 ∧ in32 p.2.1 ∧ in32 p.2.2.1 ∧ in32 p.2.2.2.1 ∧ in32 p.2.2.2.2.1 ∧ qR (xG X) p.2.2.2.2.2) (Q := fun p => qN X 6 38 [(0, .ref p.1), (1, .int (iZ p.2.1)), (2, .int (iZ p.2.2.1)), (4, .int (iZ p.2.2.2.1)), (5, .int (iZ p.2.2.2.2.1))] [] p.2.2.2.2.2) (fun k hrec p hp hh => w_X8_opensSide_38 hX hE hk5 (fun x0 x1 x2 x4 x5 m0 q0 q1 q2 q3 q4 hRm hh => hrec (x0, x1, x2, x4, x5, m0) ⟨q0, q1, q2, q3, q4, hRm⟩ hh) hp.1 hp.2.1 hp.2.2.1 hp.2.2.2.1 hp.2.2.2.2.1 hp.2.2.2.2.2 hh) N (x0, x1, x2, x4, x5, m0) ⟨k_x0, r_x1, r_x2, r_x4, r_x5, hR_m0⟩ h
set_option maxHeartbeats 4000000 in
set_option maxRecDepth 20000 in
theorem w_X8_opensSide_5 {X : qB} {N : Nat} (hX : qOk X cX8_opensSide RX8 6 none wsX8_opensSide 3 69) {r : qM} (hE : xr X = none ∧ (True → xΦ X) ∧ xμ X = r) {k5 : (Nat → Int → Int → qM → Option (qM))} (hk5 : ∀ (x0 : Nat) (x1 : Int) (x2 : Int) (m0 : qM), gK (xG X) x0 = 9 → in32 x1 → in32 x2 → qR (xG X) m0 → k5 x0 x1 x2 m0 = some r → qN X 6 5 [(0, .ref x0), (1, .int (iZ x1)), (2, .int (iZ x2))] [] m0)
    {x0 : Nat} {x1 : Int} {x2 : Int} (k_x0 : gK (xG X) x0 = 9) (r_x1 : in32 x1) (r_x2 : in32 x2) {m0 : qM} (hR_m0 : qR (xG X) m0)
    (h : f_X8_opensSide_5 N (xG X) k5 x0 x1 x2 m0 = some r) : qN X 6 5 [(0, .ref x0), (1, .int (iZ x1)), (2, .int (iZ x2))] [] m0 := by
  have hT := hX.T
  unfold f_X8_opensSide_5 at h
  refine qn_iload_n hX (pc := 5) dX8_opensSide_5 2 rfl rfl ?_
  refine qn_if_le hX (pc := 6) r_x2 195 dX8_opensSide_6 (by decide) (fun c1 => ?_) (fun c1 => ?_)
  · have h := ite_f h c1
    exact qn_vret hX (pc := 195) dX8_opensSide_195 hE hR_m0 (Option.some.inj h)
  · have h := ite_t h c1
    refine qn_aload_n hX (pc := 9) dX8_opensSide_9 0 rfl rfl ?_
    refine qn_iload_n hX (pc := 10) dX8_opensSide_10 1 rfl rfl ?_
    obtain ⟨v3, m2, e_m2, h⟩ := kb2_e h
    refine qn_callVi hX (pc := 11) [.int (iZ x1)] [.int (iZ x1)] 1 dX8_opensSide_11 gX8_opensSide_X8_bestOf rfl dd_X8_bestOf ⟨rfl, rfl⟩ rfl rfl (by decide) k_x0 rfl rfl hR_m0 (k_X8_bestOf (xl X) hT k_x0 r_x1 e_m2) (fun r_v3 hR_m2 => ?_)
    refine qn_istore_n hX (pc := 14) (ls' := [(3, .int (iZ v3)), (0, .ref x0), (1, .int (iZ x1)), (2, .int (iZ x2))]) dX8_opensSide_14 rfl rfl rfl ?_
    refine qn_aload_n hX (pc := 15) dX8_opensSide_15 1 rfl rfl ?_
    refine qn_iload_n hX (pc := 16) dX8_opensSide_16 2 rfl rfl ?_
    refine qn_iload_n hX (pc := 17) dX8_opensSide_17 0 rfl rfl ?_
    obtain ⟨m4, e_m4, h⟩ := kb_e h
    refine qn_callVv hX (pc := 18) [.int (iZ x1), .int (iZ v3)] [.int (iZ v3), .int (iZ x1)] 2 dX8_opensSide_18 gX8_opensSide_X8_lays rfl dd_X8_lays ⟨rfl, rfl⟩ rfl rfl (by decide) k_x0 rfl rfl hR_m2 (k_X8_lays (xl X) hT k_x0 r_x1 r_v3 e_m4) (fun r_v5 hR_m4 => ?_)
    refine qn_aload_n hX (pc := 21) dX8_opensSide_21 1 rfl rfl ?_
    refine qn_iload_n hX (pc := 22) dX8_opensSide_22 2 rfl rfl ?_
    refine qn_iload_n hX (pc := 23) dX8_opensSide_23 0 rfl rfl ?_
    obtain ⟨v7, m6, e_m6, h⟩ := kb2_e h
    refine qn_callVi hX (pc := 24) [.int (iZ x1), .int (iZ v3)] [.int (iZ v3), .int (iZ x1)] 2 dX8_opensSide_24 gX8_opensSide_X8_sizesAt rfl dd_X8_sizesAt ⟨rfl, rfl⟩ rfl rfl (by decide) k_x0 rfl rfl hR_m4 (k_X8_sizesAt (xl X) hT k_x0 r_x1 r_v3 e_m6) (fun r_v7 hR_m6 => ?_)
    refine qn_istore hX (pc := 27) (ls' := [(4, .int (iZ v7)), (3, .int (iZ v3)), (0, .ref x0), (1, .int (iZ x1)), (2, .int (iZ x2))]) dX8_opensSide_27 rfl rfl ?_
    refine qn_iload hX (pc := 29) dX8_opensSide_29 0 rfl ?_
    refine qn_iload_n hX (pc := 31) dX8_opensSide_31 4 rfl rfl ?_
    refine qn_icmp_gt hX (pc := 32) r_v7 r_x2 100 dX8_opensSide_32 (by decide) (fun c8 => ?_) (fun c8 => ?_)
    · have h := ite_t h c8
      refine qn_aload_n hX (pc := 100) dX8_opensSide_100 2 rfl rfl ?_
      refine qn_iload_n hX (pc := 101) dX8_opensSide_101 4 rfl rfl ?_
      refine qn_iconst hX (pc := 102) dX8_opensSide_102 ?_
      refine qn_iconst hX (pc := 103) dX8_opensSide_103 ?_
      obtain ⟨m9, e_m9, h⟩ := kb_e h
      refine qn_callVv hX (pc := 104) [.int (iZ x2), .int (iZ (-1)), .int (iZ 0)] [.int (iZ 0), .int (iZ (-1)), .int (iZ x2)] 3 dX8_opensSide_104 gX8_opensSide_X8_shares rfl dd_X8_shares ⟨rfl, rfl⟩ rfl rfl (by decide) k_x0 rfl rfl hR_m6 (k_X8_shares (xl X) hT k_x0 r_x2 (by decide) (by decide) e_m9) (fun r_v10 hR_m9 => ?_)
      refine qn_iconst hX (pc := 107) dX8_opensSide_107 ?_
      refine qn_istore hX (pc := 108) (ls' := [(5, .int (iZ 0)), (4, .int (iZ v7)), (3, .int (iZ v3)), (0, .ref x0), (1, .int (iZ x1)), (2, .int (iZ x2))]) dX8_opensSide_108 rfl rfl ?_
      refine qn_sub (ls' := [(0, .ref x0), (1, .int (iZ x1)), (2, .int (iZ x2)), (4, .int (iZ v7)), (5, .int (iZ 0))]) [3, 4, 5, 1, 0] rfl ?_
      exact w_X8_opensSide_L110 hX hE hk5 k_x0 r_x1 r_x2 r_v7 (by decide) hR_m9 h
    · have h := ite_f h c8
      refine qn_iconst hX (pc := 35) dX8_opensSide_35 ?_
      refine qn_istore hX (pc := 36) (ls' := [(5, .int (iZ 0)), (4, .int (iZ v7)), (3, .int (iZ v3)), (0, .ref x0), (1, .int (iZ x1)), (2, .int (iZ x2))]) dX8_opensSide_36 rfl rfl ?_
      refine qn_sub (ls' := [(0, .ref x0), (1, .int (iZ x1)), (2, .int (iZ x2)), (4, .int (iZ v7)), (5, .int (iZ 0))]) [3, 4, 5, 1, 0] rfl ?_
      exact w_X8_opensSide_L38 hX hE hk5 k_x0 r_x1 r_x2 r_v7 (by decide) hR_m6 h
set_option maxHeartbeats 4000000 in
set_option maxRecDepth 20000 in
theorem w_X8_opensSide_L5 {X : qB} {N : Nat} (hX : qOk X cX8_opensSide RX8 6 none wsX8_opensSide 3 69) {r : qM} (hE : xr X = none ∧ (True → xΦ X) ∧ xμ X = r) 
    {x0 : Nat} {x1 : Int} {x2 : Int} (k_x0 : gK (xG X) x0 = 9) (r_x1 : in32 x1) (r_x2 : in32 x2) {m0 : qM} (hR_m0 : qR (xG X) m0)
    (h : f_X8_opensSide_L5 N (xG X)  x0 x1 x2 m0 = some r) : qN X 6 5 [(0, .ref x0), (1, .int (iZ x1)), (2, .int (iZ x2))] [] m0 := by
  unfold f_X8_opensSide_L5 at h
  exact qLoop_w (σ := Nat × Int × Int × qM) (P := fun p => gK (xG X) p.1 = 9 ∧ in32 p.2.1 ∧ in32 p.2.2.1 ∧ qR (xG X) p.2.2.2) (Q := fun p => qN X 6 5 [(0, .ref p.1), (1, .int (iZ p.2.1)), (2, .int (iZ p.2.2.1))] [] p.2.2.2) (fun k hrec p hp hh => w_X8_opensSide_5 hX hE (fun x0 x1 x2 m0 q0 q1 q2 hRm hh => hrec (x0, x1, x2, m0) ⟨q0, q1, q2, hRm⟩ hh) hp.1 hp.2.1 hp.2.2.1 hp.2.2.2 hh) N (x0, x1, x2, m0) ⟨k_x0, r_x1, r_x2, hR_m0⟩ h
set_option maxHeartbeats 4000000 in
set_option maxRecDepth 20000 in
theorem w_X8_opensSide {X : qB} {N : Nat} (hX : qOk X cX8_opensSide RX8 6 none wsX8_opensSide 3 69) {r : qM} (hE : xr X = none ∧ (True → xΦ X) ∧ xμ X = r) 
    {x0 : Nat} {x1 : Int} (k_x0 : gK (xG X) x0 = 9) (r_x1 : in32 x1) {m0 : qM} (hR_m0 : qR (xG X) m0)
    (h : f_X8_opensSide N (xG X)  x0 x1 m0 = some r) : qN X 6 0 [(0, .ref x0), (1, .int (iZ x1))] [] m0 := by
  have hT := hX.T
  unfold f_X8_opensSide at h
  refine qn_aload_n hX (pc := 0) dX8_opensSide_0 0 rfl rfl ?_
  refine qn_getI hX (pc := 1) fd_X8_opensSide_208 dX8_opensSide_1 k_x0 ?_
  refine qn_istore_n hX (pc := 4) (ls' := [(2, .int (iZ (gI m0 819 x0))), (0, .ref x0), (1, .int (iZ x1))]) dX8_opensSide_4 rfl rfl rfl ?_
  refine qn_sub (ls' := [(0, .ref x0), (1, .int (iZ x1)), (2, .int (iZ (gI m0 819 x0)))]) [1, 2, 0] rfl ?_
  exact w_X8_opensSide_L5 hX hE  k_x0 r_x1 (hR_m0.i 819 _ rfl) hR_m0 h
theorem k_X8_opensSide (l : Launch) {G : qG} (hT : qT G) {N : Nat} {x0 : Nat} {x1 : Int} (k_x0 : gK G x0 = 9) (r_x1 : in32 x1) {m0 : qM} {r : qM} (h : f_X8_opensSide N G x0 x1 m0 = some r) : qC l yX8_opensSide wsX8_opensSide 3 69 G [.ref x0, .int (iZ x1)] m0 none True r := by
  refine qn_start (hy := by decide) hT (hw := rfl) (hn := Nat.le_of_ble_eq_true rfl) ?_
  intro X h1 h2 h3 h4 hX hR
  subst h4
  exact w_X8_opensSide hX ⟨h1, fun q => h2 ▸ q, h3⟩ k_x0 r_x1 hR h
theorem dd_X8_opensSide : yX8_opensSide.cls = RX8 ∧ yX8_opensSide.cls ≠ "java/lang/invoke/MethodHandle" ∧ yX8_opensSide.cls ≠ "java/lang/invoke/VarHandle" ∧ (parseMethodDescriptor yX8_opensSide.desc).map (fun d => d.parameters.length) = some 1 := by decide +kernel
-- ProRataMarketModel.opening
theorem hi_X8_opening_8 : ∀ w ∈ wsX80, w ∈ wsX8_opening := fun w h => List.mem_cons_of_mem _ (List.mem_append_right _ h)
theorem fd_X8_opening_7 : qFd RX8 wsX8_opening 7 8 0 1 800 := ⟨RX8, TX8, 32, _, rfl, hi_X8_opening_8, by decide, (by decide +kernel : Cond.fieldLink RX8 7 (TX8 0).1 (TX8 0).2.1 (TX8 0).2.2.1 ∈ wsX8_opening), rfl, rfl, by decide⟩
theorem fd_X8_opening_208 : qFd RX8 wsX8_opening 208 8 19 0 819 := ⟨RX8, TX8, 32, _, rfl, hi_X8_opening_8, by decide, (by decide +kernel : Cond.fieldLink RX8 208 (TX8 19).1 (TX8 19).2.1 (TX8 19).2.2.1 ∈ wsX8_opening), rfl, rfl, by decide⟩
theorem fd_X8_opening_217 : qFd RX8 wsX8_opening 217 8 18 0 818 := ⟨RX8, TX8, 32, _, rfl, hi_X8_opening_8, by decide, (by decide +kernel : Cond.fieldLink RX8 217 (TX8 18).1 (TX8 18).2.1 (TX8 18).2.2.1 ∈ wsX8_opening), rfl, rfl, by decide⟩
set_option maxHeartbeats 4000000 in
set_option maxRecDepth 20000 in
theorem w_X8_opening {X : qB} {N : Nat} (hX : qOk X cX8_opening RX8 1 (some .int) wsX8_opening 4 95) {r : Int} {nu : qM} (hE : xr X = some (.int (iZ r)) ∧ (in32 r → xΦ X) ∧ xμ X = nu) 
    {x0 : Nat} (k_x0 : gK (xG X) x0 = 9) {m0 : qM} (hR_m0 : qR (xG X) m0)
    (h : f_X8_opening N (xG X)  x0 m0 = some (r, nu)) : qN X 1 0 [(0, .ref x0)] [] m0 := by
  have hT := hX.T
  unfold f_X8_opening at h
  refine qn_aload_n hX (pc := 0) dX8_opening_0 0 rfl rfl ?_
  refine qn_getR hX (pc := 1) fd_X8_opening_7 dX8_opening_1 k_x0 ?_
  refine qn_iconst hX (pc := 4) dX8_opening_4 ?_
  refine qn_iald hX (pc := 5) (v := gA m0 (gR (xG X) 800 x0) 2) 684 dX8_opening_5 (qr_800 hT k_x0) (by decide) (by decide) rfl ?_
  refine qn_if_ne hX (pc := 6) (hR_m0.a (n := 684) _ (qr_800 hT k_x0) (by decide)) 11 dX8_opening_6 (by decide) (fun c1 => ?_) (fun c1 => ?_)
  · have h := ite_f h c1
    refine qn_aload_n hX (pc := 11) dX8_opening_11 0 rfl rfl ?_
    refine qn_getR hX (pc := 12) fd_X8_opening_7 dX8_opening_12 k_x0 ?_
    refine qn_iconst hX (pc := 15) dX8_opening_15 ?_
    refine qn_iconst hX (pc := 16) dX8_opening_16 ?_
    obtain ⟨m2, e_m2, h⟩ := kp_e h
    refine qn_iast hX (pc := 17) 684 dX8_opening_17 (qr_800 hT k_x0) (by decide) (by decide) hR_m0 (by decide) e_m2 (fun hR_m2 => ?_) 
    refine qn_aload_n hX (pc := 18) dX8_opening_18 0 rfl rfl ?_
    obtain ⟨m3, e_m3, h⟩ := kb_e h
    refine qn_callVv hX (pc := 19) [] [] 0 dX8_opening_19 gX8_opening_X8_clearing rfl dd_X8_clearing ⟨rfl, rfl⟩ rfl rfl (by decide) k_x0 rfl rfl hR_m2 (k_X8_clearing (xl X) hT k_x0 e_m3) (fun r_v4 hR_m3 => ?_)
    refine qn_aload_n hX (pc := 22) dX8_opening_22 0 rfl rfl ?_
    refine qn_getI hX (pc := 23) fd_X8_opening_208 dX8_opening_23 k_x0 ?_
    refine qn_if_ne hX (pc := 26) (hR_m3.i 819 _ rfl) 31 dX8_opening_26 (by decide) (fun c5 => ?_) (fun c5 => ?_)
    · have h := ite_f h c5
      refine qn_aload_n hX (pc := 31) dX8_opening_31 0 rfl rfl ?_
      refine qn_iconst hX (pc := 32) dX8_opening_32 ?_
      obtain ⟨m6, e_m6, h⟩ := kb_e h
      refine qn_callVv hX (pc := 33) [.int (iZ 0)] [.int (iZ 0)] 1 dX8_opening_33 gX8_opening_X8_opensSide rfl dd_X8_opensSide ⟨rfl, rfl⟩ rfl rfl (by decide) k_x0 rfl rfl hR_m3 (k_X8_opensSide (xl X) hT k_x0 (by decide) e_m6) (fun r_v7 hR_m6 => ?_)
      refine qn_aload_n hX (pc := 36) dX8_opening_36 0 rfl rfl ?_
      refine qn_iconst hX (pc := 37) dX8_opening_37 ?_
      obtain ⟨m8, e_m8, h⟩ := kb_e h
      refine qn_callVv hX (pc := 38) [.int (iZ 1)] [.int (iZ 1)] 1 dX8_opening_38 gX8_opening_X8_opensSide rfl dd_X8_opensSide ⟨rfl, rfl⟩ rfl rfl (by decide) k_x0 rfl rfl hR_m6 (k_X8_opensSide (xl X) hT k_x0 (by decide) e_m8) (fun r_v9 hR_m8 => ?_)
      refine qn_aload_n hX (pc := 41) dX8_opening_41 0 rfl rfl ?_
      refine qn_getR hX (pc := 42) fd_X8_opening_7 dX8_opening_42 k_x0 ?_
      refine qn_iconst hX (pc := 45) dX8_opening_45 ?_
      refine qn_aload_n hX (pc := 46) dX8_opening_46 0 rfl rfl ?_
      refine qn_getI hX (pc := 47) fd_X8_opening_217 dX8_opening_47 k_x0 ?_
      obtain ⟨m10, e_m10, h⟩ := kp_e h
      refine qn_iast hX (pc := 50) 684 dX8_opening_50 (qr_800 hT k_x0) (by decide) (by decide) hR_m8 (hR_m8.i 818 _ rfl) e_m10 (fun hR_m10 => ?_) 
      refine qn_aload_n hX (pc := 51) dX8_opening_51 0 rfl rfl ?_
      refine qn_getR hX (pc := 52) fd_X8_opening_7 dX8_opening_52 k_x0 ?_
      refine qn_bipush hX (pc := 55) dX8_opening_55 (by decide) ?_
      refine qn_dup2 hX (pc := 57) dX8_opening_57 rfl rfl ?_
      refine qn_iald hX (pc := 58) (v := gA m10 (gR (xG X) 800 x0) 11) 684 dX8_opening_58 (qr_800 hT k_x0) (by decide) (by decide) rfl ?_
      refine qn_aload_n hX (pc := 59) dX8_opening_59 0 rfl rfl ?_
      refine qn_getI hX (pc := 60) fd_X8_opening_208 dX8_opening_60 k_x0 ?_
      obtain ⟨v11, e_v11, h⟩ := kp_e h
      have r_v11 : in32 v11 := by rw [e_v11]; exact w32_in _
      refine qn_iaddw hX (pc := 63) dX8_opening_63 e_v11 ?_
      obtain ⟨m12, e_m12, h⟩ := kp_e h
      refine qn_iast hX (pc := 64) 684 dX8_opening_64 (qr_800 hT k_x0) (by decide) (by decide) hR_m10 r_v11 e_m12 (fun hR_m12 => ?_) 
      refine qn_aload_n hX (pc := 65) dX8_opening_65 0 rfl rfl ?_
      refine qn_getI hX (pc := 66) fd_X8_opening_208 dX8_opening_66 k_x0 ?_
      exact qn_iret hX (pc := 69) dX8_opening_69 hE hR_m12 (hR_m12.i 819 _ rfl) (Option.some.inj h)
    · have h := ite_t h c5
      refine qn_iconst hX (pc := 29) dX8_opening_29 ?_
      exact qn_iret hX (pc := 30) dX8_opening_30 hE hR_m3 (by decide) (Option.some.inj h)
  · have h := ite_t h c1
    refine qn_iconst hX (pc := 9) dX8_opening_9 ?_
    exact qn_iret hX (pc := 10) dX8_opening_10 hE hR_m0 (by decide) (Option.some.inj h)
theorem k_X8_opening (l : Launch) {G : qG} (hT : qT G) {N : Nat} {x0 : Nat} (k_x0 : gK G x0 = 9) {m0 : qM} {r : Int} {nu : qM} (h : f_X8_opening N G x0 m0 = some (r, nu)) : qC l yX8_opening wsX8_opening 4 95 G [.ref x0] m0 (some (.int (iZ r))) (in32 r) nu := by
  refine qn_start (hy := by decide) hT (hw := rfl) (hn := Nat.le_of_ble_eq_true rfl) ?_
  intro X h1 h2 h3 h4 hX hR
  subst h4
  exact w_X8_opening hX ⟨h1, fun q => h2 ▸ q, h3⟩ k_x0 hR h
theorem dd_X8_opening : yX8_opening.cls = RX8 ∧ yX8_opening.cls ≠ "java/lang/invoke/MethodHandle" ∧ yX8_opening.cls ≠ "java/lang/invoke/VarHandle" ∧ (parseMethodDescriptor yX8_opening.desc).map (fun d => d.parameters.length) = some 0 := by decide +kernel
-- ProRataMarketModel.does
theorem hi_X8_does_8 : ∀ w ∈ wsX80, w ∈ wsX8_does := fun w h => List.mem_cons_of_mem _ (List.mem_append_right _ h)
theorem fd_X8_does_42 : qFd RX8 wsX8_does 42 8 30 1 830 := ⟨RX8, TX8, 32, _, rfl, hi_X8_does_8, by decide, (by decide +kernel : Cond.fieldLink RX8 42 (TX8 30).1 (TX8 30).2.1 (TX8 30).2.2.1 ∈ wsX8_does), rfl, rfl, by decide⟩
set_option maxHeartbeats 4000000 in
set_option maxRecDepth 20000 in
theorem w_X8_does {X : qB} {N : Nat} (hX : qOk X cX8_does RX8 4 (some .boolean) wsX8_does 7 176) {r : Int} {nu : qM} (hE : xr X = some (.int (iZ r)) ∧ (in01 r → xΦ X) ∧ xμ X = nu) 
    {x0 : Nat} {x1 : Int} (k_x0 : gK (xG X) x0 = 9) (r_x1 : in32 x1) {m0 : qM} (hR_m0 : qR (xG X) m0)
    (h : f_X8_does N (xG X)  x0 x1 m0 = some (r, nu)) : qN X 4 0 [(0, .ref x0), (1, .int (iZ x1))] [] m0 := by
  have hT := hX.T
  unfold f_X8_does at h
  refine qn_aload_n hX (pc := 0) dX8_does_0 0 rfl rfl ?_
  refine qn_getR hX (pc := 1) fd_X8_does_42 dX8_does_1 k_x0 ?_
  refine qn_iconst hX (pc := 4) dX8_does_4 ?_
  refine qn_iload_n hX (pc := 5) dX8_does_5 1 rfl rfl ?_
  obtain ⟨v1, e_v1, r_v1, h⟩ := ckI_e h
  refine qn_imul hX (pc := 6) dX8_does_6 e_v1 ?_
  refine qn_iconst hX (pc := 7) dX8_does_7 ?_
  obtain ⟨v2, e_v2, r_v2, h⟩ := ckI_e h
  refine qn_iadd hX (pc := 8) dX8_does_8 e_v2 ?_
  obtain ⟨v3, e_v3, b_v3, h⟩ := rdA_e h
  have r_v3 : in32 v3 := by rw [e_v3]; exact hR_m0.a (n := 650) _ (qr_830 hT k_x0) (by decide)
  refine qn_iald hX (pc := 9) 650 dX8_does_9 (qr_830 hT k_x0) (by decide) b_v3 e_v3 ?_
  refine qn_istore_n hX (pc := 10) (ls' := [(2, .int (iZ v3)), (0, .ref x0), (1, .int (iZ x1))]) dX8_does_10 rfl rfl rfl ?_
  refine qn_aload_n hX (pc := 11) dX8_does_11 1 rfl rfl ?_
  refine qn_getR hX (pc := 12) fd_X8_does_42 dX8_does_12 k_x0 ?_
  refine qn_iconst hX (pc := 15) dX8_does_15 ?_
  refine qn_iload_n hX (pc := 16) dX8_does_16 2 rfl rfl ?_
  obtain ⟨v4, e_v4, r_v4, h⟩ := ckI_e h
  refine qn_imul hX (pc := 17) dX8_does_17 e_v4 ?_
  refine qn_iconst hX (pc := 18) dX8_does_18 ?_
  obtain ⟨v5, e_v5, r_v5, h⟩ := ckI_e h
  refine qn_iadd hX (pc := 19) dX8_does_19 e_v5 ?_
  obtain ⟨v6, e_v6, b_v6, h⟩ := rdA_e h
  have r_v6 : in32 v6 := by rw [e_v6]; exact hR_m0.a (n := 650) _ (qr_830 hT k_x0) (by decide)
  refine qn_iald hX (pc := 20) 650 dX8_does_20 (qr_830 hT k_x0) (by decide) b_v6 e_v6 ?_
  refine qn_istore_n hX (pc := 21) (ls' := [(3, .int (iZ v6)), (2, .int (iZ v3)), (0, .ref x0), (1, .int (iZ x1))]) dX8_does_21 rfl rfl rfl ?_
  refine qn_aload_n hX (pc := 22) dX8_does_22 2 rfl rfl ?_
  refine qn_getR hX (pc := 23) fd_X8_does_42 dX8_does_23 k_x0 ?_
  refine qn_iconst hX (pc := 26) dX8_does_26 ?_
  refine qn_iload_n hX (pc := 27) dX8_does_27 3 rfl rfl ?_
  obtain ⟨v7, e_v7, r_v7, h⟩ := ckI_e h
  refine qn_imul hX (pc := 28) dX8_does_28 e_v7 ?_
  obtain ⟨v8, e_v8, b_v8, h⟩ := rdA_e h
  have r_v8 : in32 v8 := by rw [e_v8]; exact hR_m0.a (n := 650) _ (qr_830 hT k_x0) (by decide)
  refine qn_iald hX (pc := 29) 650 dX8_does_29 (qr_830 hT k_x0) (by decide) b_v8 e_v8 ?_
  by_cases c9 : v8 = 0
  · have h := ite_t h c9
    refine qn_tswIn hX (pc := 30) r_v8 72 dX8_does_30 0 c9 (by decide) rfl (by decide) ?_
    refine qn_aload_n hX (pc := 72) dX8_does_72 2 rfl rfl ?_
    refine qn_iload_n hX (pc := 73) dX8_does_73 1 rfl rfl ?_
    refine qn_aload_n hX (pc := 74) dX8_does_74 2 rfl rfl ?_
    refine qn_getR hX (pc := 75) fd_X8_does_42 dX8_does_75 k_x0 ?_
    refine qn_iconst hX (pc := 78) dX8_does_78 ?_
    refine qn_iload_n hX (pc := 79) dX8_does_79 3 rfl rfl ?_
    obtain ⟨v10, e_v10, r_v10, h⟩ := ckI_e h
    refine qn_imul hX (pc := 80) dX8_does_80 e_v10 ?_
    obtain ⟨v11, e_v11, b_v11, h⟩ := rdA_e h
    have r_v11 : in32 v11 := by rw [e_v11]; exact hR_m0.a (n := 650) _ (qr_830 hT k_x0) (by decide)
    refine qn_iald hX (pc := 81) 650 dX8_does_81 (qr_830 hT k_x0) (by decide) b_v11 e_v11 ?_
    refine qn_aload_n hX (pc := 82) dX8_does_82 2 rfl rfl ?_
    refine qn_getR hX (pc := 83) fd_X8_does_42 dX8_does_83 k_x0 ?_
    refine qn_iconst hX (pc := 86) dX8_does_86 ?_
    refine qn_iload_n hX (pc := 87) dX8_does_87 3 rfl rfl ?_
    obtain ⟨v12, e_v12, r_v12, h⟩ := ckI_e h
    refine qn_imul hX (pc := 88) dX8_does_88 e_v12 ?_
    refine qn_iconst hX (pc := 89) dX8_does_89 ?_
    obtain ⟨v13, e_v13, r_v13, h⟩ := ckI_e h
    refine qn_iadd hX (pc := 90) dX8_does_90 e_v13 ?_
    obtain ⟨v14, e_v14, b_v14, h⟩ := rdA_e h
    have r_v14 : in32 v14 := by rw [e_v14]; exact hR_m0.a (n := 650) _ (qr_830 hT k_x0) (by decide)
    refine qn_iald hX (pc := 91) 650 dX8_does_91 (qr_830 hT k_x0) (by decide) b_v14 e_v14 ?_
    refine qn_iload_n hX (pc := 92) dX8_does_92 0 rfl rfl ?_
    refine qn_aload_n hX (pc := 93) dX8_does_93 2 rfl rfl ?_
    refine qn_getR hX (pc := 94) fd_X8_does_42 dX8_does_94 k_x0 ?_
    refine qn_iconst hX (pc := 97) dX8_does_97 ?_
    refine qn_iload_n hX (pc := 98) dX8_does_98 3 rfl rfl ?_
    obtain ⟨v15, e_v15, r_v15, h⟩ := ckI_e h
    refine qn_imul hX (pc := 99) dX8_does_99 e_v15 ?_
    refine qn_iconst hX (pc := 100) dX8_does_100 ?_
    obtain ⟨v16, e_v16, r_v16, h⟩ := ckI_e h
    refine qn_iadd hX (pc := 101) dX8_does_101 e_v16 ?_
    obtain ⟨v17, e_v17, b_v17, h⟩ := rdA_e h
    have r_v17 : in32 v17 := by rw [e_v17]; exact hR_m0.a (n := 650) _ (qr_830 hT k_x0) (by decide)
    refine qn_iald hX (pc := 102) 650 dX8_does_102 (qr_830 hT k_x0) (by decide) b_v17 e_v17 ?_
    obtain ⟨v19, m18, e_m18, h⟩ := kb2_e h
    refine qn_callVi hX (pc := 103) [.int (iZ v3), .int (iZ v11), .int (iZ v14), .int (iZ v6), .int (iZ v17)] [.int (iZ v17), .int (iZ v6), .int (iZ v14), .int (iZ v11), .int (iZ v3)] 5 dX8_does_103 gX8_does_X8_orders rfl dd_X8_orders ⟨rfl, rfl⟩ rfl rfl (by decide) k_x0 rfl rfl hR_m0 (k_X8_orders (xl X) hT k_x0 r_v3 r_v11 r_v14 r_v6 r_v17 e_m18) (fun r_v19 hR_m18 => ?_)
    refine qn_if_le hX (pc := 106) r_v19 113 dX8_does_106 (by decide) (fun c20 => ?_) (fun c20 => ?_)
    · have h := ite_f h c20
      refine qn_iconst hX (pc := 113) dX8_does_113 ?_
      exact qn_zret hX (pc := 114) dX8_does_114 hE hR_m18 (by decide) (Option.some.inj h)
    · have h := ite_t h c20
      refine qn_iconst hX (pc := 109) dX8_does_109 ?_
      refine qn_goto hX (pc := 110) 114 dX8_does_110 (by decide) ?_
      exact qn_zret hX (pc := 114) dX8_does_114 hE hR_m18 (by decide) (Option.some.inj h)
  have h := ite_f h c9
  by_cases c21 : v8 = 1
  · have h := ite_t h c21
    refine qn_tswIn hX (pc := 30) r_v8 72 dX8_does_30 1 c21 (by decide) rfl (by decide) ?_
    refine qn_aload_n hX (pc := 72) dX8_does_72 2 rfl rfl ?_
    refine qn_iload_n hX (pc := 73) dX8_does_73 1 rfl rfl ?_
    refine qn_aload_n hX (pc := 74) dX8_does_74 2 rfl rfl ?_
    refine qn_getR hX (pc := 75) fd_X8_does_42 dX8_does_75 k_x0 ?_
    refine qn_iconst hX (pc := 78) dX8_does_78 ?_
    refine qn_iload_n hX (pc := 79) dX8_does_79 3 rfl rfl ?_
    obtain ⟨v22, e_v22, r_v22, h⟩ := ckI_e h
    refine qn_imul hX (pc := 80) dX8_does_80 e_v22 ?_
    obtain ⟨v23, e_v23, b_v23, h⟩ := rdA_e h
    have r_v23 : in32 v23 := by rw [e_v23]; exact hR_m0.a (n := 650) _ (qr_830 hT k_x0) (by decide)
    refine qn_iald hX (pc := 81) 650 dX8_does_81 (qr_830 hT k_x0) (by decide) b_v23 e_v23 ?_
    refine qn_aload_n hX (pc := 82) dX8_does_82 2 rfl rfl ?_
    refine qn_getR hX (pc := 83) fd_X8_does_42 dX8_does_83 k_x0 ?_
    refine qn_iconst hX (pc := 86) dX8_does_86 ?_
    refine qn_iload_n hX (pc := 87) dX8_does_87 3 rfl rfl ?_
    obtain ⟨v24, e_v24, r_v24, h⟩ := ckI_e h
    refine qn_imul hX (pc := 88) dX8_does_88 e_v24 ?_
    refine qn_iconst hX (pc := 89) dX8_does_89 ?_
    obtain ⟨v25, e_v25, r_v25, h⟩ := ckI_e h
    refine qn_iadd hX (pc := 90) dX8_does_90 e_v25 ?_
    obtain ⟨v26, e_v26, b_v26, h⟩ := rdA_e h
    have r_v26 : in32 v26 := by rw [e_v26]; exact hR_m0.a (n := 650) _ (qr_830 hT k_x0) (by decide)
    refine qn_iald hX (pc := 91) 650 dX8_does_91 (qr_830 hT k_x0) (by decide) b_v26 e_v26 ?_
    refine qn_iload_n hX (pc := 92) dX8_does_92 0 rfl rfl ?_
    refine qn_aload_n hX (pc := 93) dX8_does_93 2 rfl rfl ?_
    refine qn_getR hX (pc := 94) fd_X8_does_42 dX8_does_94 k_x0 ?_
    refine qn_iconst hX (pc := 97) dX8_does_97 ?_
    refine qn_iload_n hX (pc := 98) dX8_does_98 3 rfl rfl ?_
    obtain ⟨v27, e_v27, r_v27, h⟩ := ckI_e h
    refine qn_imul hX (pc := 99) dX8_does_99 e_v27 ?_
    refine qn_iconst hX (pc := 100) dX8_does_100 ?_
    obtain ⟨v28, e_v28, r_v28, h⟩ := ckI_e h
    refine qn_iadd hX (pc := 101) dX8_does_101 e_v28 ?_
    obtain ⟨v29, e_v29, b_v29, h⟩ := rdA_e h
    have r_v29 : in32 v29 := by rw [e_v29]; exact hR_m0.a (n := 650) _ (qr_830 hT k_x0) (by decide)
    refine qn_iald hX (pc := 102) 650 dX8_does_102 (qr_830 hT k_x0) (by decide) b_v29 e_v29 ?_
    obtain ⟨v31, m30, e_m30, h⟩ := kb2_e h
    refine qn_callVi hX (pc := 103) [.int (iZ v3), .int (iZ v23), .int (iZ v26), .int (iZ v6), .int (iZ v29)] [.int (iZ v29), .int (iZ v6), .int (iZ v26), .int (iZ v23), .int (iZ v3)] 5 dX8_does_103 gX8_does_X8_orders rfl dd_X8_orders ⟨rfl, rfl⟩ rfl rfl (by decide) k_x0 rfl rfl hR_m0 (k_X8_orders (xl X) hT k_x0 r_v3 r_v23 r_v26 r_v6 r_v29 e_m30) (fun r_v31 hR_m30 => ?_)
    refine qn_if_le hX (pc := 106) r_v31 113 dX8_does_106 (by decide) (fun c32 => ?_) (fun c32 => ?_)
    · have h := ite_f h c32
      refine qn_iconst hX (pc := 113) dX8_does_113 ?_
      exact qn_zret hX (pc := 114) dX8_does_114 hE hR_m30 (by decide) (Option.some.inj h)
    · have h := ite_t h c32
      refine qn_iconst hX (pc := 109) dX8_does_109 ?_
      refine qn_goto hX (pc := 110) 114 dX8_does_110 (by decide) ?_
      exact qn_zret hX (pc := 114) dX8_does_114 hE hR_m30 (by decide) (Option.some.inj h)
  have h := ite_f h c21
  by_cases c33 : v8 = 2
  · have h := ite_t h c33
    refine qn_tswIn hX (pc := 30) r_v8 115 dX8_does_30 2 c33 (by decide) rfl (by decide) ?_
    refine qn_aload_n hX (pc := 115) dX8_does_115 2 rfl rfl ?_
    refine qn_iload_n hX (pc := 116) dX8_does_116 1 rfl rfl ?_
    obtain ⟨v35, m34, e_m34, h⟩ := kb2_e h
    refine qn_callVi hX (pc := 117) [.int (iZ v3)] [.int (iZ v3)] 1 dX8_does_117 gX8_does_X8_takesOff rfl dd_X8_takesOff ⟨rfl, rfl⟩ rfl rfl (by decide) k_x0 rfl rfl hR_m0 (k_X8_takesOff (xl X) hT k_x0 r_v3 e_m34) (fun r_v35 hR_m34 => ?_)
    refine qn_if_le hX (pc := 120) r_v35 127 dX8_does_120 (by decide) (fun c36 => ?_) (fun c36 => ?_)
    · have h := ite_f h c36
      refine qn_iconst hX (pc := 127) dX8_does_127 ?_
      exact qn_zret hX (pc := 128) dX8_does_128 hE hR_m34 (by decide) (Option.some.inj h)
    · have h := ite_t h c36
      refine qn_iconst hX (pc := 123) dX8_does_123 ?_
      refine qn_goto hX (pc := 124) 128 dX8_does_124 (by decide) ?_
      exact qn_zret hX (pc := 128) dX8_does_128 hE hR_m34 (by decide) (Option.some.inj h)
  have h := ite_f h c33
  by_cases c37 : v8 = 3
  · have h := ite_t h c37
    refine qn_tswIn hX (pc := 30) r_v8 129 dX8_does_30 3 c37 (by decide) rfl (by decide) ?_
    refine qn_aload_n hX (pc := 129) dX8_does_129 2 rfl rfl ?_
    refine qn_iload_n hX (pc := 130) dX8_does_130 1 rfl rfl ?_
    refine qn_iload_n hX (pc := 131) dX8_does_131 0 rfl rfl ?_
    obtain ⟨v39, m38, e_m38, h⟩ := kb2_e h
    refine qn_callVi hX (pc := 132) [.int (iZ v3), .int (iZ v6)] [.int (iZ v6), .int (iZ v3)] 2 dX8_does_132 gX8_does_X8_cuts rfl dd_X8_cuts ⟨rfl, rfl⟩ rfl rfl (by decide) k_x0 rfl rfl hR_m0 (k_X8_cuts (xl X) hT k_x0 r_v3 r_v6 e_m38) (fun r_v39 hR_m38 => ?_)
    refine qn_if_le hX (pc := 135) r_v39 142 dX8_does_135 (by decide) (fun c40 => ?_) (fun c40 => ?_)
    · have h := ite_f h c40
      refine qn_iconst hX (pc := 142) dX8_does_142 ?_
      exact qn_zret hX (pc := 143) dX8_does_143 hE hR_m38 (by decide) (Option.some.inj h)
    · have h := ite_t h c40
      refine qn_iconst hX (pc := 138) dX8_does_138 ?_
      refine qn_goto hX (pc := 139) 143 dX8_does_139 (by decide) ?_
      exact qn_zret hX (pc := 143) dX8_does_143 hE hR_m38 (by decide) (Option.some.inj h)
  have h := ite_f h c37
  by_cases c41 : v8 = 4
  · have h := ite_t h c41
    refine qn_tswIn hX (pc := 30) r_v8 144 dX8_does_30 4 c41 (by decide) rfl (by decide) ?_
    refine qn_aload_n hX (pc := 144) dX8_does_144 2 rfl rfl ?_
    refine qn_iconst hX (pc := 145) dX8_does_145 ?_
    refine qn_iload_n hX (pc := 146) dX8_does_146 1 rfl rfl ?_
    refine qn_iconst hX (pc := 147) dX8_does_147 ?_
    refine qn_sipush hX (pc := 148) dX8_does_148 (by decide) ?_
    obtain ⟨v43, m42, e_m42, h⟩ := kb2_e h
    refine qn_callVi hX (pc := 151) [.int (iZ 0), .int (iZ v3), .int (iZ 0), .int (iZ 1000)] [.int (iZ 1000), .int (iZ 0), .int (iZ v3), .int (iZ 0)] 4 dX8_does_151 gX8_does_X8_sets rfl dd_X8_sets ⟨rfl, rfl⟩ rfl rfl (by decide) k_x0 rfl rfl hR_m0 (k_X8_sets (xl X) hT k_x0 (by decide) r_v3 (by decide) (by decide) e_m42) (fun r_v43 hR_m42 => ?_)
    refine qn_if_lt hX (pc := 154) r_v43 161 dX8_does_154 (by decide) (fun c44 => ?_) (fun c44 => ?_)
    · have h := ite_t h c44
      refine qn_iconst hX (pc := 161) dX8_does_161 ?_
      exact qn_zret hX (pc := 162) dX8_does_162 hE hR_m42 (by decide) (Option.some.inj h)
    · have h := ite_f h c44
      refine qn_iconst hX (pc := 157) dX8_does_157 ?_
      refine qn_goto hX (pc := 158) 162 dX8_does_158 (by decide) ?_
      exact qn_zret hX (pc := 162) dX8_does_162 hE hR_m42 (by decide) (Option.some.inj h)
  have h := ite_f h c41
  by_cases c45 : v8 = 5
  · have h := ite_t h c45
    refine qn_tswIn hX (pc := 30) r_v8 163 dX8_does_30 5 c45 (by decide) rfl (by decide) ?_
    refine qn_aload_n hX (pc := 163) dX8_does_163 2 rfl rfl ?_
    refine qn_iconst hX (pc := 164) dX8_does_164 ?_
    refine qn_iload_n hX (pc := 165) dX8_does_165 1 rfl rfl ?_
    refine qn_iconst hX (pc := 166) dX8_does_166 ?_
    refine qn_bipush hX (pc := 167) dX8_does_167 (by decide) ?_
    obtain ⟨v47, m46, e_m46, h⟩ := kb2_e h
    refine qn_callVi hX (pc := 169) [.int (iZ 1), .int (iZ v3), .int (iZ 1), .int (iZ 50)] [.int (iZ 50), .int (iZ 1), .int (iZ v3), .int (iZ 1)] 4 dX8_does_169 gX8_does_X8_sets rfl dd_X8_sets ⟨rfl, rfl⟩ rfl rfl (by decide) k_x0 rfl rfl hR_m0 (k_X8_sets (xl X) hT k_x0 (by decide) r_v3 (by decide) (by decide) e_m46) (fun r_v47 hR_m46 => ?_)
    refine qn_if_lt hX (pc := 172) r_v47 179 dX8_does_172 (by decide) (fun c48 => ?_) (fun c48 => ?_)
    · have h := ite_t h c48
      refine qn_iconst hX (pc := 179) dX8_does_179 ?_
      exact qn_zret hX (pc := 180) dX8_does_180 hE hR_m46 (by decide) (Option.some.inj h)
    · have h := ite_f h c48
      refine qn_iconst hX (pc := 175) dX8_does_175 ?_
      refine qn_goto hX (pc := 176) 180 dX8_does_176 (by decide) ?_
      exact qn_zret hX (pc := 180) dX8_does_180 hE hR_m46 (by decide) (Option.some.inj h)
  have h := ite_f h c45
  by_cases c49 : v8 = 6
  · have h := ite_t h c49
    refine qn_tswIn hX (pc := 30) r_v8 181 dX8_does_30 6 c49 (by decide) rfl (by decide) ?_
    refine qn_aload_n hX (pc := 181) dX8_does_181 2 rfl rfl ?_
    obtain ⟨v51, m50, e_m50, h⟩ := kb2_e h
    refine qn_callVi hX (pc := 182) [] [] 0 dX8_does_182 gX8_does_X8_calls rfl dd_X8_calls ⟨rfl, rfl⟩ rfl rfl (by decide) k_x0 rfl rfl hR_m0 (k_X8_calls (xl X) hT k_x0 e_m50) (fun r_v51 hR_m50 => ?_)
    exact qn_zret hX (pc := 185) dX8_does_185 hE hR_m50 r_v51 (Option.some.inj h)
  have h := ite_f h c49
  refine qn_tswOut hX (pc := 30) r_v8 186 dX8_does_30 (by omega) (by decide) ?_
  refine qn_aload_n hX (pc := 186) dX8_does_186 2 rfl rfl ?_
  obtain ⟨v53, m52, e_m52, h⟩ := kb2_e h
  refine qn_callVi hX (pc := 187) [] [] 0 dX8_does_187 gX8_does_X8_opening rfl dd_X8_opening ⟨rfl, rfl⟩ rfl rfl (by decide) k_x0 rfl rfl hR_m0 (k_X8_opening (xl X) hT k_x0 e_m52) (fun r_v53 hR_m52 => ?_)
  refine qn_if_lt hX (pc := 190) r_v53 197 dX8_does_190 (by decide) (fun c54 => ?_) (fun c54 => ?_)
  · have h := ite_t h c54
    refine qn_iconst hX (pc := 197) dX8_does_197 ?_
    exact qn_zret hX (pc := 198) dX8_does_198 hE hR_m52 (by decide) (Option.some.inj h)
  · have h := ite_f h c54
    refine qn_iconst hX (pc := 193) dX8_does_193 ?_
    refine qn_goto hX (pc := 194) 198 dX8_does_194 (by decide) ?_
    exact qn_zret hX (pc := 198) dX8_does_198 hE hR_m52 (by decide) (Option.some.inj h)
theorem k_X8_does (l : Launch) {G : qG} (hT : qT G) {N : Nat} {x0 : Nat} {x1 : Int} (k_x0 : gK G x0 = 9) (r_x1 : in32 x1) {m0 : qM} {r : Int} {nu : qM} (h : f_X8_does N G x0 x1 m0 = some (r, nu)) : qC l yX8_does wsX8_does 7 176 G [.ref x0, .int (iZ x1)] m0 (some (.int (iZ r))) (in01 r) nu := by
  refine qn_start (hy := by decide) hT (hw := rfl) (hn := Nat.le_of_ble_eq_true rfl) ?_
  intro X h1 h2 h3 h4 hX hR
  subst h4
  exact w_X8_does hX ⟨h1, fun q => h2 ▸ q, h3⟩ k_x0 r_x1 hR h
theorem dd_X8_does : yX8_does.cls = RX8 ∧ yX8_does.cls ≠ "java/lang/invoke/MethodHandle" ∧ yX8_does.cls ≠ "java/lang/invoke/VarHandle" ∧ (parseMethodDescriptor yX8_does.desc).map (fun d => d.parameters.length) = some 1 := by decide +kernel
-- ProRataMarketModel.puts
theorem hi_X8_puts_8 : ∀ w ∈ wsX80, w ∈ wsX8_puts := fun w h => List.mem_cons_of_mem _ (List.mem_append_right _ h)
theorem fd_X8_puts_38 : qFd RX8 wsX8_puts 38 8 21 1 821 := ⟨RX8, TX8, 32, _, rfl, hi_X8_puts_8, by decide, (by decide +kernel : Cond.fieldLink RX8 38 (TX8 21).1 (TX8 21).2.1 (TX8 21).2.2.1 ∈ wsX8_puts), rfl, rfl, by decide⟩
theorem fd_X8_puts_264 : qFd RX8 wsX8_puts 264 8 22 0 822 := ⟨RX8, TX8, 32, _, rfl, hi_X8_puts_8, by decide, (by decide +kernel : Cond.fieldLink RX8 264 (TX8 22).1 (TX8 22).2.1 (TX8 22).2.2.1 ∈ wsX8_puts), rfl, rfl, by decide⟩
theorem fp_X8_puts_264 : qFp RX8 wsX8_puts 264 8 22 0 822 .int := ⟨RX8, TX8, 32, _, tyX8, rfl, hi_X8_puts_8, by decide, (by decide +kernel : Cond.fieldLink RX8 264 (TX8 22).1 (TX8 22).2.1 (TX8 22).2.2.1 ∈ wsX8_puts), rfl, rfl, by decide, tyX8_ok, nmX8, rfl, by decide +kernel⟩
set_option maxHeartbeats 4000000 in
set_option maxRecDepth 20000 in
theorem w_X8_puts_3 {X : qB} {N : Nat} (hX : qOk X cX8_puts RX8 3 none wsX8_puts 0 0) {r : qM} (hE : xr X = none ∧ (True → xΦ X) ∧ xμ X = r) {k3 : (Nat → Int → Int → qM → Option (qM))} (hk3 : ∀ (x0 : Nat) (x1 : Int) (x2 : Int) (m0 : qM), gK (xG X) x0 = 9 → in32 x1 → in32 x2 → qR (xG X) m0 → k3 x0 x1 x2 m0 = some r → qN X 3 3 [(0, .ref x0), (1, .int (iZ x1)), (2, .int (iZ x2))] [] m0)
    {x0 : Nat} {x1 : Int} {x2 : Int} (k_x0 : gK (xG X) x0 = 9) (r_x1 : in32 x1) (r_x2 : in32 x2) {m0 : qM} (hR_m0 : qR (xG X) m0)
    (h : f_X8_puts_3 N (xG X) k3 x0 x1 x2 m0 = some r) : qN X 3 3 [(0, .ref x0), (1, .int (iZ x1)), (2, .int (iZ x2))] [] m0 := by
  have hT := hX.T
  unfold f_X8_puts_3 at h
  refine qn_iload_n hX (pc := 3) dX8_puts_3 2 rfl rfl ?_
  refine qn_if_lt hX (pc := 4) r_x2 36 dX8_puts_4 (by decide) (fun c1 => ?_) (fun c1 => ?_)
  · have h := ite_t h c1
    exact qn_vret hX (pc := 36) dX8_puts_36 hE hR_m0 (Option.some.inj h)
  · have h := ite_f h c1
    refine qn_aload_n hX (pc := 7) dX8_puts_7 0 rfl rfl ?_
    refine qn_getR hX (pc := 8) fd_X8_puts_38 dX8_puts_8 k_x0 ?_
    refine qn_aload_n hX (pc := 11) dX8_puts_11 0 rfl rfl ?_
    refine qn_getI hX (pc := 12) fd_X8_puts_264 dX8_puts_12 k_x0 ?_
    refine qn_iload_n hX (pc := 15) dX8_puts_15 1 rfl rfl ?_
    refine qn_iload_n hX (pc := 16) dX8_puts_16 2 rfl rfl ?_
    obtain ⟨v2, e_v2, h⟩ := kp_e h
    have r_v2 : in32 v2 := by rw [e_v2]; exact in32_of _
    refine qn_ishr hX (pc := 17) dX8_puts_17 e_v2 ?_
    obtain ⟨v3, e_v3, h⟩ := kp_e h
    have r_v3 : in32 v3 := by rw [e_v3]; exact in32_of _
    refine qn_i2b hX (pc := 18) dX8_puts_18 e_v3 ?_
    obtain ⟨m4, e_m4, b_m4, y_m4, h⟩ := wrB_e h
    refine qn_bast hX (pc := 19) 500 dX8_puts_19 (qr_821 hT k_x0) (by decide) b_m4 hR_m0 y_m4 e_m4 (fun hR_m4 => ?_) 
    refine qn_aload_n hX (pc := 20) dX8_puts_20 0 rfl rfl ?_
    refine qn_dup hX (pc := 21) dX8_puts_21 rfl ?_
    refine qn_getI hX (pc := 22) fd_X8_puts_264 dX8_puts_22 k_x0 ?_
    refine qn_iconst hX (pc := 25) dX8_puts_25 ?_
    obtain ⟨v5, e_v5, r_v5, h⟩ := ckI_e h
    refine qn_iadd hX (pc := 26) dX8_puts_26 e_v5 ?_
    obtain ⟨m6, e_m6, h⟩ := kp_e h
    refine qn_putI hX (pc := 27) fp_X8_puts_264 dX8_puts_27 k_x0 hR_m4 r_v5 e_m6 (fun hR_m6 => ?_) 
    obtain ⟨v7, e_v7, r_v7, h⟩ := ckI_e h
    refine qn_iinc hX (pc := 30) (ls' := [(2, .int (iZ v7)), (0, .ref x0), (1, .int (iZ x1))]) dX8_puts_30 2 rfl e_v7 rfl rfl ?_
    refine qn_goto hX (pc := 33) 3 dX8_puts_33 (by decide) ?_
    refine qn_sub (ls' := [(0, .ref x0), (1, .int (iZ x1)), (2, .int (iZ v7))]) [1, 2, 0] rfl ?_
    exact hk3 x0 x1 v7 m6 k_x0 r_x1 r_v7 hR_m6 h
set_option maxHeartbeats 4000000 in
set_option maxRecDepth 20000 in
theorem w_X8_puts_L3 {X : qB} {N : Nat} (hX : qOk X cX8_puts RX8 3 none wsX8_puts 0 0) {r : qM} (hE : xr X = none ∧ (True → xΦ X) ∧ xμ X = r) 
    {x0 : Nat} {x1 : Int} {x2 : Int} (k_x0 : gK (xG X) x0 = 9) (r_x1 : in32 x1) (r_x2 : in32 x2) {m0 : qM} (hR_m0 : qR (xG X) m0)
    (h : f_X8_puts_L3 N (xG X)  x0 x1 x2 m0 = some r) : qN X 3 3 [(0, .ref x0), (1, .int (iZ x1)), (2, .int (iZ x2))] [] m0 := by
  unfold f_X8_puts_L3 at h
  exact qLoop_w (σ := Nat × Int × Int × qM) (P := fun p => gK (xG X) p.1 = 9 ∧ in32 p.2.1 ∧ in32 p.2.2.1 ∧ qR (xG X) p.2.2.2) (Q := fun p => qN X 3 3 [(0, .ref p.1), (1, .int (iZ p.2.1)), (2, .int (iZ p.2.2.1))] [] p.2.2.2) (fun k hrec p hp hh => w_X8_puts_3 hX hE (fun x0 x1 x2 m0 q0 q1 q2 hRm hh => hrec (x0, x1, x2, m0) ⟨q0, q1, q2, hRm⟩ hh) hp.1 hp.2.1 hp.2.2.1 hp.2.2.2 hh) N (x0, x1, x2, m0) ⟨k_x0, r_x1, r_x2, hR_m0⟩ h
set_option maxHeartbeats 4000000 in
set_option maxRecDepth 20000 in
theorem w_X8_puts {X : qB} {N : Nat} (hX : qOk X cX8_puts RX8 3 none wsX8_puts 0 0) {r : qM} (hE : xr X = none ∧ (True → xΦ X) ∧ xμ X = r) 
    {x0 : Nat} {x1 : Int} (k_x0 : gK (xG X) x0 = 9) (r_x1 : in32 x1) {m0 : qM} (hR_m0 : qR (xG X) m0)
    (h : f_X8_puts N (xG X)  x0 x1 m0 = some r) : qN X 3 0 [(0, .ref x0), (1, .int (iZ x1))] [] m0 := by
  have hT := hX.T
  unfold f_X8_puts at h
  refine qn_bipush hX (pc := 0) dX8_puts_0 (by decide) ?_
  refine qn_istore_n hX (pc := 2) (ls' := [(2, .int (iZ 24)), (0, .ref x0), (1, .int (iZ x1))]) dX8_puts_2 rfl rfl rfl ?_
  refine qn_sub (ls' := [(0, .ref x0), (1, .int (iZ x1)), (2, .int (iZ 24))]) [1, 2, 0] rfl ?_
  exact w_X8_puts_L3 hX hE  k_x0 r_x1 (by decide) hR_m0 h
theorem k_X8_puts (l : Launch) {G : qG} (hT : qT G) {N : Nat} {x0 : Nat} {x1 : Int} (k_x0 : gK G x0 = 9) (r_x1 : in32 x1) {m0 : qM} {r : qM} (h : f_X8_puts N G x0 x1 m0 = some r) : qC l yX8_puts wsX8_puts 0 0 G [.ref x0, .int (iZ x1)] m0 none True r := by
  refine qn_start (hy := by decide) hT (hw := rfl) (hn := Nat.le_of_ble_eq_true rfl) ?_
  intro X h1 h2 h3 h4 hX hR
  subst h4
  exact w_X8_puts hX ⟨h1, fun q => h2 ▸ q, h3⟩ k_x0 r_x1 hR h
theorem dd_X8_puts : yX8_puts.cls = RX8 ∧ yX8_puts.cls ≠ "java/lang/invoke/MethodHandle" ∧ yX8_puts.cls ≠ "java/lang/invoke/VarHandle" ∧ (parseMethodDescriptor yX8_puts.desc).map (fun d => d.parameters.length) = some 1 := by decide +kernel
-- ProRataMarketModel.feed
theorem hi_X8_feed_8 : ∀ w ∈ wsX80, w ∈ wsX8_feed := fun w h => List.mem_cons_of_mem _ (List.mem_append_right _ h)
theorem fp_X8_feed_45 : qFp RX8 wsX8_feed 45 8 4 0 804 .int := ⟨RX8, TX8, 32, _, tyX8, rfl, hi_X8_feed_8, by decide, (by decide +kernel : Cond.fieldLink RX8 45 (TX8 4).1 (TX8 4).2.1 (TX8 4).2.2.1 ∈ wsX8_feed), rfl, rfl, by decide, tyX8_ok, nmX8, rfl, by decide +kernel⟩
theorem fd_X8_feed_264 : qFd RX8 wsX8_feed 264 8 22 0 822 := ⟨RX8, TX8, 32, _, rfl, hi_X8_feed_8, by decide, (by decide +kernel : Cond.fieldLink RX8 264 (TX8 22).1 (TX8 22).2.1 (TX8 22).2.2.1 ∈ wsX8_feed), rfl, rfl, by decide⟩
set_option maxHeartbeats 4000000 in
set_option maxRecDepth 20000 in
theorem w_X8_feed {X : qB} {N : Nat} (hX : qOk X cX8_feed RX8 6 (some .int) wsX8_feed 1 22) {r : Int} {nu : qM} (hE : xr X = some (.int (iZ r)) ∧ (in32 r → xΦ X) ∧ xμ X = nu) 
    {x0 : Nat} {x1 : Int} {x2 : Int} {x3 : Int} {x4 : Int} {x5 : Int} (k_x0 : gK (xG X) x0 = 9) (r_x1 : in32 x1) (r_x2 : in32 x2) (r_x3 : in32 x3) (r_x4 : in32 x4) (r_x5 : in32 x5) {m0 : qM} (hR_m0 : qR (xG X) m0)
    (h : f_X8_feed N (xG X)  x0 x1 x2 x3 x4 x5 m0 = some (r, nu)) : qN X 6 0 [(0, .ref x0), (1, .int (iZ x1)), (2, .int (iZ x2)), (3, .int (iZ x3)), (4, .int (iZ x4)), (5, .int (iZ x5))] [] m0 := by
  have hT := hX.T
  unfold f_X8_feed at h
  refine qn_aload_n hX (pc := 0) dX8_feed_0 0 rfl rfl ?_
  refine qn_iconst hX (pc := 1) dX8_feed_1 ?_
  obtain ⟨m1, e_m1, h⟩ := kp_e h
  refine qn_putI hX (pc := 2) fp_X8_feed_45 dX8_feed_2 k_x0 hR_m0 (show in32 0 by decide) e_m1 (fun hR_m1 => ?_) 
  refine qn_aload_n hX (pc := 5) dX8_feed_5 0 rfl rfl ?_
  refine qn_getI hX (pc := 6) fd_X8_feed_264 dX8_feed_6 k_x0 ?_
  refine qn_bipush hX (pc := 9) dX8_feed_9 (by decide) ?_
  obtain ⟨v2, e_v2, r_v2, h⟩ := ckI_e h
  refine qn_iadd hX (pc := 11) dX8_feed_11 e_v2 ?_
  refine qn_sipush hX (pc := 12) dX8_feed_12 (by decide) ?_
  refine qn_icmp_le hX (pc := 15) r_v2 (by decide) 20 dX8_feed_15 (by decide) (fun c3 => ?_) (fun c3 => ?_)
  · have h := ite_f h c3
    refine qn_aload_n hX (pc := 20) dX8_feed_20 0 rfl rfl ?_
    refine qn_iload_n hX (pc := 21) dX8_feed_21 1 rfl rfl ?_
    obtain ⟨m4, e_m4, h⟩ := kb_e h
    refine qn_callVv hX (pc := 22) [.int (iZ x1)] [.int (iZ x1)] 1 dX8_feed_22 gX8_feed_X8_puts rfl dd_X8_puts ⟨rfl, rfl⟩ rfl rfl (by decide) k_x0 rfl rfl hR_m1 (k_X8_puts (xl X) hT k_x0 r_x1 e_m4) (fun r_v5 hR_m4 => ?_)
    refine qn_aload_n hX (pc := 25) dX8_feed_25 0 rfl rfl ?_
    refine qn_iload_n hX (pc := 26) dX8_feed_26 2 rfl rfl ?_
    obtain ⟨m6, e_m6, h⟩ := kb_e h
    refine qn_callVv hX (pc := 27) [.int (iZ x2)] [.int (iZ x2)] 1 dX8_feed_27 gX8_feed_X8_puts rfl dd_X8_puts ⟨rfl, rfl⟩ rfl rfl (by decide) k_x0 rfl rfl hR_m4 (k_X8_puts (xl X) hT k_x0 r_x2 e_m6) (fun r_v7 hR_m6 => ?_)
    refine qn_aload_n hX (pc := 30) dX8_feed_30 0 rfl rfl ?_
    refine qn_iload_n hX (pc := 31) dX8_feed_31 3 rfl rfl ?_
    obtain ⟨m8, e_m8, h⟩ := kb_e h
    refine qn_callVv hX (pc := 32) [.int (iZ x3)] [.int (iZ x3)] 1 dX8_feed_32 gX8_feed_X8_puts rfl dd_X8_puts ⟨rfl, rfl⟩ rfl rfl (by decide) k_x0 rfl rfl hR_m6 (k_X8_puts (xl X) hT k_x0 r_x3 e_m8) (fun r_v9 hR_m8 => ?_)
    refine qn_aload_n hX (pc := 35) dX8_feed_35 0 rfl rfl ?_
    refine qn_iload hX (pc := 36) dX8_feed_36 4 rfl ?_
    obtain ⟨m10, e_m10, h⟩ := kb_e h
    refine qn_callVv hX (pc := 38) [.int (iZ x4)] [.int (iZ x4)] 1 dX8_feed_38 gX8_feed_X8_puts rfl dd_X8_puts ⟨rfl, rfl⟩ rfl rfl (by decide) k_x0 rfl rfl hR_m8 (k_X8_puts (xl X) hT k_x0 r_x4 e_m10) (fun r_v11 hR_m10 => ?_)
    refine qn_aload_n hX (pc := 41) dX8_feed_41 0 rfl rfl ?_
    refine qn_iload hX (pc := 42) dX8_feed_42 5 rfl ?_
    obtain ⟨m12, e_m12, h⟩ := kb_e h
    refine qn_callVv hX (pc := 44) [.int (iZ x5)] [.int (iZ x5)] 1 dX8_feed_44 gX8_feed_X8_puts rfl dd_X8_puts ⟨rfl, rfl⟩ rfl rfl (by decide) k_x0 rfl rfl hR_m10 (k_X8_puts (xl X) hT k_x0 r_x5 e_m12) (fun r_v13 hR_m12 => ?_)
    refine qn_aload_n hX (pc := 47) dX8_feed_47 0 rfl rfl ?_
    refine qn_getI hX (pc := 48) fd_X8_feed_264 dX8_feed_48 k_x0 ?_
    exact qn_iret hX (pc := 51) dX8_feed_51 hE hR_m12 (hR_m12.i 822 _ rfl) (Option.some.inj h)
  · have h := ite_t h c3
    refine qn_iconst hX (pc := 18) dX8_feed_18 ?_
    exact qn_iret hX (pc := 19) dX8_feed_19 hE hR_m1 (by decide) (Option.some.inj h)
theorem k_X8_feed (l : Launch) {G : qG} (hT : qT G) {N : Nat} {x0 : Nat} {x1 : Int} {x2 : Int} {x3 : Int} {x4 : Int} {x5 : Int} (k_x0 : gK G x0 = 9) (r_x1 : in32 x1) (r_x2 : in32 x2) (r_x3 : in32 x3) (r_x4 : in32 x4) (r_x5 : in32 x5) {m0 : qM} {r : Int} {nu : qM} (h : f_X8_feed N G x0 x1 x2 x3 x4 x5 m0 = some (r, nu)) : qC l yX8_feed wsX8_feed 1 22 G [.ref x0, .int (iZ x1), .int (iZ x2), .int (iZ x3), .int (iZ x4), .int (iZ x5)] m0 (some (.int (iZ r))) (in32 r) nu := by
  refine qn_start (hy := by decide) hT (hw := rfl) (hn := Nat.le_of_ble_eq_true rfl) ?_
  intro X h1 h2 h3 h4 hX hR
  subst h4
  exact w_X8_feed hX ⟨h1, fun q => h2 ▸ q, h3⟩ k_x0 r_x1 r_x2 r_x3 r_x4 r_x5 hR h
theorem dd_X8_feed : yX8_feed.cls = RX8 ∧ yX8_feed.cls ≠ "java/lang/invoke/MethodHandle" ∧ yX8_feed.cls ≠ "java/lang/invoke/VarHandle" ∧ (parseMethodDescriptor yX8_feed.desc).map (fun d => d.parameters.length) = some 5 := by decide +kernel
-- ProRataMarketModel.grant
theorem hi_X8_grant_8 : ∀ w ∈ wsX80, w ∈ wsX8_grant := fun w h => List.mem_cons_of_mem _ (List.mem_append_right _ h)
theorem fp_X8_grant_45 : qFp RX8 wsX8_grant 45 8 4 0 804 .int := ⟨RX8, TX8, 32, _, tyX8, rfl, hi_X8_grant_8, by decide, (by decide +kernel : Cond.fieldLink RX8 45 (TX8 4).1 (TX8 4).2.1 (TX8 4).2.2.1 ∈ wsX8_grant), rfl, rfl, by decide, tyX8_ok, nmX8, rfl, by decide +kernel⟩
set_option maxHeartbeats 4000000 in
set_option maxRecDepth 20000 in
theorem w_X8_grant {X : qB} {N : Nat} (hX : qOk X cX8_grant RX8 2 (some .int) wsX8_grant 2 50) {r : Int} {nu : qM} (hE : xr X = some (.int (iZ r)) ∧ (in32 r → xΦ X) ∧ xμ X = nu) 
    {x0 : Nat} {x1 : Int} (k_x0 : gK (xG X) x0 = 9) (r_x1 : in32 x1) {m0 : qM} (hR_m0 : qR (xG X) m0)
    (h : f_X8_grant N (xG X)  x0 x1 m0 = some (r, nu)) : qN X 2 0 [(0, .ref x0), (1, .int (iZ x1))] [] m0 := by
  have hT := hX.T
  unfold f_X8_grant at h
  refine qn_aload_n hX (pc := 0) dX8_grant_0 0 rfl rfl ?_
  refine qn_iconst hX (pc := 1) dX8_grant_1 ?_
  obtain ⟨m1, e_m1, h⟩ := kp_e h
  refine qn_putI hX (pc := 2) fp_X8_grant_45 dX8_grant_2 k_x0 hR_m0 (show in32 0 by decide) e_m1 (fun hR_m1 => ?_) 
  refine qn_aload_n hX (pc := 5) dX8_grant_5 0 rfl rfl ?_
  refine qn_iconst hX (pc := 6) dX8_grant_6 ?_
  refine qn_iload_n hX (pc := 7) dX8_grant_7 1 rfl rfl ?_
  refine qn_iconst hX (pc := 8) dX8_grant_8 ?_
  refine qn_sipush hX (pc := 9) dX8_grant_9 (by decide) ?_
  obtain ⟨v3, m2, e_m2, h⟩ := kb2_e h
  refine qn_callVi hX (pc := 12) [.int (iZ 0), .int (iZ x1), .int (iZ 0), .int (iZ 1000)] [.int (iZ 1000), .int (iZ 0), .int (iZ x1), .int (iZ 0)] 4 dX8_grant_12 gX8_grant_X8_sets rfl dd_X8_sets ⟨rfl, rfl⟩ rfl rfl (by decide) k_x0 rfl rfl hR_m1 (k_X8_sets (xl X) hT k_x0 (by decide) r_x1 (by decide) (by decide) e_m2) (fun r_v3 hR_m2 => ?_)
  exact qn_iret hX (pc := 15) dX8_grant_15 hE hR_m2 r_v3 (Option.some.inj h)
theorem k_X8_grant (l : Launch) {G : qG} (hT : qT G) {N : Nat} {x0 : Nat} {x1 : Int} (k_x0 : gK G x0 = 9) (r_x1 : in32 x1) {m0 : qM} {r : Int} {nu : qM} (h : f_X8_grant N G x0 x1 m0 = some (r, nu)) : qC l yX8_grant wsX8_grant 2 50 G [.ref x0, .int (iZ x1)] m0 (some (.int (iZ r))) (in32 r) nu := by
  refine qn_start (hy := by decide) hT (hw := rfl) (hn := Nat.le_of_ble_eq_true rfl) ?_
  intro X h1 h2 h3 h4 hX hR
  subst h4
  exact w_X8_grant hX ⟨h1, fun q => h2 ▸ q, h3⟩ k_x0 r_x1 hR h
theorem dd_X8_grant : yX8_grant.cls = RX8 ∧ yX8_grant.cls ≠ "java/lang/invoke/MethodHandle" ∧ yX8_grant.cls ≠ "java/lang/invoke/VarHandle" ∧ (parseMethodDescriptor yX8_grant.desc).map (fun d => d.parameters.length) = some 1 := by decide +kernel
-- ProRataMarketModel.isInt
set_option maxHeartbeats 4000000 in
set_option maxRecDepth 20000 in
theorem w_X8_isInt {X : qB} {N : Nat} (hX : qOk X cX8_isInt RX8 2 (some .boolean) wsX8_isInt 0 0) {r : Int} {nu : qM} (hE : xr X = some (.int (iZ r)) ∧ (in01 r → xΦ X) ∧ xμ X = nu) 
    {x0 : Int} {x1 : Int} (r_x0 : in32 x0) (r_x1 : in32 x1) {m0 : qM} (hR_m0 : qR (xG X) m0)
    (h : f_X8_isInt N (xG X)  x0 x1 m0 = some (r, nu)) : qN X 2 0 [(0, .int (iZ x0)), (1, .int (iZ x1))] [] m0 := by
  have hT := hX.T
  unfold f_X8_isInt at h
  refine qn_iload_n hX (pc := 0) dX8_isInt_0 0 rfl rfl ?_
  refine qn_i2l hX (pc := 1) r_x0 dX8_isInt_1 ?_
  refine qn_iload_n hX (pc := 2) dX8_isInt_2 1 rfl rfl ?_
  refine qn_i2l hX (pc := 3) r_x1 dX8_isInt_3 ?_
  obtain ⟨v1, e_v1, r_v1, h⟩ := ckJ_e h
  refine qn_lmul hX (pc := 4) dX8_isInt_4 e_v1 ?_
  refine qn_ldc2 hX (pc := 5) 2147483647 dX8_isInt_5 (by decide +kernel : Cond.constantLong RX8 168 (2147483647) ∈ wsX8_isInt) (by decide) ?_
  refine qn_lcmp hX (pc := 8) r_v1 (by decide) dX8_isInt_8 ?_
  refine qn_if_gt hX (pc := 9) (sgn_in _ _) 16 dX8_isInt_9 (by decide) (fun c2 => ?_) (fun c2 => ?_)
  · have h := ite_t h ((sgn_gt _ _).mp c2)
    refine qn_iconst hX (pc := 16) dX8_isInt_16 ?_
    exact qn_zret hX (pc := 17) dX8_isInt_17 hE hR_m0 (by decide) (Option.some.inj h)
  · have h := ite_f h (fun q => c2 ((sgn_gt _ _).mpr q))
    refine qn_iconst hX (pc := 12) dX8_isInt_12 ?_
    refine qn_goto hX (pc := 13) 17 dX8_isInt_13 (by decide) ?_
    exact qn_zret hX (pc := 17) dX8_isInt_17 hE hR_m0 (by decide) (Option.some.inj h)
theorem k_X8_isInt (l : Launch) {G : qG} (hT : qT G) {N : Nat} {x0 : Int} {x1 : Int} (r_x0 : in32 x0) (r_x1 : in32 x1) {m0 : qM} {r : Int} {nu : qM} (h : f_X8_isInt N G x0 x1 m0 = some (r, nu)) : qC l yX8_isInt wsX8_isInt 0 0 G [.int (iZ x0), .int (iZ x1)] m0 (some (.int (iZ r))) (in01 r) nu := by
  refine qn_start (hy := by decide) hT (hw := rfl) (hn := Nat.le_of_ble_eq_true rfl) ?_
  intro X h1 h2 h3 h4 hX hR
  subst h4
  exact w_X8_isInt hX ⟨h1, fun q => h2 ▸ q, h3⟩ r_x0 r_x1 hR h
theorem dd_X8_isInt : yX8_isInt.cls ≠ "java/lang/invoke/MethodHandle" ∧ yX8_isInt.cls ≠ "java/lang/invoke/VarHandle" ∧ (parseMethodDescriptor yX8_isInt.desc).map (fun d => d.parameters.length) = some 2 := by decide +kernel
-- ProRataMarketModel.isOrder
set_option maxHeartbeats 4000000 in
set_option maxRecDepth 20000 in
theorem w_X8_isOrder {X : qB} {N : Nat} (hX : qOk X cX8_isOrder RX8 5 (some .boolean) wsX8_isOrder 1 25) {r : Int} {nu : qM} (hE : xr X = some (.int (iZ r)) ∧ (in01 r → xΦ X) ∧ xμ X = nu) 
    {x0 : Int} {x1 : Int} {x2 : Int} {x3 : Int} {x4 : Int} (r_x0 : in32 x0) (r_x1 : in32 x1) (r_x2 : in32 x2) (r_x3 : in32 x3) (r_x4 : in32 x4) {m0 : qM} (hR_m0 : qR (xG X) m0)
    (h : f_X8_isOrder N (xG X)  x0 x1 x2 x3 x4 m0 = some (r, nu)) : qN X 5 0 [(0, .int (iZ x0)), (1, .int (iZ x1)), (2, .int (iZ x2)), (3, .int (iZ x3)), (4, .int (iZ x4))] [] m0 := by
  have hT := hX.T
  unfold f_X8_isOrder at h
  refine qn_iload_n hX (pc := 0) dX8_isOrder_0 0 rfl rfl ?_
  refine qn_i2l hX (pc := 1) r_x0 dX8_isOrder_1 ?_
  refine qn_lconst hX (pc := 2) 0 dX8_isOrder_2 (by decide) ?_
  refine qn_ldc2 hX (pc := 3) 9 dX8_isOrder_3 (by decide +kernel : Cond.constantLong RX8 156 (9) ∈ wsX8_isOrder) (by decide) ?_
  obtain ⟨v2, m1, e_m1, h⟩ := kb2_e h
  refine qn_callSi hX (pc := 6) [.long (lZ x0), .long (lZ 0), .long (lZ 9)] [.long (lZ 9), .long (lZ 0), .long (lZ x0)] 3 dX8_isOrder_6 gX8_isOrder_X8_within rfl dd_X8_within ⟨rfl, rfl⟩ rfl rfl rfl hR_m0 (k_X8_within (xl X) hT (in32.l r_x0) (by decide) (by decide) e_m1) (fun r_v2 hR_m1 => ?_)
  refine qn_if_eq hX (pc := 9) r_v2.i 63 dX8_isOrder_9 (by decide) (fun c3 => ?_) (fun c3 => ?_)
  · have h := ite_t h c3
    refine qn_iconst hX (pc := 63) dX8_isOrder_63 ?_
    exact qn_zret hX (pc := 64) dX8_isOrder_64 hE hR_m1 (by decide) (Option.some.inj h)
  · have h := ite_f h c3
    refine qn_iload_n hX (pc := 12) dX8_isOrder_12 1 rfl rfl ?_
    refine qn_i2l hX (pc := 13) r_x1 dX8_isOrder_13 ?_
    refine qn_lconst hX (pc := 14) 0 dX8_isOrder_14 (by decide) ?_
    refine qn_lconst hX (pc := 15) 1 dX8_isOrder_15 (by decide) ?_
    obtain ⟨v5, m4, e_m4, h⟩ := kb2_e h
    refine qn_callSi hX (pc := 16) [.long (lZ x1), .long (lZ 0), .long (lZ 1)] [.long (lZ 1), .long (lZ 0), .long (lZ x1)] 3 dX8_isOrder_16 gX8_isOrder_X8_within rfl dd_X8_within ⟨rfl, rfl⟩ rfl rfl rfl hR_m1 (k_X8_within (xl X) hT (in32.l r_x1) (by decide) (by decide) e_m4) (fun r_v5 hR_m4 => ?_)
    refine qn_if_eq hX (pc := 19) r_v5.i 63 dX8_isOrder_19 (by decide) (fun c6 => ?_) (fun c6 => ?_)
    · have h := ite_t h c6
      refine qn_iconst hX (pc := 63) dX8_isOrder_63 ?_
      exact qn_zret hX (pc := 64) dX8_isOrder_64 hE hR_m4 (by decide) (Option.some.inj h)
    · have h := ite_f h c6
      refine qn_iload_n hX (pc := 22) dX8_isOrder_22 2 rfl rfl ?_
      refine qn_i2l hX (pc := 23) r_x2 dX8_isOrder_23 ?_
      refine qn_lconst hX (pc := 24) 1 dX8_isOrder_24 (by decide) ?_
      refine qn_ldc2 hX (pc := 25) 9999999 dX8_isOrder_25 (by decide +kernel : Cond.constantLong RX8 162 (9999999) ∈ wsX8_isOrder) (by decide) ?_
      obtain ⟨v8, m7, e_m7, h⟩ := kb2_e h
      refine qn_callSi hX (pc := 28) [.long (lZ x2), .long (lZ 1), .long (lZ 9999999)] [.long (lZ 9999999), .long (lZ 1), .long (lZ x2)] 3 dX8_isOrder_28 gX8_isOrder_X8_within rfl dd_X8_within ⟨rfl, rfl⟩ rfl rfl rfl hR_m4 (k_X8_within (xl X) hT (in32.l r_x2) (by decide) (by decide) e_m7) (fun r_v8 hR_m7 => ?_)
      refine qn_if_eq hX (pc := 31) r_v8.i 63 dX8_isOrder_31 (by decide) (fun c9 => ?_) (fun c9 => ?_)
      · have h := ite_t h c9
        refine qn_iconst hX (pc := 63) dX8_isOrder_63 ?_
        exact qn_zret hX (pc := 64) dX8_isOrder_64 hE hR_m7 (by decide) (Option.some.inj h)
      · have h := ite_f h c9
        refine qn_iload_n hX (pc := 34) dX8_isOrder_34 3 rfl rfl ?_
        refine qn_i2l hX (pc := 35) r_x3 dX8_isOrder_35 ?_
        refine qn_lconst hX (pc := 36) 1 dX8_isOrder_36 (by decide) ?_
        refine qn_ldc2 hX (pc := 37) 1000 dX8_isOrder_37 (by decide +kernel : Cond.constantLong RX8 164 (1000) ∈ wsX8_isOrder) (by decide) ?_
        obtain ⟨v11, m10, e_m10, h⟩ := kb2_e h
        refine qn_callSi hX (pc := 40) [.long (lZ x3), .long (lZ 1), .long (lZ 1000)] [.long (lZ 1000), .long (lZ 1), .long (lZ x3)] 3 dX8_isOrder_40 gX8_isOrder_X8_within rfl dd_X8_within ⟨rfl, rfl⟩ rfl rfl rfl hR_m7 (k_X8_within (xl X) hT (in32.l r_x3) (by decide) (by decide) e_m10) (fun r_v11 hR_m10 => ?_)
        refine qn_if_eq hX (pc := 43) r_v11.i 63 dX8_isOrder_43 (by decide) (fun c12 => ?_) (fun c12 => ?_)
        · have h := ite_t h c12
          refine qn_iconst hX (pc := 63) dX8_isOrder_63 ?_
          exact qn_zret hX (pc := 64) dX8_isOrder_64 hE hR_m10 (by decide) (Option.some.inj h)
        · have h := ite_f h c12
          refine qn_iload hX (pc := 46) dX8_isOrder_46 4 rfl ?_
          refine qn_i2l hX (pc := 48) r_x4 dX8_isOrder_48 ?_
          refine qn_lconst hX (pc := 49) 0 dX8_isOrder_49 (by decide) ?_
          refine qn_ldc2 hX (pc := 50) 3 dX8_isOrder_50 (by decide +kernel : Cond.constantLong RX8 166 (3) ∈ wsX8_isOrder) (by decide) ?_
          obtain ⟨v14, m13, e_m13, h⟩ := kb2_e h
          refine qn_callSi hX (pc := 53) [.long (lZ x4), .long (lZ 0), .long (lZ 3)] [.long (lZ 3), .long (lZ 0), .long (lZ x4)] 3 dX8_isOrder_53 gX8_isOrder_X8_within rfl dd_X8_within ⟨rfl, rfl⟩ rfl rfl rfl hR_m10 (k_X8_within (xl X) hT (in32.l r_x4) (by decide) (by decide) e_m13) (fun r_v14 hR_m13 => ?_)
          refine qn_if_eq hX (pc := 56) r_v14.i 63 dX8_isOrder_56 (by decide) (fun c15 => ?_) (fun c15 => ?_)
          · have h := ite_t h c15
            refine qn_iconst hX (pc := 63) dX8_isOrder_63 ?_
            exact qn_zret hX (pc := 64) dX8_isOrder_64 hE hR_m13 (by decide) (Option.some.inj h)
          · have h := ite_f h c15
            refine qn_iconst hX (pc := 59) dX8_isOrder_59 ?_
            refine qn_goto hX (pc := 60) 64 dX8_isOrder_60 (by decide) ?_
            exact qn_zret hX (pc := 64) dX8_isOrder_64 hE hR_m13 (by decide) (Option.some.inj h)
theorem k_X8_isOrder (l : Launch) {G : qG} (hT : qT G) {N : Nat} {x0 : Int} {x1 : Int} {x2 : Int} {x3 : Int} {x4 : Int} (r_x0 : in32 x0) (r_x1 : in32 x1) (r_x2 : in32 x2) (r_x3 : in32 x3) (r_x4 : in32 x4) {m0 : qM} {r : Int} {nu : qM} (h : f_X8_isOrder N G x0 x1 x2 x3 x4 m0 = some (r, nu)) : qC l yX8_isOrder wsX8_isOrder 1 25 G [.int (iZ x0), .int (iZ x1), .int (iZ x2), .int (iZ x3), .int (iZ x4)] m0 (some (.int (iZ r))) (in01 r) nu := by
  refine qn_start (hy := by decide) hT (hw := rfl) (hn := Nat.le_of_ble_eq_true rfl) ?_
  intro X h1 h2 h3 h4 hX hR
  subst h4
  exact w_X8_isOrder hX ⟨h1, fun q => h2 ▸ q, h3⟩ r_x0 r_x1 r_x2 r_x3 r_x4 hR h
theorem dd_X8_isOrder : yX8_isOrder.cls ≠ "java/lang/invoke/MethodHandle" ∧ yX8_isOrder.cls ≠ "java/lang/invoke/VarHandle" ∧ (parseMethodDescriptor yX8_isOrder.desc).map (fun d => d.parameters.length) = some 5 := by decide +kernel
-- ProRataMarketModel.see
theorem hi_X8_see_8 : ∀ w ∈ wsX80, w ∈ wsX8_see := fun w h => List.mem_cons_of_mem _ (List.mem_append_right _ h)
theorem fd_X8_see_270 : qFd RX8 wsX8_see 270 8 23 0 823 := ⟨RX8, TX8, 32, _, rfl, hi_X8_see_8, by decide, (by decide +kernel : Cond.fieldLink RX8 270 (TX8 23).1 (TX8 23).2.1 (TX8 23).2.2.1 ∈ wsX8_see), rfl, rfl, by decide⟩
theorem fd_X8_see_38 : qFd RX8 wsX8_see 38 8 21 1 821 := ⟨RX8, TX8, 32, _, rfl, hi_X8_see_8, by decide, (by decide +kernel : Cond.fieldLink RX8 38 (TX8 21).1 (TX8 21).2.1 (TX8 21).2.2.1 ∈ wsX8_see), rfl, rfl, by decide⟩
set_option maxHeartbeats 4000000 in
set_option maxRecDepth 20000 in
theorem w_X8_see {X : qB} {N : Nat} (hX : qOk X cX8_see RX8 2 (some .int) wsX8_see 0 0) {r : Int} {nu : qM} (hE : xr X = some (.int (iZ r)) ∧ (in32 r → xΦ X) ∧ xμ X = nu) 
    {x0 : Nat} {x1 : Int} (k_x0 : gK (xG X) x0 = 9) (r_x1 : in32 x1) {m0 : qM} (hR_m0 : qR (xG X) m0)
    (h : f_X8_see N (xG X)  x0 x1 m0 = some (r, nu)) : qN X 2 0 [(0, .ref x0), (1, .int (iZ x1))] [] m0 := by
  have hT := hX.T
  unfold f_X8_see at h
  refine qn_iload_n hX (pc := 0) dX8_see_0 1 rfl rfl ?_
  refine qn_aload_n hX (pc := 1) dX8_see_1 0 rfl rfl ?_
  refine qn_getI hX (pc := 2) fd_X8_see_270 dX8_see_2 k_x0 ?_
  refine qn_icmp_ge hX (pc := 5) r_x1 (hR_m0.i 823 _ rfl) 21 dX8_see_5 (by decide) (fun c1 => ?_) (fun c1 => ?_)
  · have h := ite_f h c1
    refine qn_iconst hX (pc := 21) dX8_see_21 ?_
    exact qn_iret hX (pc := 22) dX8_see_22 hE hR_m0 (by decide) (Option.some.inj h)
  · have h := ite_t h c1
    refine qn_aload_n hX (pc := 8) dX8_see_8 0 rfl rfl ?_
    refine qn_getR hX (pc := 9) fd_X8_see_38 dX8_see_9 k_x0 ?_
    refine qn_iload_n hX (pc := 12) dX8_see_12 1 rfl rfl ?_
    obtain ⟨v2, e_v2, b_v2, h⟩ := rdA_e h
    have r_v2 : in32 v2 := by rw [e_v2]; exact hR_m0.b (n := 500) _ (qr_821 hT k_x0) (by decide)
    refine qn_bald hX (pc := 13) 500 dX8_see_13 (qr_821 hT k_x0) (by decide) b_v2 e_v2 ?_
    refine qn_sipush hX (pc := 14) dX8_see_14 (by decide) ?_
    obtain ⟨v3, e_v3, h⟩ := kp_e h
    have r_v3 : in32 v3 := by rw [e_v3]; exact in32_of _
    refine qn_iand hX (pc := 17) dX8_see_17 e_v3 ?_
    refine qn_goto hX (pc := 18) 22 dX8_see_18 (by decide) ?_
    exact qn_iret hX (pc := 22) dX8_see_22 hE hR_m0 r_v3 (Option.some.inj h)
theorem k_X8_see (l : Launch) {G : qG} (hT : qT G) {N : Nat} {x0 : Nat} {x1 : Int} (k_x0 : gK G x0 = 9) (r_x1 : in32 x1) {m0 : qM} {r : Int} {nu : qM} (h : f_X8_see N G x0 x1 m0 = some (r, nu)) : qC l yX8_see wsX8_see 0 0 G [.ref x0, .int (iZ x1)] m0 (some (.int (iZ r))) (in32 r) nu := by
  refine qn_start (hy := by decide) hT (hw := rfl) (hn := Nat.le_of_ble_eq_true rfl) ?_
  intro X h1 h2 h3 h4 hX hR
  subst h4
  exact w_X8_see hX ⟨h1, fun q => h2 ▸ q, h3⟩ k_x0 r_x1 hR h
theorem dd_X8_see : yX8_see.cls = RX8 ∧ yX8_see.cls ≠ "java/lang/invoke/MethodHandle" ∧ yX8_see.cls ≠ "java/lang/invoke/VarHandle" ∧ (parseMethodDescriptor yX8_see.desc).map (fun d => d.parameters.length) = some 1 := by decide +kernel
