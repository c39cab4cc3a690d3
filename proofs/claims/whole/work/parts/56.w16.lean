-- ProRataMarketModel.message
theorem hi_X8_message_8 : ∀ w ∈ wsX80, w ∈ wsX8_message := fun w h => List.mem_cons_of_mem _ (List.mem_append_right _ h)
theorem fd_X8_message_306 : qFd RX8 wsX8_message 306 8 31 0 831 := ⟨RX8, TX8, 32, _, rfl, hi_X8_message_8, by decide, (by decide +kernel : Cond.fieldLink RX8 306 (TX8 31).1 (TX8 31).2.1 (TX8 31).2.2.1 ∈ wsX8_message), rfl, rfl, by decide⟩
theorem fd_X8_message_282 : qFd RX8 wsX8_message 282 8 26 0 826 := ⟨RX8, TX8, 32, _, rfl, hi_X8_message_8, by decide, (by decide +kernel : Cond.fieldLink RX8 282 (TX8 26).1 (TX8 26).2.1 (TX8 26).2.2.1 ∈ wsX8_message), rfl, rfl, by decide⟩
theorem fd_X8_message_296 : qFd RX8 wsX8_message 296 8 28 0 828 := ⟨RX8, TX8, 32, _, rfl, hi_X8_message_8, by decide, (by decide +kernel : Cond.fieldLink RX8 296 (TX8 28).1 (TX8 28).2.1 (TX8 28).2.2.1 ∈ wsX8_message), rfl, rfl, by decide⟩
theorem fd_X8_message_299 : qFd RX8 wsX8_message 299 8 29 0 829 := ⟨RX8, TX8, 32, _, rfl, hi_X8_message_8, by decide, (by decide +kernel : Cond.fieldLink RX8 299 (TX8 29).1 (TX8 29).2.1 (TX8 29).2.2.1 ∈ wsX8_message), rfl, rfl, by decide⟩
theorem fp_X8_message_306 : qFp RX8 wsX8_message 306 8 31 0 831 .int := ⟨RX8, TX8, 32, _, tyX8, rfl, hi_X8_message_8, by decide, (by decide +kernel : Cond.fieldLink RX8 306 (TX8 31).1 (TX8 31).2.1 (TX8 31).2.2.1 ∈ wsX8_message), rfl, rfl, by decide, tyX8_ok, nmX8, rfl, by decide +kernel⟩
theorem fp_X8_message_45 : qFp RX8 wsX8_message 45 8 4 0 804 .int := ⟨RX8, TX8, 32, _, tyX8, rfl, hi_X8_message_8, by decide, (by decide +kernel : Cond.fieldLink RX8 45 (TX8 4).1 (TX8 4).2.1 (TX8 4).2.2.1 ∈ wsX8_message), rfl, rfl, by decide, tyX8_ok, nmX8, rfl, by decide +kernel⟩
theorem fd_X8_message_264 : qFd RX8 wsX8_message 264 8 22 0 822 := ⟨RX8, TX8, 32, _, rfl, hi_X8_message_8, by decide, (by decide +kernel : Cond.fieldLink RX8 264 (TX8 22).1 (TX8 22).2.1 (TX8 22).2.2.1 ∈ wsX8_message), rfl, rfl, by decide⟩
theorem fp_X8_message_264 : qFp RX8 wsX8_message 264 8 22 0 822 .int := ⟨RX8, TX8, 32, _, tyX8, rfl, hi_X8_message_8, by decide, (by decide +kernel : Cond.fieldLink RX8 264 (TX8 22).1 (TX8 22).2.1 (TX8 22).2.2.1 ∈ wsX8_message), rfl, rfl, by decide, tyX8_ok, nmX8, rfl, by decide +kernel⟩
theorem fp_X8_message_270 : qFp RX8 wsX8_message 270 8 23 0 823 .int := ⟨RX8, TX8, 32, _, tyX8, rfl, hi_X8_message_8, by decide, (by decide +kernel : Cond.fieldLink RX8 270 (TX8 23).1 (TX8 23).2.1 (TX8 23).2.2.1 ∈ wsX8_message), rfl, rfl, by decide, tyX8_ok, nmX8, rfl, by decide +kernel⟩
theorem fp_X8_message_273 : qFp RX8 wsX8_message 273 8 25 0 825 .int := ⟨RX8, TX8, 32, _, tyX8, rfl, hi_X8_message_8, by decide, (by decide +kernel : Cond.fieldLink RX8 273 (TX8 25).1 (TX8 25).2.1 (TX8 25).2.2.1 ∈ wsX8_message), rfl, rfl, by decide, tyX8_ok, nmX8, rfl, by decide +kernel⟩
theorem fp_X8_message_296 : qFp RX8 wsX8_message 296 8 28 0 828 .int := ⟨RX8, TX8, 32, _, tyX8, rfl, hi_X8_message_8, by decide, (by decide +kernel : Cond.fieldLink RX8 296 (TX8 28).1 (TX8 28).2.1 (TX8 28).2.2.1 ∈ wsX8_message), rfl, rfl, by decide, tyX8_ok, nmX8, rfl, by decide +kernel⟩
set_option maxHeartbeats 4000000 in
set_option maxRecDepth 20000 in
theorem w_X8_message_173 {X : qB} {N : Nat} (hX : qOk X cX8_message RX8 5 (some .int) wsX8_message 8 199) {r : Int} {nu : qM} (hE : xr X = some (.int (iZ r)) ∧ (in32 r → xΦ X) ∧ xμ X = nu) {k152 : (Nat → Int → Int → qM → Option (Int × qM))} (hk152 : ∀ (x0 : Nat) (x3 : Int) (x4 : Int) (m0 : qM), gK (xG X) x0 = 9 → in32 x3 → in32 x4 → qR (xG X) m0 → k152 x0 x3 x4 m0 = some (r, nu) → qN X 5 152 [(0, .ref x0), (3, .int (iZ x3)), (4, .int (iZ x4))] [] m0)
    {x0 : Nat} {x3 : Int} {x4 : Int} (k_x0 : gK (xG X) x0 = 9) (r_x3 : in32 x3) (r_x4 : in32 x4) {m0 : qM} (hR_m0 : qR (xG X) m0)
    (h : f_X8_message_173 N (xG X) k152 x0 x3 x4 m0 = some (r, nu)) : qN X 5 173 [(0, .ref x0), (3, .int (iZ x3)), (4, .int (iZ x4))] [] m0 := by
  have hT := hX.T
  unfold f_X8_message_173 at h
  obtain ⟨v1, e_v1, r_v1, h⟩ := ckI_e h
  refine qn_iinc hX (pc := 173) (ls' := [(4, .int (iZ v1)), (0, .ref x0), (3, .int (iZ x3))]) dX8_message_173 2 rfl e_v1 rfl rfl ?_
  refine qn_goto hX (pc := 176) 152 dX8_message_176 (by decide) ?_
  refine qn_sub (ls' := [(0, .ref x0), (3, .int (iZ x3)), (4, .int (iZ v1))]) [1, 2, 0] rfl ?_
  exact hk152 x0 x3 v1 m0 k_x0 r_x3 r_v1 hR_m0 h
set_option maxHeartbeats 4000000 in
set_option maxRecDepth 20000 in
theorem w_X8_message_152 {X : qB} {N : Nat} (hX : qOk X cX8_message RX8 5 (some .int) wsX8_message 8 199) {r : Int} {nu : qM} (hE : xr X = some (.int (iZ r)) ∧ (in32 r → xΦ X) ∧ xμ X = nu) {k152 : (Nat → Int → Int → qM → Option (Int × qM))} (hk152 : ∀ (x0 : Nat) (x3 : Int) (x4 : Int) (m0 : qM), gK (xG X) x0 = 9 → in32 x3 → in32 x4 → qR (xG X) m0 → k152 x0 x3 x4 m0 = some (r, nu) → qN X 5 152 [(0, .ref x0), (3, .int (iZ x3)), (4, .int (iZ x4))] [] m0)
    {x0 : Nat} {x3 : Int} {x4 : Int} (k_x0 : gK (xG X) x0 = 9) (r_x3 : in32 x3) (r_x4 : in32 x4) {m0 : qM} (hR_m0 : qR (xG X) m0)
    (h : f_X8_message_152 N (xG X) k152 x0 x3 x4 m0 = some (r, nu)) : qN X 5 152 [(0, .ref x0), (3, .int (iZ x3)), (4, .int (iZ x4))] [] m0 := by
  have hT := hX.T
  unfold f_X8_message_152 at h
  refine qn_iload hX (pc := 152) dX8_message_152 2 rfl ?_
  refine qn_aload_n hX (pc := 154) dX8_message_154 0 rfl rfl ?_
  refine qn_getI hX (pc := 155) fd_X8_message_306 dX8_message_155 k_x0 ?_
  refine qn_icmp_ge hX (pc := 158) r_x4 (hR_m0.i 831 _ rfl) 179 dX8_message_158 (by decide) (fun c1 => ?_) (fun c1 => ?_)
  · have h := ite_f h c1
    refine qn_iload_n hX (pc := 179) dX8_message_179 1 rfl rfl ?_
    exact qn_iret hX (pc := 180) dX8_message_180 hE hR_m0 r_x3 (Option.some.inj h)
  · have h := ite_t h c1
    refine qn_aload_n hX (pc := 161) dX8_message_161 0 rfl rfl ?_
    refine qn_iload hX (pc := 162) dX8_message_162 2 rfl ?_
    obtain ⟨v3, m2, e_m2, h⟩ := kb2_e h
    refine qn_callVi hX (pc := 164) [.int (iZ x4)] [.int (iZ x4)] 1 dX8_message_164 gX8_message_X8_does rfl dd_X8_does ⟨rfl, rfl⟩ rfl rfl (by decide) k_x0 rfl rfl hR_m0 (k_X8_does (xl X) hT k_x0 r_x4 e_m2) (fun r_v3 hR_m2 => ?_)
    refine qn_if_eq hX (pc := 167) r_v3.i 173 dX8_message_167 (by decide) (fun c4 => ?_) (fun c4 => ?_)
    · have h := ite_t h c4
      refine qn_sub (ls' := [(0, .ref x0), (3, .int (iZ x3)), (4, .int (iZ x4))]) [0, 1, 2] rfl ?_
      exact w_X8_message_173 hX hE hk152 k_x0 r_x3 r_x4 hR_m2 h
    · have h := ite_f h c4
      obtain ⟨v5, e_v5, r_v5, h⟩ := ckI_e h
      refine qn_iinc hX (pc := 170) (ls' := [(3, .int (iZ v5)), (0, .ref x0), (4, .int (iZ x4))]) dX8_message_170 1 rfl e_v5 rfl rfl ?_
      refine qn_sub (ls' := [(0, .ref x0), (3, .int (iZ v5)), (4, .int (iZ x4))]) [1, 0, 2] rfl ?_
      exact w_X8_message_173 hX hE hk152 k_x0 r_v5 r_x4 hR_m2 h
set_option maxHeartbeats 4000000 in
set_option maxRecDepth 20000 in
theorem w_X8_message_L152 {X : qB} {N : Nat} (hX : qOk X cX8_message RX8 5 (some .int) wsX8_message 8 199) {r : Int} {nu : qM} (hE : xr X = some (.int (iZ r)) ∧ (in32 r → xΦ X) ∧ xμ X = nu) 
    {x0 : Nat} {x3 : Int} {x4 : Int} (k_x0 : gK (xG X) x0 = 9) (r_x3 : in32 x3) (r_x4 : in32 x4) {m0 : qM} (hR_m0 : qR (xG X) m0)
    (h : f_X8_message_L152 N (xG X)  x0 x3 x4 m0 = some (r, nu)) : qN X 5 152 [(0, .ref x0), (3, .int (iZ x3)), (4, .int (iZ x4))] [] m0 := by
  unfold f_X8_message_L152 at h
  exact qLoop_w (σ := Nat × Int × Int × qM) (P := fun p => gK (xG X) p.1 = 9 ∧ in32 p.2.1 ∧ in32 p.2.2.1 ∧ qR (xG X) p.2.2.2) (Q := fun p => qN X 5 152 [(0, .ref p.1), (3, .int (iZ p.2.1)), (4, .int (iZ p.2.2.1))] [] p.2.2.2) (fun k hrec p hp hh => w_X8_message_152 hX hE (fun x0 x3 x4 m0 q0 q1 q2 hRm hh => hrec (x0, x3, x4, m0) ⟨q0, q1, q2, hRm⟩ hh) hp.1 hp.2.1 hp.2.2.1 hp.2.2.2 hh) N (x0, x3, x4, m0) ⟨k_x0, r_x3, r_x4, hR_m0⟩ h
set_option maxHeartbeats 4000000 in
set_option maxRecDepth 20000 in
theorem w_X8_message_112 {X : qB} {N : Nat} (hX : qOk X cX8_message RX8 5 (some .int) wsX8_message 8 199) {r : Int} {nu : qM} (hE : xr X = some (.int (iZ r)) ∧ (in32 r → xΦ X) ∧ xμ X = nu) {k52 : (Nat → Int → qM → Option (Int × qM))} (hk52 : ∀ (x0 : Nat) (x2 : Int) (m0 : qM), gK (xG X) x0 = 9 → in01 x2 → qR (xG X) m0 → k52 x0 x2 m0 = some (r, nu) → qN X 5 52 [(0, .ref x0), (2, .int (iZ x2))] [] m0)
    {x0 : Nat} {s0 : Int} (k_x0 : gK (xG X) x0 = 9) (b_s0 : in01 s0) {m0 : qM} (hR_m0 : qR (xG X) m0)
    (h : f_X8_message_112 N (xG X) k52 x0 s0 m0 = some (r, nu)) : qN X 5 112 [(0, .ref x0)] [.int (iZ s0)] m0 := by
  have hT := hX.T
  unfold f_X8_message_112 at h
  refine qn_istore_n hX (pc := 112) (ls' := [(2, .int (iZ s0)), (0, .ref x0)]) dX8_message_112 rfl rfl rfl ?_
  refine qn_iload_n hX (pc := 113) dX8_message_113 0 rfl rfl ?_
  refine qn_if_eq hX (pc := 114) b_s0.i 52 dX8_message_114 (by decide) (fun c1 => ?_) (fun c1 => ?_)
  · have h := ite_t h c1
    refine qn_sub (ls' := [(0, .ref x0), (2, .int (iZ s0))]) [1, 0] rfl ?_
    exact hk52 x0 s0 m0 k_x0 b_s0 hR_m0 h
  · have h := ite_f h c1
    refine qn_aload_n hX (pc := 117) dX8_message_117 1 rfl rfl ?_
    obtain ⟨m2, e_m2, h⟩ := kb_e h
    refine qn_callVv hX (pc := 118) [] [] 0 dX8_message_118 gX8_message_X8_steps rfl dd_X8_steps ⟨rfl, rfl⟩ rfl rfl (by decide) k_x0 rfl rfl hR_m0 (k_X8_steps (xl X) hT k_x0 e_m2) (fun r_v3 hR_m2 => ?_)
    refine qn_goto hX (pc := 121) 52 dX8_message_121 (by decide) ?_
    refine qn_sub (ls' := [(0, .ref x0), (2, .int (iZ s0))]) [1, 0] rfl ?_
    exact hk52 x0 s0 m2 k_x0 b_s0 hR_m2 h
set_option maxHeartbeats 4000000 in
set_option maxRecDepth 20000 in
theorem w_X8_message_111 {X : qB} {N : Nat} (hX : qOk X cX8_message RX8 5 (some .int) wsX8_message 8 199) {r : Int} {nu : qM} (hE : xr X = some (.int (iZ r)) ∧ (in32 r → xΦ X) ∧ xμ X = nu) {k52 : (Nat → Int → qM → Option (Int × qM))} (hk52 : ∀ (x0 : Nat) (x2 : Int) (m0 : qM), gK (xG X) x0 = 9 → in01 x2 → qR (xG X) m0 → k52 x0 x2 m0 = some (r, nu) → qN X 5 52 [(0, .ref x0), (2, .int (iZ x2))] [] m0)
    {x0 : Nat} (k_x0 : gK (xG X) x0 = 9) {m0 : qM} (hR_m0 : qR (xG X) m0)
    (h : f_X8_message_111 N (xG X) k52 x0 m0 = some (r, nu)) : qN X 5 111 [(0, .ref x0)] [] m0 := by
  have hT := hX.T
  unfold f_X8_message_111 at h
  refine qn_iconst hX (pc := 111) dX8_message_111 ?_
  refine qn_sub (ls' := [(0, .ref x0)]) [0] rfl ?_
  exact w_X8_message_112 hX hE hk52 k_x0 (by decide) hR_m0 h
set_option maxHeartbeats 4000000 in
set_option maxRecDepth 20000 in
theorem w_X8_message_100 {X : qB} {N : Nat} (hX : qOk X cX8_message RX8 5 (some .int) wsX8_message 8 199) {r : Int} {nu : qM} (hE : xr X = some (.int (iZ r)) ∧ (in32 r → xΦ X) ∧ xμ X = nu) {k52 : (Nat → Int → qM → Option (Int × qM))} (hk52 : ∀ (x0 : Nat) (x2 : Int) (m0 : qM), gK (xG X) x0 = 9 → in01 x2 → qR (xG X) m0 → k52 x0 x2 m0 = some (r, nu) → qN X 5 52 [(0, .ref x0), (2, .int (iZ x2))] [] m0)
    {x0 : Nat} {s0 : Nat} {s1 : Int} (k_x0 : gK (xG X) x0 = 9) (k_s0 : gK (xG X) s0 = 9) (b_s1 : in01 s1) {m0 : qM} (hR_m0 : qR (xG X) m0)
    (h : f_X8_message_100 N (xG X) k52 x0 s0 s1 m0 = some (r, nu)) : qN X 5 100 [(0, .ref x0)] [.int (iZ s1), .ref s0] m0 := by
  have hT := hX.T
  unfold f_X8_message_100 at h
  refine qn_iconst hX (pc := 100) dX8_message_100 ?_
  obtain ⟨v2, m1, e_m1, h⟩ := kb2_e h
  refine qn_callVi hX (pc := 101) [.int (iZ s1), .int (iZ 1)] [.int (iZ 1), .int (iZ s1)] 2 dX8_message_101 gX8_message_X8_must rfl dd_X8_must ⟨rfl, rfl⟩ rfl rfl (by decide) k_s0 rfl rfl hR_m0 (k_X8_must (xl X) hT k_s0 b_s1 (by decide) e_m1) (fun r_v2 hR_m1 => ?_)
  refine qn_if_eq hX (pc := 104) r_v2.i 111 dX8_message_104 (by decide) (fun c3 => ?_) (fun c3 => ?_)
  · have h := ite_t h c3
    refine qn_sub (ls' := [(0, .ref x0)]) [0] rfl ?_
    exact w_X8_message_111 hX hE hk52 k_x0 hR_m1 h
  · have h := ite_f h c3
    refine qn_iconst hX (pc := 107) dX8_message_107 ?_
    refine qn_goto hX (pc := 108) 112 dX8_message_108 (by decide) ?_
    refine qn_sub (ls' := [(0, .ref x0)]) [0] rfl ?_
    exact w_X8_message_112 hX hE hk52 k_x0 (by decide) hR_m1 h
set_option maxHeartbeats 4000000 in
set_option maxRecDepth 20000 in
theorem w_X8_message_75 {X : qB} {N : Nat} (hX : qOk X cX8_message RX8 5 (some .int) wsX8_message 8 199) {r : Int} {nu : qM} (hE : xr X = some (.int (iZ r)) ∧ (in32 r → xΦ X) ∧ xμ X = nu) {k52 : (Nat → Int → qM → Option (Int × qM))} (hk52 : ∀ (x0 : Nat) (x2 : Int) (m0 : qM), gK (xG X) x0 = 9 → in01 x2 → qR (xG X) m0 → k52 x0 x2 m0 = some (r, nu) → qN X 5 52 [(0, .ref x0), (2, .int (iZ x2))] [] m0)
    {x0 : Nat} {x2 : Int} (k_x0 : gK (xG X) x0 = 9) (b_x2 : in01 x2) {m0 : qM} (hR_m0 : qR (xG X) m0)
    (h : f_X8_message_75 N (xG X) k52 x0 x2 m0 = some (r, nu)) : qN X 5 75 [(0, .ref x0), (2, .int (iZ x2))] [] m0 := by
  have hT := hX.T
  unfold f_X8_message_75 at h
  refine qn_iload_n hX (pc := 75) dX8_message_75 1 rfl rfl ?_
  refine qn_if_eq hX (pc := 76) b_x2.i 111 dX8_message_76 (by decide) (fun c1 => ?_) (fun c1 => ?_)
  · have h := ite_t h c1
    refine qn_sub (ls' := [(0, .ref x0)]) [0] rfl ?_
    exact w_X8_message_111 hX hE hk52 k_x0 hR_m0 h
  · have h := ite_f h c1
    refine qn_aload_n hX (pc := 79) dX8_message_79 0 rfl rfl ?_
    refine qn_getI hX (pc := 80) fd_X8_message_282 dX8_message_80 k_x0 ?_
    refine qn_if_eq hX (pc := 83) (hR_m0.i 826 _ rfl) 111 dX8_message_83 (by decide) (fun c2 => ?_) (fun c2 => ?_)
    · have h := ite_t h c2
      refine qn_sub (ls' := [(0, .ref x0)]) [0] rfl ?_
      exact w_X8_message_111 hX hE hk52 k_x0 hR_m0 h
    · have h := ite_f h c2
      refine qn_aload_n hX (pc := 86) dX8_message_86 0 rfl rfl ?_
      refine qn_aload_n hX (pc := 87) dX8_message_87 0 rfl rfl ?_
      refine qn_getI hX (pc := 88) fd_X8_message_282 dX8_message_88 k_x0 ?_
      refine qn_iconst hX (pc := 91) dX8_message_91 ?_
      refine qn_icmp_ne hX (pc := 92) (hR_m0.i 826 _ rfl) (by decide) 99 dX8_message_92 (by decide) (fun c3 => ?_) (fun c3 => ?_)
      · have h := ite_f h c3
        refine qn_iconst hX (pc := 99) dX8_message_99 ?_
        refine qn_sub (ls' := [(0, .ref x0)]) [0] rfl ?_
        exact w_X8_message_100 hX hE hk52 k_x0 k_x0 (by decide) hR_m0 h
      · have h := ite_t h c3
        refine qn_iconst hX (pc := 95) dX8_message_95 ?_
        refine qn_goto hX (pc := 96) 100 dX8_message_96 (by decide) ?_
        refine qn_sub (ls' := [(0, .ref x0)]) [0] rfl ?_
        exact w_X8_message_100 hX hE hk52 k_x0 k_x0 (by decide) hR_m0 h
set_option maxHeartbeats 4000000 in
set_option maxRecDepth 20000 in
theorem w_X8_message_52 {X : qB} {N : Nat} (hX : qOk X cX8_message RX8 5 (some .int) wsX8_message 8 199) {r : Int} {nu : qM} (hE : xr X = some (.int (iZ r)) ∧ (in32 r → xΦ X) ∧ xμ X = nu) {k52 : (Nat → Int → qM → Option (Int × qM))} (hk52 : ∀ (x0 : Nat) (x2 : Int) (m0 : qM), gK (xG X) x0 = 9 → in01 x2 → qR (xG X) m0 → k52 x0 x2 m0 = some (r, nu) → qN X 5 52 [(0, .ref x0), (2, .int (iZ x2))] [] m0)
    {x0 : Nat} {x2 : Int} (k_x0 : gK (xG X) x0 = 9) (b_x2 : in01 x2) {m0 : qM} (hR_m0 : qR (xG X) m0)
    (h : f_X8_message_52 N (xG X) k52 x0 x2 m0 = some (r, nu)) : qN X 5 52 [(0, .ref x0), (2, .int (iZ x2))] [] m0 := by
  have hT := hX.T
  unfold f_X8_message_52 at h
  refine qn_iload_n hX (pc := 52) dX8_message_52 1 rfl rfl ?_
  refine qn_if_eq hX (pc := 53) b_x2.i 124 dX8_message_53 (by decide) (fun c1 => ?_) (fun c1 => ?_)
  · have h := ite_t h c1
    refine qn_aload_n hX (pc := 124) dX8_message_124 0 rfl rfl ?_
    refine qn_getI hX (pc := 125) fd_X8_message_296 dX8_message_125 k_x0 ?_
    refine qn_if_le hX (pc := 128) (hR_m0.i 828 _ rfl) 147 dX8_message_128 (by decide) (fun c2 => ?_) (fun c2 => ?_)
    · have h := ite_f h c2
      refine qn_iconst hX (pc := 147) dX8_message_147 ?_
      refine qn_istore_n hX (pc := 148) (ls' := [(3, .int (iZ 0)), (0, .ref x0), (2, .int (iZ x2))]) dX8_message_148 rfl rfl rfl ?_
      refine qn_iconst hX (pc := 149) dX8_message_149 ?_
      refine qn_istore hX (pc := 150) (ls' := [(4, .int (iZ 0)), (3, .int (iZ 0)), (0, .ref x0), (2, .int (iZ x2))]) dX8_message_150 rfl rfl ?_
      refine qn_sub (ls' := [(0, .ref x0), (3, .int (iZ 0)), (4, .int (iZ 0))]) [2, 1, 0] rfl ?_
      exact w_X8_message_L152 hX hE  k_x0 (by decide) (by decide) hR_m0 h
    · have h := ite_t h c2
      refine qn_bipush hX (pc := 131) dX8_message_131 (by decide) ?_
      refine qn_bipush hX (pc := 133) dX8_message_133 (by decide) ?_
      refine qn_aload_n hX (pc := 135) dX8_message_135 0 rfl rfl ?_
      refine qn_getI hX (pc := 136) fd_X8_message_299 dX8_message_136 k_x0 ?_
      obtain ⟨v3, e_v3, r_v3, h⟩ := ckI_e h
      refine qn_imul hX (pc := 139) dX8_message_139 e_v3 ?_
      refine qn_aload_n hX (pc := 140) dX8_message_140 0 rfl rfl ?_
      refine qn_getI hX (pc := 141) fd_X8_message_296 dX8_message_141 k_x0 ?_
      obtain ⟨v4, e_v4, r_v4, h⟩ := ckI_e h
      refine qn_iadd hX (pc := 144) dX8_message_144 e_v4 ?_
      obtain ⟨v5, e_v5, r_v5, h⟩ := ckI_e h
      refine qn_isub hX (pc := 145) dX8_message_145 e_v5 ?_
      exact qn_iret hX (pc := 146) dX8_message_146 hE hR_m0 r_v5 (Option.some.inj h)
  · have h := ite_f h c1
    refine qn_aload_n hX (pc := 56) dX8_message_56 0 rfl rfl ?_
    obtain ⟨v7, m6, e_m6, h⟩ := kb2_e h
    refine qn_callVi hX (pc := 57) [] [] 0 dX8_message_57 gX8_message_X8_readsLine rfl dd_X8_readsLine ⟨rfl, rfl⟩ rfl rfl (by decide) k_x0 rfl rfl hR_m0 (k_X8_readsLine (xl X) hT k_x0 e_m6) (fun r_v7 hR_m6 => ?_)
    refine qn_istore_n hX (pc := 60) (ls' := [(2, .int (iZ v7)), (0, .ref x0)]) dX8_message_60 rfl rfl rfl ?_
    refine qn_iload_n hX (pc := 61) dX8_message_61 0 rfl rfl ?_
    refine qn_if_eq hX (pc := 62) r_v7.i 75 dX8_message_62 (by decide) (fun c8 => ?_) (fun c8 => ?_)
    · have h := ite_t h c8
      refine qn_sub (ls' := [(0, .ref x0), (2, .int (iZ v7))]) [1, 0] rfl ?_
      exact w_X8_message_75 hX hE hk52 k_x0 r_v7 hR_m6 h
    · have h := ite_f h c8
      refine qn_aload_n hX (pc := 65) dX8_message_65 1 rfl rfl ?_
      refine qn_dup hX (pc := 66) dX8_message_66 rfl ?_
      refine qn_getI hX (pc := 67) fd_X8_message_306 dX8_message_67 k_x0 ?_
      refine qn_iconst hX (pc := 70) dX8_message_70 ?_
      obtain ⟨v9, e_v9, r_v9, h⟩ := ckI_e h
      refine qn_iadd hX (pc := 71) dX8_message_71 e_v9 ?_
      obtain ⟨m10, e_m10, h⟩ := kp_e h
      refine qn_putI hX (pc := 72) fp_X8_message_306 dX8_message_72 k_x0 hR_m6 r_v9 e_m10 (fun hR_m10 => ?_) 
      refine qn_sub (ls' := [(0, .ref x0), (2, .int (iZ v7))]) [1, 0] rfl ?_
      exact w_X8_message_75 hX hE hk52 k_x0 r_v7 hR_m10 h
set_option maxHeartbeats 4000000 in
set_option maxRecDepth 20000 in
theorem w_X8_message_L52 {X : qB} {N : Nat} (hX : qOk X cX8_message RX8 5 (some .int) wsX8_message 8 199) {r : Int} {nu : qM} (hE : xr X = some (.int (iZ r)) ∧ (in32 r → xΦ X) ∧ xμ X = nu) 
    {x0 : Nat} {x2 : Int} (k_x0 : gK (xG X) x0 = 9) (b_x2 : in01 x2) {m0 : qM} (hR_m0 : qR (xG X) m0)
    (h : f_X8_message_L52 N (xG X)  x0 x2 m0 = some (r, nu)) : qN X 5 52 [(0, .ref x0), (2, .int (iZ x2))] [] m0 := by
  unfold f_X8_message_L52 at h
  exact qLoop_w (σ := Nat × Int × qM) (P := fun p => gK (xG X) p.1 = 9 ∧ in01 p.2.1 ∧ qR (xG X) p.2.2) (Q := fun p => qN X 5 52 [(0, .ref p.1), (2, .int (iZ p.2.1))] [] p.2.2) (fun k hrec p hp hh => w_X8_message_52 hX hE (fun x0 x2 m0 q0 q1 hRm hh => hrec (x0, x2, m0) ⟨q0, q1, hRm⟩ hh) hp.1 hp.2.1 hp.2.2 hh) N (x0, x2, m0) ⟨k_x0, b_x2, hR_m0⟩ h
set_option maxHeartbeats 4000000 in
set_option maxRecDepth 20000 in
theorem w_X8_message {X : qB} {N : Nat} (hX : qOk X cX8_message RX8 5 (some .int) wsX8_message 8 199) {r : Int} {nu : qM} (hE : xr X = some (.int (iZ r)) ∧ (in32 r → xΦ X) ∧ xμ X = nu) 
    {x0 : Nat} {x1 : Int} (k_x0 : gK (xG X) x0 = 9) (r_x1 : in32 x1) {m0 : qM} (hR_m0 : qR (xG X) m0)
    (h : f_X8_message N (xG X)  x0 x1 m0 = some (r, nu)) : qN X 5 0 [(0, .ref x0), (1, .int (iZ x1))] [] m0 := by
  have hT := hX.T
  unfold f_X8_message at h
  refine qn_aload_n hX (pc := 0) dX8_message_0 0 rfl rfl ?_
  refine qn_iconst hX (pc := 1) dX8_message_1 ?_
  obtain ⟨m1, e_m1, h⟩ := kp_e h
  refine qn_putI hX (pc := 2) fp_X8_message_45 dX8_message_2 k_x0 hR_m0 (show in32 0 by decide) e_m1 (fun hR_m1 => ?_) 
  refine qn_iload_n hX (pc := 5) dX8_message_5 1 rfl rfl ?_
  refine qn_i2l hX (pc := 6) r_x1 dX8_message_6 ?_
  refine qn_lconst hX (pc := 7) 0 dX8_message_7 (by decide) ?_
  refine qn_aload_n hX (pc := 8) dX8_message_8 0 rfl rfl ?_
  refine qn_getI hX (pc := 9) fd_X8_message_264 dX8_message_9 k_x0 ?_
  refine qn_i2l hX (pc := 12) (hR_m1.i 822 _ rfl) dX8_message_12 ?_
  obtain ⟨v3, m2, e_m2, h⟩ := kb2_e h
  refine qn_callSi hX (pc := 13) [.long (lZ x1), .long (lZ 0), .long (lZ (gI m1 822 x0))] [.long (lZ (gI m1 822 x0)), .long (lZ 0), .long (lZ x1)] 3 dX8_message_13 gX8_message_X8_within rfl dd_X8_within ⟨rfl, rfl⟩ rfl rfl rfl hR_m1 (k_X8_within (xl X) hT (in32.l r_x1) (by decide) (in32.l (hR_m1.i 822 _ rfl)) e_m2) (fun r_v3 hR_m2 => ?_)
  refine qn_if_ne hX (pc := 16) r_v3.i 21 dX8_message_16 (by decide) (fun c4 => ?_) (fun c4 => ?_)
  · have h := ite_f h c4
    refine qn_aload_n hX (pc := 21) dX8_message_21 0 rfl rfl ?_
    refine qn_iconst hX (pc := 22) dX8_message_22 ?_
    obtain ⟨m5, e_m5, h⟩ := kp_e h
    refine qn_putI hX (pc := 23) fp_X8_message_264 dX8_message_23 k_x0 hR_m2 (show in32 0 by decide) e_m5 (fun hR_m5 => ?_) 
    refine qn_aload_n hX (pc := 26) dX8_message_26 0 rfl rfl ?_
    refine qn_iload_n hX (pc := 27) dX8_message_27 1 rfl rfl ?_
    obtain ⟨m6, e_m6, h⟩ := kp_e h
    refine qn_putI hX (pc := 28) fp_X8_message_270 dX8_message_28 k_x0 hR_m5 r_x1 e_m6 (fun hR_m6 => ?_) 
    refine qn_aload_n hX (pc := 31) dX8_message_31 0 rfl rfl ?_
    refine qn_iconst hX (pc := 32) dX8_message_32 ?_
    obtain ⟨m7, e_m7, h⟩ := kp_e h
    refine qn_putI hX (pc := 33) fp_X8_message_273 dX8_message_33 k_x0 hR_m6 (show in32 0 by decide) e_m7 (fun hR_m7 => ?_) 
    refine qn_aload_n hX (pc := 36) dX8_message_36 0 rfl rfl ?_
    refine qn_iconst hX (pc := 37) dX8_message_37 ?_
    obtain ⟨m8, e_m8, h⟩ := kp_e h
    refine qn_putI hX (pc := 38) fp_X8_message_296 dX8_message_38 k_x0 hR_m7 (show in32 0 by decide) e_m8 (fun hR_m8 => ?_) 
    refine qn_aload_n hX (pc := 41) dX8_message_41 0 rfl rfl ?_
    refine qn_iconst hX (pc := 42) dX8_message_42 ?_
    obtain ⟨m9, e_m9, h⟩ := kp_e h
    refine qn_putI hX (pc := 43) fp_X8_message_306 dX8_message_43 k_x0 hR_m8 (show in32 0 by decide) e_m9 (fun hR_m9 => ?_) 
    refine qn_iconst hX (pc := 46) dX8_message_46 ?_
    refine qn_istore_n hX (pc := 47) (ls' := [(2, .int (iZ 1)), (0, .ref x0), (1, .int (iZ x1))]) dX8_message_47 rfl rfl rfl ?_
    refine qn_aload_n hX (pc := 48) dX8_message_48 1 rfl rfl ?_
    obtain ⟨m10, e_m10, h⟩ := kb_e h
    refine qn_callVv hX (pc := 49) [] [] 0 dX8_message_49 gX8_message_X8_steps rfl dd_X8_steps ⟨rfl, rfl⟩ rfl rfl (by decide) k_x0 rfl rfl hR_m9 (k_X8_steps (xl X) hT k_x0 e_m10) (fun r_v11 hR_m10 => ?_)
    refine qn_sub (ls' := [(0, .ref x0), (2, .int (iZ 1))]) [1, 0] rfl ?_
    exact w_X8_message_L52 hX hE  k_x0 (by decide) hR_m10 h
  · have h := ite_t h c4
    refine qn_iconst hX (pc := 19) dX8_message_19 ?_
    exact qn_iret hX (pc := 20) dX8_message_20 hE hR_m2 (by decide) (Option.some.inj h)
theorem k_X8_message (l : Launch) {G : qG} (hT : qT G) {N : Nat} {x0 : Nat} {x1 : Int} (k_x0 : gK G x0 = 9) (r_x1 : in32 x1) {m0 : qM} {r : Int} {nu : qM} (h : f_X8_message N G x0 x1 m0 = some (r, nu)) : qC l yX8_message wsX8_message 8 199 G [.ref x0, .int (iZ x1)] m0 (some (.int (iZ r))) (in32 r) nu := by
  refine qn_start (hy := by decide) hT (hw := rfl) (hn := Nat.le_of_ble_eq_true rfl) ?_
  intro X h1 h2 h3 h4 hX hR
  subst h4
  exact w_X8_message hX ⟨h1, fun q => h2 ▸ q, h3⟩ k_x0 r_x1 hR h
theorem dd_X8_message : yX8_message.cls = RX8 ∧ yX8_message.cls ≠ "java/lang/invoke/MethodHandle" ∧ yX8_message.cls ≠ "java/lang/invoke/VarHandle" ∧ (parseMethodDescriptor yX8_message.desc).map (fun d => d.parameters.length) = some 1 := by decide +kernel
-- ProRataMarketModel.money
theorem hi_X8_money_8 : ∀ w ∈ wsX80, w ∈ wsX8_money := fun w h => List.mem_cons_of_mem _ (List.mem_append_right _ h)
theorem fp_X8_money_45 : qFp RX8 wsX8_money 45 8 4 0 804 .int := ⟨RX8, TX8, 32, _, tyX8, rfl, hi_X8_money_8, by decide, (by decide +kernel : Cond.fieldLink RX8 45 (TX8 4).1 (TX8 4).2.1 (TX8 4).2.2.1 ∈ wsX8_money), rfl, rfl, by decide, tyX8_ok, nmX8, rfl, by decide +kernel⟩
theorem fd_X8_money_45 : qFd RX8 wsX8_money 45 8 4 0 804 := ⟨RX8, TX8, 32, _, rfl, hi_X8_money_8, by decide, (by decide +kernel : Cond.fieldLink RX8 45 (TX8 4).1 (TX8 4).2.1 (TX8 4).2.2.1 ∈ wsX8_money), rfl, rfl, by decide⟩
theorem fd_X8_money_16 : qFd RX8 wsX8_money 16 8 2 1 802 := ⟨RX8, TX8, 32, _, rfl, hi_X8_money_8, by decide, (by decide +kernel : Cond.fieldLink RX8 16 (TX8 2).1 (TX8 2).2.1 (TX8 2).2.2.1 ∈ wsX8_money), rfl, rfl, by decide⟩
set_option maxHeartbeats 4000000 in
set_option maxRecDepth 20000 in
theorem w_X8_money_18 {X : qB} {N : Nat} (hX : qOk X cX8_money RX8 2 (some .long) wsX8_money 1 25) {r : Int} {nu : qM} (hE : xr X = some (.long (lZ r)) ∧ (in64 r → xΦ X) ∧ xμ X = nu) 
    {x0 : Nat} {x1 : Int} {s0 : Nat} {s1 : Int} (k_x0 : gK (xG X) x0 = 9) (r_x1 : in32 x1) (k_s0 : gK (xG X) s0 = 9) (b_s1 : in01 s1) {m0 : qM} (hR_m0 : qR (xG X) m0)
    (h : f_X8_money_18 N (xG X)  x0 x1 s0 s1 m0 = some (r, nu)) : qN X 2 18 [(0, .ref x0), (1, .int (iZ x1))] [.int (iZ s1), .ref s0] m0 := by
  have hT := hX.T
  unfold f_X8_money_18 at h
  obtain ⟨m1, e_m1, h⟩ := kp_e h
  refine qn_putI hX (pc := 18) fp_X8_money_45 dX8_money_18 k_s0 hR_m0 b_s1.i e_m1 (fun hR_m1 => ?_) 
  refine qn_aload_n hX (pc := 21) dX8_money_21 0 rfl rfl ?_
  refine qn_getI hX (pc := 22) fd_X8_money_45 dX8_money_22 k_x0 ?_
  refine qn_if_ne hX (pc := 25) (hR_m1.i 804 _ rfl) 37 dX8_money_25 (by decide) (fun c2 => ?_) (fun c2 => ?_)
  · have h := ite_f h c2
    refine qn_lconst hX (pc := 37) 0 dX8_money_37 (by decide) ?_
    exact qn_lret hX (pc := 38) dX8_money_38 hE hR_m1 (by decide) (Option.some.inj h)
  · have h := ite_t h c2
    refine qn_aload_n hX (pc := 28) dX8_money_28 0 rfl rfl ?_
    refine qn_getR hX (pc := 29) fd_X8_money_16 dX8_money_29 k_x0 ?_
    refine qn_iload_n hX (pc := 32) dX8_money_32 1 rfl rfl ?_
    obtain ⟨v3, e_v3, b_v3, h⟩ := rdA_e h
    have r_v3 : in64 v3 := by rw [e_v3]; exact hR_m1.j (n := 10) _ (qr_802 hT k_x0) (by decide)
    refine qn_lald hX (pc := 33) 10 dX8_money_33 (qr_802 hT k_x0) (by decide) b_v3 e_v3 ?_
    refine qn_goto hX (pc := 34) 38 dX8_money_34 (by decide) ?_
    exact qn_lret hX (pc := 38) dX8_money_38 hE hR_m1 r_v3 (Option.some.inj h)
set_option maxHeartbeats 4000000 in
set_option maxRecDepth 20000 in
theorem w_X8_money {X : qB} {N : Nat} (hX : qOk X cX8_money RX8 2 (some .long) wsX8_money 1 25) {r : Int} {nu : qM} (hE : xr X = some (.long (lZ r)) ∧ (in64 r → xΦ X) ∧ xμ X = nu) 
    {x0 : Nat} {x1 : Int} (k_x0 : gK (xG X) x0 = 9) (r_x1 : in32 x1) {m0 : qM} (hR_m0 : qR (xG X) m0)
    (h : f_X8_money N (xG X)  x0 x1 m0 = some (r, nu)) : qN X 2 0 [(0, .ref x0), (1, .int (iZ x1))] [] m0 := by
  have hT := hX.T
  unfold f_X8_money at h
  refine qn_aload_n hX (pc := 0) dX8_money_0 0 rfl rfl ?_
  refine qn_iload_n hX (pc := 1) dX8_money_1 1 rfl rfl ?_
  refine qn_i2l hX (pc := 2) r_x1 dX8_money_2 ?_
  refine qn_lconst hX (pc := 3) 0 dX8_money_3 (by decide) ?_
  refine qn_ldc2 hX (pc := 4) 9 dX8_money_4 (by decide +kernel : Cond.constantLong RX8 156 (9) ∈ wsX8_money) (by decide) ?_
  obtain ⟨v2, m1, e_m1, h⟩ := kb2_e h
  refine qn_callSi hX (pc := 7) [.long (lZ x1), .long (lZ 0), .long (lZ 9)] [.long (lZ 9), .long (lZ 0), .long (lZ x1)] 3 dX8_money_7 gX8_money_X8_within rfl dd_X8_within ⟨rfl, rfl⟩ rfl rfl rfl hR_m0 (k_X8_within (xl X) hT (in32.l r_x1) (by decide) (by decide) e_m1) (fun r_v2 hR_m1 => ?_)
  refine qn_if_eq hX (pc := 10) r_v2.i 17 dX8_money_10 (by decide) (fun c3 => ?_) (fun c3 => ?_)
  · have h := ite_t h c3
    refine qn_iconst hX (pc := 17) dX8_money_17 ?_
    refine qn_sub (ls' := [(0, .ref x0), (1, .int (iZ x1))]) [0, 1] rfl ?_
    exact w_X8_money_18 hX hE  k_x0 r_x1 k_x0 (by decide) hR_m1 h
  · have h := ite_f h c3
    refine qn_iconst hX (pc := 13) dX8_money_13 ?_
    refine qn_goto hX (pc := 14) 18 dX8_money_14 (by decide) ?_
    refine qn_sub (ls' := [(0, .ref x0), (1, .int (iZ x1))]) [0, 1] rfl ?_
    exact w_X8_money_18 hX hE  k_x0 r_x1 k_x0 (by decide) hR_m1 h
theorem k_X8_money (l : Launch) {G : qG} (hT : qT G) {N : Nat} {x0 : Nat} {x1 : Int} (k_x0 : gK G x0 = 9) (r_x1 : in32 x1) {m0 : qM} {r : Int} {nu : qM} (h : f_X8_money N G x0 x1 m0 = some (r, nu)) : qC l yX8_money wsX8_money 1 25 G [.ref x0, .int (iZ x1)] m0 (some (.long (lZ r))) (in64 r) nu := by
  refine qn_start (hy := by decide) hT (hw := rfl) (hn := Nat.le_of_ble_eq_true rfl) ?_
  intro X h1 h2 h3 h4 hX hR
  subst h4
  exact w_X8_money hX ⟨h1, fun q => h2 ▸ q, h3⟩ k_x0 r_x1 hR h
theorem dd_X8_money : yX8_money.cls = RX8 ∧ yX8_money.cls ≠ "java/lang/invoke/MethodHandle" ∧ yX8_money.cls ≠ "java/lang/invoke/VarHandle" ∧ (parseMethodDescriptor yX8_money.desc).map (fun d => d.parameters.length) = some 1 := by decide +kernel
-- ProRataMarketModel.of
theorem hi_X8_of_8 : ∀ w ∈ wsX80, w ∈ wsX8_of := fun w h => List.mem_cons_of_mem _ (List.mem_append_right _ h)
theorem fp_X8_of_45 : qFp RX8 wsX8_of 45 8 4 0 804 .int := ⟨RX8, TX8, 32, _, tyX8, rfl, hi_X8_of_8, by decide, (by decide +kernel : Cond.fieldLink RX8 45 (TX8 4).1 (TX8 4).2.1 (TX8 4).2.2.1 ∈ wsX8_of), rfl, rfl, by decide, tyX8_ok, nmX8, rfl, by decide +kernel⟩
theorem fd_X8_of_7 : qFd RX8 wsX8_of 7 8 0 1 800 := ⟨RX8, TX8, 32, _, rfl, hi_X8_of_8, by decide, (by decide +kernel : Cond.fieldLink RX8 7 (TX8 0).1 (TX8 0).2.1 (TX8 0).2.2.1 ∈ wsX8_of), rfl, rfl, by decide⟩
set_option maxHeartbeats 4000000 in
set_option maxRecDepth 20000 in
theorem w_X8_of {X : qB} {N : Nat} (hX : qOk X cX8_of RX8 5 (some .int) wsX8_of 2 44) {r : Int} {nu : qM} (hE : xr X = some (.int (iZ r)) ∧ (in32 r → xΦ X) ∧ xμ X = nu) 
    {x0 : Nat} {x1 : Int} {x2 : Int} (k_x0 : gK (xG X) x0 = 9) (r_x1 : in32 x1) (r_x2 : in32 x2) {m0 : qM} (hR_m0 : qR (xG X) m0)
    (h : f_X8_of N (xG X)  x0 x1 x2 m0 = some (r, nu)) : qN X 5 0 [(0, .ref x0), (1, .int (iZ x1)), (2, .int (iZ x2))] [] m0 := by
  have hT := hX.T
  unfold f_X8_of at h
  refine qn_aload_n hX (pc := 0) dX8_of_0 0 rfl rfl ?_
  refine qn_iconst hX (pc := 1) dX8_of_1 ?_
  obtain ⟨m1, e_m1, h⟩ := kp_e h
  refine qn_putI hX (pc := 2) fp_X8_of_45 dX8_of_2 k_x0 hR_m0 (show in32 1 by decide) e_m1 (fun hR_m1 => ?_) 
  refine qn_aload_n hX (pc := 5) dX8_of_5 0 rfl rfl ?_
  refine qn_iload_n hX (pc := 6) dX8_of_6 1 rfl rfl ?_
  obtain ⟨v3, m2, e_m2, h⟩ := kb2_e h
  refine qn_callVi hX (pc := 7) [.int (iZ x1)] [.int (iZ x1)] 1 dX8_of_7 gX8_of_X8_placeOf rfl dd_X8_placeOf ⟨rfl, rfl⟩ rfl rfl (by decide) k_x0 rfl rfl hR_m1 (k_X8_placeOf (xl X) hT k_x0 r_x1 e_m2) (fun r_v3 hR_m2 => ?_)
  refine qn_istore_n hX (pc := 10) (ls' := [(3, .int (iZ v3)), (0, .ref x0), (1, .int (iZ x1)), (2, .int (iZ x2))]) dX8_of_10 rfl rfl rfl ?_
  refine qn_iload_n hX (pc := 11) dX8_of_11 0 rfl rfl ?_
  refine qn_if_lt hX (pc := 12) r_v3 27 dX8_of_12 (by decide) (fun c4 => ?_) (fun c4 => ?_)
  · have h := ite_t h c4
    refine qn_iconst hX (pc := 27) dX8_of_27 ?_
    exact qn_iret hX (pc := 28) dX8_of_28 hE hR_m2 (by decide) (Option.some.inj h)
  · have h := ite_f h c4
    refine qn_iload_n hX (pc := 15) dX8_of_15 3 rfl rfl ?_
    refine qn_i2l hX (pc := 16) r_x2 dX8_of_16 ?_
    refine qn_lconst hX (pc := 17) 0 dX8_of_17 (by decide) ?_
    refine qn_ldc2 hX (pc := 18) 5 dX8_of_18 (by decide +kernel : Cond.constantLong RX8 236 (5) ∈ wsX8_of) (by decide) ?_
    obtain ⟨v6, m5, e_m5, h⟩ := kb2_e h
    refine qn_callSi hX (pc := 21) [.long (lZ x2), .long (lZ 0), .long (lZ 5)] [.long (lZ 5), .long (lZ 0), .long (lZ x2)] 3 dX8_of_21 gX8_of_X8_within rfl dd_X8_within ⟨rfl, rfl⟩ rfl rfl rfl hR_m2 (k_X8_within (xl X) hT (in32.l r_x2) (by decide) (by decide) e_m5) (fun r_v6 hR_m5 => ?_)
    refine qn_if_ne hX (pc := 24) r_v6.i 29 dX8_of_24 (by decide) (fun c7 => ?_) (fun c7 => ?_)
    · have h := ite_f h c7
      refine qn_aload_n hX (pc := 29) dX8_of_29 1 rfl rfl ?_
      refine qn_iconst hX (pc := 30) dX8_of_30 ?_
      obtain ⟨m8, e_m8, h⟩ := kp_e h
      refine qn_putI hX (pc := 31) fp_X8_of_45 dX8_of_31 k_x0 hR_m5 (show in32 0 by decide) e_m8 (fun hR_m8 => ?_) 
      refine qn_iload_n hX (pc := 34) dX8_of_34 3 rfl rfl ?_
      refine qn_iconst hX (pc := 35) dX8_of_35 ?_
      refine qn_icmp_ge hX (pc := 36) r_x2 (by decide) 48 dX8_of_36 (by decide) (fun c9 => ?_) (fun c9 => ?_)
      · have h := ite_f h c9
        refine qn_aload_n hX (pc := 48) dX8_of_48 1 rfl rfl ?_
        refine qn_iload_n hX (pc := 49) dX8_of_49 0 rfl rfl ?_
        refine qn_iconst hX (pc := 50) dX8_of_50 ?_
        obtain ⟨v11, m10, e_m10, h⟩ := kb2_e h
        refine qn_callVi hX (pc := 51) [.int (iZ v3), .int (iZ 2)] [.int (iZ 2), .int (iZ v3)] 2 dX8_of_51 gX8_of_X8_ofOrder rfl dd_X8_ofOrder ⟨rfl, rfl⟩ rfl rfl (by decide) k_x0 rfl rfl hR_m8 (k_X8_ofOrder (xl X) hT k_x0 r_v3 (by decide) e_m10) (fun r_v11 hR_m10 => ?_)
        refine qn_istore hX (pc := 54) (ls' := [(4, .int (iZ v11)), (3, .int (iZ v3)), (0, .ref x0), (1, .int (iZ x1)), (2, .int (iZ x2))]) dX8_of_54 rfl rfl ?_
        refine qn_aload_n hX (pc := 56) dX8_of_56 2 rfl rfl ?_
        refine qn_getR hX (pc := 57) fd_X8_of_7 dX8_of_57 k_x0 ?_
        refine qn_bipush hX (pc := 60) dX8_of_60 (by decide) ?_
        refine qn_iload hX (pc := 62) dX8_of_62 0 rfl ?_
        obtain ⟨v12, e_v12, r_v12, h⟩ := ckI_e h
        refine qn_iadd hX (pc := 64) dX8_of_64 e_v12 ?_
        obtain ⟨v13, e_v13, b_v13, h⟩ := rdA_e h
        have r_v13 : in32 v13 := by rw [e_v13]; exact hR_m10.a (n := 684) _ (qr_800 hT k_x0) (by decide)
        refine qn_iald hX (pc := 65) 684 dX8_of_65 (qr_800 hT k_x0) (by decide) b_v13 e_v13 ?_
        refine qn_iload_n hX (pc := 66) dX8_of_66 3 rfl rfl ?_
        refine qn_icmp_ne hX (pc := 67) r_v13 r_x1 83 dX8_of_67 (by decide) (fun c14 => ?_) (fun c14 => ?_)
        · have h := ite_f h c14
          refine qn_iconst hX (pc := 83) dX8_of_83 ?_
          exact qn_iret hX (pc := 84) dX8_of_84 hE hR_m10 (by decide) (Option.some.inj h)
        · have h := ite_t h c14
          refine qn_aload_n hX (pc := 70) dX8_of_70 2 rfl rfl ?_
          refine qn_getR hX (pc := 71) fd_X8_of_7 dX8_of_71 k_x0 ?_
          refine qn_bipush hX (pc := 74) dX8_of_74 (by decide) ?_
          refine qn_iload hX (pc := 76) dX8_of_76 0 rfl ?_
          obtain ⟨v15, e_v15, r_v15, h⟩ := ckI_e h
          refine qn_iadd hX (pc := 78) dX8_of_78 e_v15 ?_
          obtain ⟨v16, e_v16, b_v16, h⟩ := rdA_e h
          have r_v16 : in32 v16 := by rw [e_v16]; exact hR_m10.a (n := 684) _ (qr_800 hT k_x0) (by decide)
          refine qn_iald hX (pc := 79) 684 dX8_of_79 (qr_800 hT k_x0) (by decide) b_v16 e_v16 ?_
          refine qn_goto hX (pc := 80) 84 dX8_of_80 (by decide) ?_
          exact qn_iret hX (pc := 84) dX8_of_84 hE hR_m10 r_v16 (Option.some.inj h)
      · have h := ite_t h c9
        refine qn_aload_n hX (pc := 39) dX8_of_39 1 rfl rfl ?_
        refine qn_iload_n hX (pc := 40) dX8_of_40 0 rfl rfl ?_
        refine qn_iload_n hX (pc := 41) dX8_of_41 3 rfl rfl ?_
        refine qn_iconst hX (pc := 42) dX8_of_42 ?_
        obtain ⟨v17, e_v17, r_v17, h⟩ := ckI_e h
        refine qn_iadd hX (pc := 43) dX8_of_43 e_v17 ?_
        obtain ⟨v19, m18, e_m18, h⟩ := kb2_e h
        refine qn_callVi hX (pc := 44) [.int (iZ v3), .int (iZ v17)] [.int (iZ v17), .int (iZ v3)] 2 dX8_of_44 gX8_of_X8_ofOrder rfl dd_X8_ofOrder ⟨rfl, rfl⟩ rfl rfl (by decide) k_x0 rfl rfl hR_m8 (k_X8_ofOrder (xl X) hT k_x0 r_v3 r_v17 e_m18) (fun r_v19 hR_m18 => ?_)
        exact qn_iret hX (pc := 47) dX8_of_47 hE hR_m18 r_v19 (Option.some.inj h)
    · have h := ite_t h c7
      refine qn_iconst hX (pc := 27) dX8_of_27 ?_
      exact qn_iret hX (pc := 28) dX8_of_28 hE hR_m5 (by decide) (Option.some.inj h)
theorem k_X8_of (l : Launch) {G : qG} (hT : qT G) {N : Nat} {x0 : Nat} {x1 : Int} {x2 : Int} (k_x0 : gK G x0 = 9) (r_x1 : in32 x1) (r_x2 : in32 x2) {m0 : qM} {r : Int} {nu : qM} (h : f_X8_of N G x0 x1 x2 m0 = some (r, nu)) : qC l yX8_of wsX8_of 2 44 G [.ref x0, .int (iZ x1), .int (iZ x2)] m0 (some (.int (iZ r))) (in32 r) nu := by
  refine qn_start (hy := by decide) hT (hw := rfl) (hn := Nat.le_of_ble_eq_true rfl) ?_
  intro X h1 h2 h3 h4 hX hR
  subst h4
  exact w_X8_of hX ⟨h1, fun q => h2 ▸ q, h3⟩ k_x0 r_x1 r_x2 hR h
theorem dd_X8_of : yX8_of.cls = RX8 ∧ yX8_of.cls ≠ "java/lang/invoke/MethodHandle" ∧ yX8_of.cls ≠ "java/lang/invoke/VarHandle" ∧ (parseMethodDescriptor yX8_of.desc).map (fun d => d.parameters.length) = some 2 := by decide +kernel
-- ProRataMarketModel.off
theorem hi_X8_off_8 : ∀ w ∈ wsX80, w ∈ wsX8_off := fun w h => List.mem_cons_of_mem _ (List.mem_append_right _ h)
theorem fp_X8_off_45 : qFp RX8 wsX8_off 45 8 4 0 804 .int := ⟨RX8, TX8, 32, _, tyX8, rfl, hi_X8_off_8, by decide, (by decide +kernel : Cond.fieldLink RX8 45 (TX8 4).1 (TX8 4).2.1 (TX8 4).2.2.1 ∈ wsX8_off), rfl, rfl, by decide, tyX8_ok, nmX8, rfl, by decide +kernel⟩
set_option maxHeartbeats 4000000 in
set_option maxRecDepth 20000 in
theorem w_X8_off {X : qB} {N : Nat} (hX : qOk X cX8_off RX8 2 (some .int) wsX8_off 3 68) {r : Int} {nu : qM} (hE : xr X = some (.int (iZ r)) ∧ (in32 r → xΦ X) ∧ xμ X = nu) 
    {x0 : Nat} {x1 : Int} (k_x0 : gK (xG X) x0 = 9) (r_x1 : in32 x1) {m0 : qM} (hR_m0 : qR (xG X) m0)
    (h : f_X8_off N (xG X)  x0 x1 m0 = some (r, nu)) : qN X 2 0 [(0, .ref x0), (1, .int (iZ x1))] [] m0 := by
  have hT := hX.T
  unfold f_X8_off at h
  refine qn_aload_n hX (pc := 0) dX8_off_0 0 rfl rfl ?_
  refine qn_iconst hX (pc := 1) dX8_off_1 ?_
  obtain ⟨m1, e_m1, h⟩ := kp_e h
  refine qn_putI hX (pc := 2) fp_X8_off_45 dX8_off_2 k_x0 hR_m0 (show in32 0 by decide) e_m1 (fun hR_m1 => ?_) 
  refine qn_aload_n hX (pc := 5) dX8_off_5 0 rfl rfl ?_
  refine qn_iload_n hX (pc := 6) dX8_off_6 1 rfl rfl ?_
  obtain ⟨v3, m2, e_m2, h⟩ := kb2_e h
  refine qn_callVi hX (pc := 7) [.int (iZ x1)] [.int (iZ x1)] 1 dX8_off_7 gX8_off_X8_takesOff rfl dd_X8_takesOff ⟨rfl, rfl⟩ rfl rfl (by decide) k_x0 rfl rfl hR_m1 (k_X8_takesOff (xl X) hT k_x0 r_x1 e_m2) (fun r_v3 hR_m2 => ?_)
  exact qn_iret hX (pc := 10) dX8_off_10 hE hR_m2 r_v3 (Option.some.inj h)
theorem k_X8_off (l : Launch) {G : qG} (hT : qT G) {N : Nat} {x0 : Nat} {x1 : Int} (k_x0 : gK G x0 = 9) (r_x1 : in32 x1) {m0 : qM} {r : Int} {nu : qM} (h : f_X8_off N G x0 x1 m0 = some (r, nu)) : qC l yX8_off wsX8_off 3 68 G [.ref x0, .int (iZ x1)] m0 (some (.int (iZ r))) (in32 r) nu := by
  refine qn_start (hy := by decide) hT (hw := rfl) (hn := Nat.le_of_ble_eq_true rfl) ?_
  intro X h1 h2 h3 h4 hX hR
  subst h4
  exact w_X8_off hX ⟨h1, fun q => h2 ▸ q, h3⟩ k_x0 r_x1 hR h
theorem dd_X8_off : yX8_off.cls = RX8 ∧ yX8_off.cls ≠ "java/lang/invoke/MethodHandle" ∧ yX8_off.cls ≠ "java/lang/invoke/VarHandle" ∧ (parseMethodDescriptor yX8_off.desc).map (fun d => d.parameters.length) = some 1 := by decide +kernel
-- ProRataMarketModel.open
theorem hi_X8_open_8 : ∀ w ∈ wsX80, w ∈ wsX8_open := fun w h => List.mem_cons_of_mem _ (List.mem_append_right _ h)
theorem fp_X8_open_45 : qFp RX8 wsX8_open 45 8 4 0 804 .int := ⟨RX8, TX8, 32, _, tyX8, rfl, hi_X8_open_8, by decide, (by decide +kernel : Cond.fieldLink RX8 45 (TX8 4).1 (TX8 4).2.1 (TX8 4).2.2.1 ∈ wsX8_open), rfl, rfl, by decide, tyX8_ok, nmX8, rfl, by decide +kernel⟩
set_option maxHeartbeats 4000000 in
set_option maxRecDepth 20000 in
theorem w_X8_open {X : qB} {N : Nat} (hX : qOk X cX8_open RX8 1 (some .int) wsX8_open 5 115) {r : Int} {nu : qM} (hE : xr X = some (.int (iZ r)) ∧ (in32 r → xΦ X) ∧ xμ X = nu) 
    {x0 : Nat} (k_x0 : gK (xG X) x0 = 9) {m0 : qM} (hR_m0 : qR (xG X) m0)
    (h : f_X8_open N (xG X)  x0 m0 = some (r, nu)) : qN X 1 0 [(0, .ref x0)] [] m0 := by
  have hT := hX.T
  unfold f_X8_open at h
  refine qn_aload_n hX (pc := 0) dX8_open_0 0 rfl rfl ?_
  refine qn_iconst hX (pc := 1) dX8_open_1 ?_
  obtain ⟨m1, e_m1, h⟩ := kp_e h
  refine qn_putI hX (pc := 2) fp_X8_open_45 dX8_open_2 k_x0 hR_m0 (show in32 0 by decide) e_m1 (fun hR_m1 => ?_) 
  refine qn_aload_n hX (pc := 5) dX8_open_5 0 rfl rfl ?_
  obtain ⟨v3, m2, e_m2, h⟩ := kb2_e h
  refine qn_callVi hX (pc := 6) [] [] 0 dX8_open_6 gX8_open_X8_opening rfl dd_X8_opening ⟨rfl, rfl⟩ rfl rfl (by decide) k_x0 rfl rfl hR_m1 (k_X8_opening (xl X) hT k_x0 e_m2) (fun r_v3 hR_m2 => ?_)
  exact qn_iret hX (pc := 9) dX8_open_9 hE hR_m2 r_v3 (Option.some.inj h)
theorem k_X8_open (l : Launch) {G : qG} (hT : qT G) {N : Nat} {x0 : Nat} (k_x0 : gK G x0 = 9) {m0 : qM} {r : Int} {nu : qM} (h : f_X8_open N G x0 m0 = some (r, nu)) : qC l yX8_open wsX8_open 5 115 G [.ref x0] m0 (some (.int (iZ r))) (in32 r) nu := by
  refine qn_start (hy := by decide) hT (hw := rfl) (hn := Nat.le_of_ble_eq_true rfl) ?_
  intro X h1 h2 h3 h4 hX hR
  subst h4
  exact w_X8_open hX ⟨h1, fun q => h2 ▸ q, h3⟩ k_x0 hR h
theorem dd_X8_open : yX8_open.cls = RX8 ∧ yX8_open.cls ≠ "java/lang/invoke/MethodHandle" ∧ yX8_open.cls ≠ "java/lang/invoke/VarHandle" ∧ (parseMethodDescriptor yX8_open.desc).map (fun d => d.parameters.length) = some 0 := by decide +kernel
-- ProRataMarketModel.order
theorem hi_X8_order_8 : ∀ w ∈ wsX80, w ∈ wsX8_order := fun w h => List.mem_cons_of_mem _ (List.mem_append_right _ h)
theorem fp_X8_order_45 : qFp RX8 wsX8_order 45 8 4 0 804 .int := ⟨RX8, TX8, 32, _, tyX8, rfl, hi_X8_order_8, by decide, (by decide +kernel : Cond.fieldLink RX8 45 (TX8 4).1 (TX8 4).2.1 (TX8 4).2.2.1 ∈ wsX8_order), rfl, rfl, by decide, tyX8_ok, nmX8, rfl, by decide +kernel⟩
set_option maxHeartbeats 4000000 in
set_option maxRecDepth 20000 in
theorem w_X8_order {X : qB} {N : Nat} (hX : qOk X cX8_order RX8 6 (some .int) wsX8_order 7 176) {r : Int} {nu : qM} (hE : xr X = some (.int (iZ r)) ∧ (in32 r → xΦ X) ∧ xμ X = nu) 
    {x0 : Nat} {x1 : Int} {x2 : Int} {x3 : Int} {x4 : Int} {x5 : Int} (k_x0 : gK (xG X) x0 = 9) (r_x1 : in32 x1) (r_x2 : in32 x2) (r_x3 : in32 x3) (r_x4 : in32 x4) (r_x5 : in32 x5) {m0 : qM} (hR_m0 : qR (xG X) m0)
    (h : f_X8_order N (xG X)  x0 x1 x2 x3 x4 x5 m0 = some (r, nu)) : qN X 6 0 [(0, .ref x0), (1, .int (iZ x1)), (2, .int (iZ x2)), (3, .int (iZ x3)), (4, .int (iZ x4)), (5, .int (iZ x5))] [] m0 := by
  have hT := hX.T
  unfold f_X8_order at h
  refine qn_aload_n hX (pc := 0) dX8_order_0 0 rfl rfl ?_
  refine qn_iconst hX (pc := 1) dX8_order_1 ?_
  obtain ⟨m1, e_m1, h⟩ := kp_e h
  refine qn_putI hX (pc := 2) fp_X8_order_45 dX8_order_2 k_x0 hR_m0 (show in32 0 by decide) e_m1 (fun hR_m1 => ?_) 
  refine qn_iload_n hX (pc := 5) dX8_order_5 1 rfl rfl ?_
  refine qn_iload_n hX (pc := 6) dX8_order_6 2 rfl rfl ?_
  refine qn_iload_n hX (pc := 7) dX8_order_7 3 rfl rfl ?_
  refine qn_iload hX (pc := 8) dX8_order_8 4 rfl ?_
  refine qn_iload hX (pc := 10) dX8_order_10 5 rfl ?_
  obtain ⟨v3, m2, e_m2, h⟩ := kb2_e h
  refine qn_callSi hX (pc := 12) [.int (iZ x1), .int (iZ x2), .int (iZ x3), .int (iZ x4), .int (iZ x5)] [.int (iZ x5), .int (iZ x4), .int (iZ x3), .int (iZ x2), .int (iZ x1)] 5 dX8_order_12 gX8_order_X8_isOrder rfl dd_X8_isOrder ⟨rfl, rfl⟩ rfl rfl rfl hR_m1 (k_X8_isOrder (xl X) hT r_x1 r_x2 r_x3 r_x4 r_x5 e_m2) (fun r_v3 hR_m2 => ?_)
  refine qn_if_ne hX (pc := 15) r_v3.i 20 dX8_order_15 (by decide) (fun c4 => ?_) (fun c4 => ?_)
  · have h := ite_f h c4
    refine qn_iload_n hX (pc := 20) dX8_order_20 3 rfl rfl ?_
    refine qn_iload hX (pc := 21) dX8_order_21 4 rfl ?_
    obtain ⟨v6, m5, e_m5, h⟩ := kb2_e h
    refine qn_callSi hX (pc := 23) [.int (iZ x3), .int (iZ x4)] [.int (iZ x4), .int (iZ x3)] 2 dX8_order_23 gX8_order_X8_isInt rfl dd_X8_isInt ⟨rfl, rfl⟩ rfl rfl rfl hR_m2 (k_X8_isInt (xl X) hT r_x3 r_x4 e_m5) (fun r_v6 hR_m5 => ?_)
    refine qn_if_eq hX (pc := 26) r_v6.i 43 dX8_order_26 (by decide) (fun c7 => ?_) (fun c7 => ?_)
    · have h := ite_t h c7
      refine qn_bipush hX (pc := 43) dX8_order_43 (by decide) ?_
      exact qn_iret hX (pc := 45) dX8_order_45 hE hR_m5 (by decide) (Option.some.inj h)
    · have h := ite_f h c7
      refine qn_aload_n hX (pc := 29) dX8_order_29 0 rfl rfl ?_
      refine qn_iload_n hX (pc := 30) dX8_order_30 1 rfl rfl ?_
      refine qn_iload_n hX (pc := 31) dX8_order_31 2 rfl rfl ?_
      refine qn_iload_n hX (pc := 32) dX8_order_32 3 rfl rfl ?_
      refine qn_iload hX (pc := 33) dX8_order_33 4 rfl ?_
      refine qn_iload hX (pc := 35) dX8_order_35 5 rfl ?_
      obtain ⟨v9, m8, e_m8, h⟩ := kb2_e h
      refine qn_callVi hX (pc := 37) [.int (iZ x1), .int (iZ x2), .int (iZ x3), .int (iZ x4), .int (iZ x5)] [.int (iZ x5), .int (iZ x4), .int (iZ x3), .int (iZ x2), .int (iZ x1)] 5 dX8_order_37 gX8_order_X8_orders rfl dd_X8_orders ⟨rfl, rfl⟩ rfl rfl (by decide) k_x0 rfl rfl hR_m5 (k_X8_orders (xl X) hT k_x0 r_x1 r_x2 r_x3 r_x4 r_x5 e_m8) (fun r_v9 hR_m8 => ?_)
      refine qn_goto hX (pc := 40) 45 dX8_order_40 (by decide) ?_
      exact qn_iret hX (pc := 45) dX8_order_45 hE hR_m8 r_v9 (Option.some.inj h)
  · have h := ite_t h c4
    refine qn_iconst hX (pc := 18) dX8_order_18 ?_
    exact qn_iret hX (pc := 19) dX8_order_19 hE hR_m2 (by decide) (Option.some.inj h)
theorem k_X8_order (l : Launch) {G : qG} (hT : qT G) {N : Nat} {x0 : Nat} {x1 : Int} {x2 : Int} {x3 : Int} {x4 : Int} {x5 : Int} (k_x0 : gK G x0 = 9) (r_x1 : in32 x1) (r_x2 : in32 x2) (r_x3 : in32 x3) (r_x4 : in32 x4) (r_x5 : in32 x5) {m0 : qM} {r : Int} {nu : qM} (h : f_X8_order N G x0 x1 x2 x3 x4 x5 m0 = some (r, nu)) : qC l yX8_order wsX8_order 7 176 G [.ref x0, .int (iZ x1), .int (iZ x2), .int (iZ x3), .int (iZ x4), .int (iZ x5)] m0 (some (.int (iZ r))) (in32 r) nu := by
  refine qn_start (hy := by decide) hT (hw := rfl) (hn := Nat.le_of_ble_eq_true rfl) ?_
  intro X h1 h2 h3 h4 hX hR
  subst h4
  exact w_X8_order hX ⟨h1, fun q => h2 ▸ q, h3⟩ k_x0 r_x1 r_x2 r_x3 r_x4 r_x5 hR h
theorem dd_X8_order : yX8_order.cls = RX8 ∧ yX8_order.cls ≠ "java/lang/invoke/MethodHandle" ∧ yX8_order.cls ≠ "java/lang/invoke/VarHandle" ∧ (parseMethodDescriptor yX8_order.desc).map (fun d => d.parameters.length) = some 5 := by decide +kernel
-- ProRataMarketModel.position
theorem hi_X8_position_8 : ∀ w ∈ wsX80, w ∈ wsX8_position := fun w h => List.mem_cons_of_mem _ (List.mem_append_right _ h)
theorem fp_X8_position_45 : qFp RX8 wsX8_position 45 8 4 0 804 .int := ⟨RX8, TX8, 32, _, tyX8, rfl, hi_X8_position_8, by decide, (by decide +kernel : Cond.fieldLink RX8 45 (TX8 4).1 (TX8 4).2.1 (TX8 4).2.2.1 ∈ wsX8_position), rfl, rfl, by decide, tyX8_ok, nmX8, rfl, by decide +kernel⟩
theorem fd_X8_position_45 : qFd RX8 wsX8_position 45 8 4 0 804 := ⟨RX8, TX8, 32, _, rfl, hi_X8_position_8, by decide, (by decide +kernel : Cond.fieldLink RX8 45 (TX8 4).1 (TX8 4).2.1 (TX8 4).2.2.1 ∈ wsX8_position), rfl, rfl, by decide⟩
theorem fd_X8_position_7 : qFd RX8 wsX8_position 7 8 0 1 800 := ⟨RX8, TX8, 32, _, rfl, hi_X8_position_8, by decide, (by decide +kernel : Cond.fieldLink RX8 7 (TX8 0).1 (TX8 0).2.1 (TX8 0).2.2.1 ∈ wsX8_position), rfl, rfl, by decide⟩
set_option maxHeartbeats 4000000 in
set_option maxRecDepth 20000 in
theorem w_X8_position_18 {X : qB} {N : Nat} (hX : qOk X cX8_position RX8 2 (some .int) wsX8_position 1 25) {r : Int} {nu : qM} (hE : xr X = some (.int (iZ r)) ∧ (in32 r → xΦ X) ∧ xμ X = nu) 
    {x0 : Nat} {x1 : Int} {s0 : Nat} {s1 : Int} (k_x0 : gK (xG X) x0 = 9) (r_x1 : in32 x1) (k_s0 : gK (xG X) s0 = 9) (b_s1 : in01 s1) {m0 : qM} (hR_m0 : qR (xG X) m0)
    (h : f_X8_position_18 N (xG X)  x0 x1 s0 s1 m0 = some (r, nu)) : qN X 2 18 [(0, .ref x0), (1, .int (iZ x1))] [.int (iZ s1), .ref s0] m0 := by
  have hT := hX.T
  unfold f_X8_position_18 at h
  obtain ⟨m1, e_m1, h⟩ := kp_e h
  refine qn_putI hX (pc := 18) fp_X8_position_45 dX8_position_18 k_s0 hR_m0 b_s1.i e_m1 (fun hR_m1 => ?_) 
  refine qn_aload_n hX (pc := 21) dX8_position_21 0 rfl rfl ?_
  refine qn_getI hX (pc := 22) fd_X8_position_45 dX8_position_22 k_x0 ?_
  refine qn_if_ne hX (pc := 25) (hR_m1.i 804 _ rfl) 40 dX8_position_25 (by decide) (fun c2 => ?_) (fun c2 => ?_)
  · have h := ite_f h c2
    refine qn_iconst hX (pc := 40) dX8_position_40 ?_
    exact qn_iret hX (pc := 41) dX8_position_41 hE hR_m1 (by decide) (Option.some.inj h)
  · have h := ite_t h c2
    refine qn_aload_n hX (pc := 28) dX8_position_28 0 rfl rfl ?_
    refine qn_getR hX (pc := 29) fd_X8_position_7 dX8_position_29 k_x0 ?_
    refine qn_bipush hX (pc := 32) dX8_position_32 (by decide) ?_
    refine qn_iload_n hX (pc := 34) dX8_position_34 1 rfl rfl ?_
    obtain ⟨v3, e_v3, r_v3, h⟩ := ckI_e h
    refine qn_iadd hX (pc := 35) dX8_position_35 e_v3 ?_
    obtain ⟨v4, e_v4, b_v4, h⟩ := rdA_e h
    have r_v4 : in32 v4 := by rw [e_v4]; exact hR_m1.a (n := 684) _ (qr_800 hT k_x0) (by decide)
    refine qn_iald hX (pc := 36) 684 dX8_position_36 (qr_800 hT k_x0) (by decide) b_v4 e_v4 ?_
    refine qn_goto hX (pc := 37) 41 dX8_position_37 (by decide) ?_
    exact qn_iret hX (pc := 41) dX8_position_41 hE hR_m1 r_v4 (Option.some.inj h)
set_option maxHeartbeats 4000000 in
set_option maxRecDepth 20000 in
theorem w_X8_position {X : qB} {N : Nat} (hX : qOk X cX8_position RX8 2 (some .int) wsX8_position 1 25) {r : Int} {nu : qM} (hE : xr X = some (.int (iZ r)) ∧ (in32 r → xΦ X) ∧ xμ X = nu) 
    {x0 : Nat} {x1 : Int} (k_x0 : gK (xG X) x0 = 9) (r_x1 : in32 x1) {m0 : qM} (hR_m0 : qR (xG X) m0)
    (h : f_X8_position N (xG X)  x0 x1 m0 = some (r, nu)) : qN X 2 0 [(0, .ref x0), (1, .int (iZ x1))] [] m0 := by
  have hT := hX.T
  unfold f_X8_position at h
  refine qn_aload_n hX (pc := 0) dX8_position_0 0 rfl rfl ?_
  refine qn_iload_n hX (pc := 1) dX8_position_1 1 rfl rfl ?_
  refine qn_i2l hX (pc := 2) r_x1 dX8_position_2 ?_
  refine qn_lconst hX (pc := 3) 0 dX8_position_3 (by decide) ?_
  refine qn_ldc2 hX (pc := 4) 9 dX8_position_4 (by decide +kernel : Cond.constantLong RX8 156 (9) ∈ wsX8_position) (by decide) ?_
  obtain ⟨v2, m1, e_m1, h⟩ := kb2_e h
  refine qn_callSi hX (pc := 7) [.long (lZ x1), .long (lZ 0), .long (lZ 9)] [.long (lZ 9), .long (lZ 0), .long (lZ x1)] 3 dX8_position_7 gX8_position_X8_within rfl dd_X8_within ⟨rfl, rfl⟩ rfl rfl rfl hR_m0 (k_X8_within (xl X) hT (in32.l r_x1) (by decide) (by decide) e_m1) (fun r_v2 hR_m1 => ?_)
  refine qn_if_eq hX (pc := 10) r_v2.i 17 dX8_position_10 (by decide) (fun c3 => ?_) (fun c3 => ?_)
  · have h := ite_t h c3
    refine qn_iconst hX (pc := 17) dX8_position_17 ?_
    refine qn_sub (ls' := [(0, .ref x0), (1, .int (iZ x1))]) [0, 1] rfl ?_
    exact w_X8_position_18 hX hE  k_x0 r_x1 k_x0 (by decide) hR_m1 h
  · have h := ite_f h c3
    refine qn_iconst hX (pc := 13) dX8_position_13 ?_
    refine qn_goto hX (pc := 14) 18 dX8_position_14 (by decide) ?_
    refine qn_sub (ls' := [(0, .ref x0), (1, .int (iZ x1))]) [0, 1] rfl ?_
    exact w_X8_position_18 hX hE  k_x0 r_x1 k_x0 (by decide) hR_m1 h
theorem k_X8_position (l : Launch) {G : qG} (hT : qT G) {N : Nat} {x0 : Nat} {x1 : Int} (k_x0 : gK G x0 = 9) (r_x1 : in32 x1) {m0 : qM} {r : Int} {nu : qM} (h : f_X8_position N G x0 x1 m0 = some (r, nu)) : qC l yX8_position wsX8_position 1 25 G [.ref x0, .int (iZ x1)] m0 (some (.int (iZ r))) (in32 r) nu := by
  refine qn_start (hy := by decide) hT (hw := rfl) (hn := Nat.le_of_ble_eq_true rfl) ?_
  intro X h1 h2 h3 h4 hX hR
  subst h4
  exact w_X8_position hX ⟨h1, fun q => h2 ▸ q, h3⟩ k_x0 r_x1 hR h
theorem dd_X8_position : yX8_position.cls = RX8 ∧ yX8_position.cls ≠ "java/lang/invoke/MethodHandle" ∧ yX8_position.cls ≠ "java/lang/invoke/VarHandle" ∧ (parseMethodDescriptor yX8_position.desc).map (fun d => d.parameters.length) = some 1 := by decide +kernel
-- ProRataMarketModel.putsAside
theorem hi_X8_putsAside_8 : ∀ w ∈ wsX80, w ∈ wsX8_putsAside := fun w h => List.mem_cons_of_mem _ (List.mem_append_right _ h)
theorem fd_X8_putsAside_20 : qFd RX8 wsX8_putsAside 20 8 3 1 803 := ⟨RX8, TX8, 32, _, rfl, hi_X8_putsAside_8, by decide, (by decide +kernel : Cond.fieldLink RX8 20 (TX8 3).1 (TX8 3).2.1 (TX8 3).2.2.1 ∈ wsX8_putsAside), rfl, rfl, by decide⟩
theorem fd_X8_putsAside_16 : qFd RX8 wsX8_putsAside 16 8 2 1 802 := ⟨RX8, TX8, 32, _, rfl, hi_X8_putsAside_8, by decide, (by decide +kernel : Cond.fieldLink RX8 16 (TX8 2).1 (TX8 2).2.1 (TX8 2).2.2.1 ∈ wsX8_putsAside), rfl, rfl, by decide⟩
theorem fd_X8_putsAside_13 : qFd RX8 wsX8_putsAside 13 8 1 1 801 := ⟨RX8, TX8, 32, _, rfl, hi_X8_putsAside_8, by decide, (by decide +kernel : Cond.fieldLink RX8 13 (TX8 1).1 (TX8 1).2.1 (TX8 1).2.2.1 ∈ wsX8_putsAside), rfl, rfl, by decide⟩
theorem fd_X8_putsAside_7 : qFd RX8 wsX8_putsAside 7 8 0 1 800 := ⟨RX8, TX8, 32, _, rfl, hi_X8_putsAside_8, by decide, (by decide +kernel : Cond.fieldLink RX8 7 (TX8 0).1 (TX8 0).2.1 (TX8 0).2.2.1 ∈ wsX8_putsAside), rfl, rfl, by decide⟩
set_option maxHeartbeats 4000000 in
set_option maxRecDepth 20000 in
theorem w_X8_putsAside_29 {X : qB} {N : Nat} (hX : qOk X cX8_putsAside RX8 2 none wsX8_putsAside 0 0) {r : qM} (hE : xr X = none ∧ (True → xΦ X) ∧ xμ X = r) {k29 : (Nat → Int → qM → Option (qM))} (hk29 : ∀ (x0 : Nat) (x1 : Int) (m0 : qM), gK (xG X) x0 = 9 → in32 x1 → qR (xG X) m0 → k29 x0 x1 m0 = some r → qN X 2 29 [(0, .ref x0), (1, .int (iZ x1))] [] m0)
    {x0 : Nat} {x1 : Int} (k_x0 : gK (xG X) x0 = 9) (r_x1 : in32 x1) {m0 : qM} (hR_m0 : qR (xG X) m0)
    (h : f_X8_putsAside_29 N (xG X) k29 x0 x1 m0 = some r) : qN X 2 29 [(0, .ref x0), (1, .int (iZ x1))] [] m0 := by
  have hT := hX.T
  unfold f_X8_putsAside_29 at h
  refine qn_iload_n hX (pc := 29) dX8_putsAside_29 1 rfl rfl ?_
  refine qn_bipush hX (pc := 30) dX8_putsAside_30 (by decide) ?_
  refine qn_icmp_ge hX (pc := 32) r_x1 (by decide) 53 dX8_putsAside_32 (by decide) (fun c1 => ?_) (fun c1 => ?_)
  · have h := ite_f h c1
    exact qn_vret hX (pc := 53) dX8_putsAside_53 hE hR_m0 (Option.some.inj h)
  · have h := ite_t h c1
    refine qn_aload_n hX (pc := 35) dX8_putsAside_35 0 rfl rfl ?_
    refine qn_getR hX (pc := 36) fd_X8_putsAside_20 dX8_putsAside_36 k_x0 ?_
    refine qn_iload_n hX (pc := 39) dX8_putsAside_39 1 rfl rfl ?_
    refine qn_aload_n hX (pc := 40) dX8_putsAside_40 0 rfl rfl ?_
    refine qn_getR hX (pc := 41) fd_X8_putsAside_16 dX8_putsAside_41 k_x0 ?_
    refine qn_iload_n hX (pc := 44) dX8_putsAside_44 1 rfl rfl ?_
    obtain ⟨v2, e_v2, b_v2, h⟩ := rdA_e h
    have r_v2 : in64 v2 := by rw [e_v2]; exact hR_m0.j (n := 10) _ (qr_802 hT k_x0) (by decide)
    refine qn_lald hX (pc := 45) 10 dX8_putsAside_45 (qr_802 hT k_x0) (by decide) b_v2 e_v2 ?_
    obtain ⟨m3, e_m3, b_m3, h⟩ := wrA_e h
    refine qn_last hX (pc := 46) 10 dX8_putsAside_46 (qr_803 hT k_x0) (by decide) b_m3 hR_m0 r_v2 e_m3 (fun hR_m3 => ?_) 
    obtain ⟨v4, e_v4, r_v4, h⟩ := ckI_e h
    refine qn_iinc hX (pc := 47) (ls' := [(1, .int (iZ v4)), (0, .ref x0)]) dX8_putsAside_47 1 rfl e_v4 rfl rfl ?_
    refine qn_goto hX (pc := 50) 29 dX8_putsAside_50 (by decide) ?_
    refine qn_sub (ls' := [(0, .ref x0), (1, .int (iZ v4))]) [1, 0] rfl ?_
    exact hk29 x0 v4 m3 k_x0 r_v4 hR_m3 h
set_option maxHeartbeats 4000000 in
set_option maxRecDepth 20000 in
theorem w_X8_putsAside_L29 {X : qB} {N : Nat} (hX : qOk X cX8_putsAside RX8 2 none wsX8_putsAside 0 0) {r : qM} (hE : xr X = none ∧ (True → xΦ X) ∧ xμ X = r) 
    {x0 : Nat} {x1 : Int} (k_x0 : gK (xG X) x0 = 9) (r_x1 : in32 x1) {m0 : qM} (hR_m0 : qR (xG X) m0)
    (h : f_X8_putsAside_L29 N (xG X)  x0 x1 m0 = some r) : qN X 2 29 [(0, .ref x0), (1, .int (iZ x1))] [] m0 := by
  unfold f_X8_putsAside_L29 at h
  exact qLoop_w (σ := Nat × Int × qM) (P := fun p => gK (xG X) p.1 = 9 ∧ in32 p.2.1 ∧ qR (xG X) p.2.2) (Q := fun p => qN X 2 29 [(0, .ref p.1), (1, .int (iZ p.2.1))] [] p.2.2) (fun k hrec p hp hh => w_X8_putsAside_29 hX hE (fun x0 x1 m0 q0 q1 hRm hh => hrec (x0, x1, m0) ⟨q0, q1, hRm⟩ hh) hp.1 hp.2.1 hp.2.2 hh) N (x0, x1, m0) ⟨k_x0, r_x1, hR_m0⟩ h
set_option maxHeartbeats 4000000 in
set_option maxRecDepth 20000 in
theorem w_X8_putsAside_2 {X : qB} {N : Nat} (hX : qOk X cX8_putsAside RX8 2 none wsX8_putsAside 0 0) {r : qM} (hE : xr X = none ∧ (True → xΦ X) ∧ xμ X = r) {k2 : (Nat → Int → qM → Option (qM))} (hk2 : ∀ (x0 : Nat) (x1 : Int) (m0 : qM), gK (xG X) x0 = 9 → in32 x1 → qR (xG X) m0 → k2 x0 x1 m0 = some r → qN X 2 2 [(0, .ref x0), (1, .int (iZ x1))] [] m0)
    {x0 : Nat} {x1 : Int} (k_x0 : gK (xG X) x0 = 9) (r_x1 : in32 x1) {m0 : qM} (hR_m0 : qR (xG X) m0)
    (h : f_X8_putsAside_2 N (xG X) k2 x0 x1 m0 = some r) : qN X 2 2 [(0, .ref x0), (1, .int (iZ x1))] [] m0 := by
  have hT := hX.T
  unfold f_X8_putsAside_2 at h
  refine qn_iload_n hX (pc := 2) dX8_putsAside_2 1 rfl rfl ?_
  refine qn_sipush hX (pc := 3) dX8_putsAside_3 (by decide) ?_
  refine qn_icmp_ge hX (pc := 6) r_x1 (by decide) 27 dX8_putsAside_6 (by decide) (fun c1 => ?_) (fun c1 => ?_)
  · have h := ite_f h c1
    refine qn_iconst hX (pc := 27) dX8_putsAside_27 ?_
    refine qn_istore_n hX (pc := 28) (ls' := [(1, .int (iZ 0)), (0, .ref x0)]) dX8_putsAside_28 rfl rfl rfl ?_
    refine qn_sub (ls' := [(0, .ref x0), (1, .int (iZ 0))]) [1, 0] rfl ?_
    exact w_X8_putsAside_L29 hX hE  k_x0 (by decide) hR_m0 h
  · have h := ite_t h c1
    refine qn_aload_n hX (pc := 9) dX8_putsAside_9 0 rfl rfl ?_
    refine qn_getR hX (pc := 10) fd_X8_putsAside_13 dX8_putsAside_10 k_x0 ?_
    refine qn_iload_n hX (pc := 13) dX8_putsAside_13 1 rfl rfl ?_
    refine qn_aload_n hX (pc := 14) dX8_putsAside_14 0 rfl rfl ?_
    refine qn_getR hX (pc := 15) fd_X8_putsAside_7 dX8_putsAside_15 k_x0 ?_
    refine qn_iload_n hX (pc := 18) dX8_putsAside_18 1 rfl rfl ?_
    obtain ⟨v2, e_v2, b_v2, h⟩ := rdA_e h
    have r_v2 : in32 v2 := by rw [e_v2]; exact hR_m0.a (n := 684) _ (qr_800 hT k_x0) (by decide)
    refine qn_iald hX (pc := 19) 684 dX8_putsAside_19 (qr_800 hT k_x0) (by decide) b_v2 e_v2 ?_
    obtain ⟨m3, e_m3, b_m3, h⟩ := wrA_e h
    refine qn_iast hX (pc := 20) 684 dX8_putsAside_20 (qr_801 hT k_x0) (by decide) b_m3 hR_m0 r_v2 e_m3 (fun hR_m3 => ?_) 
    obtain ⟨v4, e_v4, r_v4, h⟩ := ckI_e h
    refine qn_iinc hX (pc := 21) (ls' := [(1, .int (iZ v4)), (0, .ref x0)]) dX8_putsAside_21 1 rfl e_v4 rfl rfl ?_
    refine qn_goto hX (pc := 24) 2 dX8_putsAside_24 (by decide) ?_
    refine qn_sub (ls' := [(0, .ref x0), (1, .int (iZ v4))]) [1, 0] rfl ?_
    exact hk2 x0 v4 m3 k_x0 r_v4 hR_m3 h
set_option maxHeartbeats 4000000 in
set_option maxRecDepth 20000 in
theorem w_X8_putsAside_L2 {X : qB} {N : Nat} (hX : qOk X cX8_putsAside RX8 2 none wsX8_putsAside 0 0) {r : qM} (hE : xr X = none ∧ (True → xΦ X) ∧ xμ X = r) 
    {x0 : Nat} {x1 : Int} (k_x0 : gK (xG X) x0 = 9) (r_x1 : in32 x1) {m0 : qM} (hR_m0 : qR (xG X) m0)
    (h : f_X8_putsAside_L2 N (xG X)  x0 x1 m0 = some r) : qN X 2 2 [(0, .ref x0), (1, .int (iZ x1))] [] m0 := by
  unfold f_X8_putsAside_L2 at h
  exact qLoop_w (σ := Nat × Int × qM) (P := fun p => gK (xG X) p.1 = 9 ∧ in32 p.2.1 ∧ qR (xG X) p.2.2) (Q := fun p => qN X 2 2 [(0, .ref p.1), (1, .int (iZ p.2.1))] [] p.2.2) (fun k hrec p hp hh => w_X8_putsAside_2 hX hE (fun x0 x1 m0 q0 q1 hRm hh => hrec (x0, x1, m0) ⟨q0, q1, hRm⟩ hh) hp.1 hp.2.1 hp.2.2 hh) N (x0, x1, m0) ⟨k_x0, r_x1, hR_m0⟩ h
set_option maxHeartbeats 4000000 in
set_option maxRecDepth 20000 in
theorem w_X8_putsAside {X : qB} {N : Nat} (hX : qOk X cX8_putsAside RX8 2 none wsX8_putsAside 0 0) {r : qM} (hE : xr X = none ∧ (True → xΦ X) ∧ xμ X = r) 
    {x0 : Nat} (k_x0 : gK (xG X) x0 = 9) {m0 : qM} (hR_m0 : qR (xG X) m0)
    (h : f_X8_putsAside N (xG X)  x0 m0 = some r) : qN X 2 0 [(0, .ref x0)] [] m0 := by
  have hT := hX.T
  unfold f_X8_putsAside at h
  refine qn_iconst hX (pc := 0) dX8_putsAside_0 ?_
  refine qn_istore_n hX (pc := 1) (ls' := [(1, .int (iZ 0)), (0, .ref x0)]) dX8_putsAside_1 rfl rfl rfl ?_
  refine qn_sub (ls' := [(0, .ref x0), (1, .int (iZ 0))]) [1, 0] rfl ?_
  exact w_X8_putsAside_L2 hX hE  k_x0 (by decide) hR_m0 h
theorem k_X8_putsAside (l : Launch) {G : qG} (hT : qT G) {N : Nat} {x0 : Nat} (k_x0 : gK G x0 = 9) {m0 : qM} {r : qM} (h : f_X8_putsAside N G x0 m0 = some r) : qC l yX8_putsAside wsX8_putsAside 0 0 G [.ref x0] m0 none True r := by
  refine qn_start (hy := by decide) hT (hw := rfl) (hn := Nat.le_of_ble_eq_true rfl) ?_
  intro X h1 h2 h3 h4 hX hR
  subst h4
  exact w_X8_putsAside hX ⟨h1, fun q => h2 ▸ q, h3⟩ k_x0 hR h
theorem dd_X8_putsAside : yX8_putsAside.cls = RX8 ∧ yX8_putsAside.cls ≠ "java/lang/invoke/MethodHandle" ∧ yX8_putsAside.cls ≠ "java/lang/invoke/VarHandle" ∧ (parseMethodDescriptor yX8_putsAside.desc).map (fun d => d.parameters.length) = some 0 := by decide +kernel
-- ProRataMarketModel.putsBack
theorem hi_X8_putsBack_8 : ∀ w ∈ wsX80, w ∈ wsX8_putsBack := fun w h => List.mem_cons_of_mem _ (List.mem_append_right _ h)
theorem fd_X8_putsBack_16 : qFd RX8 wsX8_putsBack 16 8 2 1 802 := ⟨RX8, TX8, 32, _, rfl, hi_X8_putsBack_8, by decide, (by decide +kernel : Cond.fieldLink RX8 16 (TX8 2).1 (TX8 2).2.1 (TX8 2).2.2.1 ∈ wsX8_putsBack), rfl, rfl, by decide⟩
theorem fd_X8_putsBack_20 : qFd RX8 wsX8_putsBack 20 8 3 1 803 := ⟨RX8, TX8, 32, _, rfl, hi_X8_putsBack_8, by decide, (by decide +kernel : Cond.fieldLink RX8 20 (TX8 3).1 (TX8 3).2.1 (TX8 3).2.2.1 ∈ wsX8_putsBack), rfl, rfl, by decide⟩
theorem fd_X8_putsBack_7 : qFd RX8 wsX8_putsBack 7 8 0 1 800 := ⟨RX8, TX8, 32, _, rfl, hi_X8_putsBack_8, by decide, (by decide +kernel : Cond.fieldLink RX8 7 (TX8 0).1 (TX8 0).2.1 (TX8 0).2.2.1 ∈ wsX8_putsBack), rfl, rfl, by decide⟩
theorem fd_X8_putsBack_13 : qFd RX8 wsX8_putsBack 13 8 1 1 801 := ⟨RX8, TX8, 32, _, rfl, hi_X8_putsBack_8, by decide, (by decide +kernel : Cond.fieldLink RX8 13 (TX8 1).1 (TX8 1).2.1 (TX8 1).2.2.1 ∈ wsX8_putsBack), rfl, rfl, by decide⟩
set_option maxHeartbeats 4000000 in
set_option maxRecDepth 20000 in
theorem w_X8_putsBack_29 {X : qB} {N : Nat} (hX : qOk X cX8_putsBack RX8 2 none wsX8_putsBack 0 0) {r : qM} (hE : xr X = none ∧ (True → xΦ X) ∧ xμ X = r) {k29 : (Nat → Int → qM → Option (qM))} (hk29 : ∀ (x0 : Nat) (x1 : Int) (m0 : qM), gK (xG X) x0 = 9 → in32 x1 → qR (xG X) m0 → k29 x0 x1 m0 = some r → qN X 2 29 [(0, .ref x0), (1, .int (iZ x1))] [] m0)
    {x0 : Nat} {x1 : Int} (k_x0 : gK (xG X) x0 = 9) (r_x1 : in32 x1) {m0 : qM} (hR_m0 : qR (xG X) m0)
    (h : f_X8_putsBack_29 N (xG X) k29 x0 x1 m0 = some r) : qN X 2 29 [(0, .ref x0), (1, .int (iZ x1))] [] m0 := by
  have hT := hX.T
  unfold f_X8_putsBack_29 at h
  refine qn_iload_n hX (pc := 29) dX8_putsBack_29 1 rfl rfl ?_
  refine qn_bipush hX (pc := 30) dX8_putsBack_30 (by decide) ?_
  refine qn_icmp_ge hX (pc := 32) r_x1 (by decide) 53 dX8_putsBack_32 (by decide) (fun c1 => ?_) (fun c1 => ?_)
  · have h := ite_f h c1
    exact qn_vret hX (pc := 53) dX8_putsBack_53 hE hR_m0 (Option.some.inj h)
  · have h := ite_t h c1
    refine qn_aload_n hX (pc := 35) dX8_putsBack_35 0 rfl rfl ?_
    refine qn_getR hX (pc := 36) fd_X8_putsBack_16 dX8_putsBack_36 k_x0 ?_
    refine qn_iload_n hX (pc := 39) dX8_putsBack_39 1 rfl rfl ?_
    refine qn_aload_n hX (pc := 40) dX8_putsBack_40 0 rfl rfl ?_
    refine qn_getR hX (pc := 41) fd_X8_putsBack_20 dX8_putsBack_41 k_x0 ?_
    refine qn_iload_n hX (pc := 44) dX8_putsBack_44 1 rfl rfl ?_
    obtain ⟨v2, e_v2, b_v2, h⟩ := rdA_e h
    have r_v2 : in64 v2 := by rw [e_v2]; exact hR_m0.j (n := 10) _ (qr_803 hT k_x0) (by decide)
    refine qn_lald hX (pc := 45) 10 dX8_putsBack_45 (qr_803 hT k_x0) (by decide) b_v2 e_v2 ?_
    obtain ⟨m3, e_m3, b_m3, h⟩ := wrA_e h
    refine qn_last hX (pc := 46) 10 dX8_putsBack_46 (qr_802 hT k_x0) (by decide) b_m3 hR_m0 r_v2 e_m3 (fun hR_m3 => ?_) 
    obtain ⟨v4, e_v4, r_v4, h⟩ := ckI_e h
    refine qn_iinc hX (pc := 47) (ls' := [(1, .int (iZ v4)), (0, .ref x0)]) dX8_putsBack_47 1 rfl e_v4 rfl rfl ?_
    refine qn_goto hX (pc := 50) 29 dX8_putsBack_50 (by decide) ?_
    refine qn_sub (ls' := [(0, .ref x0), (1, .int (iZ v4))]) [1, 0] rfl ?_
    exact hk29 x0 v4 m3 k_x0 r_v4 hR_m3 h
set_option maxHeartbeats 4000000 in
set_option maxRecDepth 20000 in
theorem w_X8_putsBack_L29 {X : qB} {N : Nat} (hX : qOk X cX8_putsBack RX8 2 none wsX8_putsBack 0 0) {r : qM} (hE : xr X = none ∧ (True → xΦ X) ∧ xμ X = r) 
    {x0 : Nat} {x1 : Int} (k_x0 : gK (xG X) x0 = 9) (r_x1 : in32 x1) {m0 : qM} (hR_m0 : qR (xG X) m0)
    (h : f_X8_putsBack_L29 N (xG X)  x0 x1 m0 = some r) : qN X 2 29 [(0, .ref x0), (1, .int (iZ x1))] [] m0 := by
  unfold f_X8_putsBack_L29 at h
  exact qLoop_w (σ := Nat × Int × qM) (P := fun p => gK (xG X) p.1 = 9 ∧ in32 p.2.1 ∧ qR (xG X) p.2.2) (Q := fun p => qN X 2 29 [(0, .ref p.1), (1, .int (iZ p.2.1))] [] p.2.2) (fun k hrec p hp hh => w_X8_putsBack_29 hX hE (fun x0 x1 m0 q0 q1 hRm hh => hrec (x0, x1, m0) ⟨q0, q1, hRm⟩ hh) hp.1 hp.2.1 hp.2.2 hh) N (x0, x1, m0) ⟨k_x0, r_x1, hR_m0⟩ h
set_option maxHeartbeats 4000000 in
set_option maxRecDepth 20000 in
theorem w_X8_putsBack_2 {X : qB} {N : Nat} (hX : qOk X cX8_putsBack RX8 2 none wsX8_putsBack 0 0) {r : qM} (hE : xr X = none ∧ (True → xΦ X) ∧ xμ X = r) {k2 : (Nat → Int → qM → Option (qM))} (hk2 : ∀ (x0 : Nat) (x1 : Int) (m0 : qM), gK (xG X) x0 = 9 → in32 x1 → qR (xG X) m0 → k2 x0 x1 m0 = some r → qN X 2 2 [(0, .ref x0), (1, .int (iZ x1))] [] m0)
    {x0 : Nat} {x1 : Int} (k_x0 : gK (xG X) x0 = 9) (r_x1 : in32 x1) {m0 : qM} (hR_m0 : qR (xG X) m0)
    (h : f_X8_putsBack_2 N (xG X) k2 x0 x1 m0 = some r) : qN X 2 2 [(0, .ref x0), (1, .int (iZ x1))] [] m0 := by
  have hT := hX.T
  unfold f_X8_putsBack_2 at h
  refine qn_iload_n hX (pc := 2) dX8_putsBack_2 1 rfl rfl ?_
  refine qn_sipush hX (pc := 3) dX8_putsBack_3 (by decide) ?_
  refine qn_icmp_ge hX (pc := 6) r_x1 (by decide) 27 dX8_putsBack_6 (by decide) (fun c1 => ?_) (fun c1 => ?_)
  · have h := ite_f h c1
    refine qn_iconst hX (pc := 27) dX8_putsBack_27 ?_
    refine qn_istore_n hX (pc := 28) (ls' := [(1, .int (iZ 0)), (0, .ref x0)]) dX8_putsBack_28 rfl rfl rfl ?_
    refine qn_sub (ls' := [(0, .ref x0), (1, .int (iZ 0))]) [1, 0] rfl ?_
    exact w_X8_putsBack_L29 hX hE  k_x0 (by decide) hR_m0 h
  · have h := ite_t h c1
    refine qn_aload_n hX (pc := 9) dX8_putsBack_9 0 rfl rfl ?_
    refine qn_getR hX (pc := 10) fd_X8_putsBack_7 dX8_putsBack_10 k_x0 ?_
    refine qn_iload_n hX (pc := 13) dX8_putsBack_13 1 rfl rfl ?_
    refine qn_aload_n hX (pc := 14) dX8_putsBack_14 0 rfl rfl ?_
    refine qn_getR hX (pc := 15) fd_X8_putsBack_13 dX8_putsBack_15 k_x0 ?_
    refine qn_iload_n hX (pc := 18) dX8_putsBack_18 1 rfl rfl ?_
    obtain ⟨v2, e_v2, b_v2, h⟩ := rdA_e h
    have r_v2 : in32 v2 := by rw [e_v2]; exact hR_m0.a (n := 684) _ (qr_801 hT k_x0) (by decide)
    refine qn_iald hX (pc := 19) 684 dX8_putsBack_19 (qr_801 hT k_x0) (by decide) b_v2 e_v2 ?_
    obtain ⟨m3, e_m3, b_m3, h⟩ := wrA_e h
    refine qn_iast hX (pc := 20) 684 dX8_putsBack_20 (qr_800 hT k_x0) (by decide) b_m3 hR_m0 r_v2 e_m3 (fun hR_m3 => ?_) 
    obtain ⟨v4, e_v4, r_v4, h⟩ := ckI_e h
    refine qn_iinc hX (pc := 21) (ls' := [(1, .int (iZ v4)), (0, .ref x0)]) dX8_putsBack_21 1 rfl e_v4 rfl rfl ?_
    refine qn_goto hX (pc := 24) 2 dX8_putsBack_24 (by decide) ?_
    refine qn_sub (ls' := [(0, .ref x0), (1, .int (iZ v4))]) [1, 0] rfl ?_
    exact hk2 x0 v4 m3 k_x0 r_v4 hR_m3 h
set_option maxHeartbeats 4000000 in
set_option maxRecDepth 20000 in
theorem w_X8_putsBack_L2 {X : qB} {N : Nat} (hX : qOk X cX8_putsBack RX8 2 none wsX8_putsBack 0 0) {r : qM} (hE : xr X = none ∧ (True → xΦ X) ∧ xμ X = r) 
    {x0 : Nat} {x1 : Int} (k_x0 : gK (xG X) x0 = 9) (r_x1 : in32 x1) {m0 : qM} (hR_m0 : qR (xG X) m0)
    (h : f_X8_putsBack_L2 N (xG X)  x0 x1 m0 = some r) : qN X 2 2 [(0, .ref x0), (1, .int (iZ x1))] [] m0 := by
  unfold f_X8_putsBack_L2 at h
  exact qLoop_w (σ := Nat × Int × qM) (P := fun p => gK (xG X) p.1 = 9 ∧ in32 p.2.1 ∧ qR (xG X) p.2.2) (Q := fun p => qN X 2 2 [(0, .ref p.1), (1, .int (iZ p.2.1))] [] p.2.2) (fun k hrec p hp hh => w_X8_putsBack_2 hX hE (fun x0 x1 m0 q0 q1 hRm hh => hrec (x0, x1, m0) ⟨q0, q1, hRm⟩ hh) hp.1 hp.2.1 hp.2.2 hh) N (x0, x1, m0) ⟨k_x0, r_x1, hR_m0⟩ h
set_option maxHeartbeats 4000000 in
set_option maxRecDepth 20000 in
theorem w_X8_putsBack {X : qB} {N : Nat} (hX : qOk X cX8_putsBack RX8 2 none wsX8_putsBack 0 0) {r : qM} (hE : xr X = none ∧ (True → xΦ X) ∧ xμ X = r) 
    {x0 : Nat} (k_x0 : gK (xG X) x0 = 9) {m0 : qM} (hR_m0 : qR (xG X) m0)
    (h : f_X8_putsBack N (xG X)  x0 m0 = some r) : qN X 2 0 [(0, .ref x0)] [] m0 := by
  have hT := hX.T
  unfold f_X8_putsBack at h
  refine qn_iconst hX (pc := 0) dX8_putsBack_0 ?_
  refine qn_istore_n hX (pc := 1) (ls' := [(1, .int (iZ 0)), (0, .ref x0)]) dX8_putsBack_1 rfl rfl rfl ?_
  refine qn_sub (ls' := [(0, .ref x0), (1, .int (iZ 0))]) [1, 0] rfl ?_
  exact w_X8_putsBack_L2 hX hE  k_x0 (by decide) hR_m0 h
theorem k_X8_putsBack (l : Launch) {G : qG} (hT : qT G) {N : Nat} {x0 : Nat} (k_x0 : gK G x0 = 9) {m0 : qM} {r : qM} (h : f_X8_putsBack N G x0 m0 = some r) : qC l yX8_putsBack wsX8_putsBack 0 0 G [.ref x0] m0 none True r := by
  refine qn_start (hy := by decide) hT (hw := rfl) (hn := Nat.le_of_ble_eq_true rfl) ?_
  intro X h1 h2 h3 h4 hX hR
  subst h4
  exact w_X8_putsBack hX ⟨h1, fun q => h2 ▸ q, h3⟩ k_x0 hR h
theorem dd_X8_putsBack : yX8_putsBack.cls = RX8 ∧ yX8_putsBack.cls ≠ "java/lang/invoke/MethodHandle" ∧ yX8_putsBack.cls ≠ "java/lang/invoke/VarHandle" ∧ (parseMethodDescriptor yX8_putsBack.desc).map (fun d => d.parameters.length) = some 0 := by decide +kernel
-- ProRataMarketModel.queue
theorem hi_X8_queue_8 : ∀ w ∈ wsX80, w ∈ wsX8_queue := fun w h => List.mem_cons_of_mem _ (List.mem_append_right _ h)
theorem fd_X8_queue_7 : qFd RX8 wsX8_queue 7 8 0 1 800 := ⟨RX8, TX8, 32, _, rfl, hi_X8_queue_8, by decide, (by decide +kernel : Cond.fieldLink RX8 7 (TX8 0).1 (TX8 0).2.1 (TX8 0).2.2.1 ∈ wsX8_queue), rfl, rfl, by decide⟩
theorem fp_X8_queue_45 : qFp RX8 wsX8_queue 45 8 4 0 804 .int := ⟨RX8, TX8, 32, _, tyX8, rfl, hi_X8_queue_8, by decide, (by decide +kernel : Cond.fieldLink RX8 45 (TX8 4).1 (TX8 4).2.1 (TX8 4).2.2.1 ∈ wsX8_queue), rfl, rfl, by decide, tyX8_ok, nmX8, rfl, by decide +kernel⟩
set_option maxHeartbeats 4000000 in
set_option maxRecDepth 20000 in
theorem w_X8_queue_53 {X : qB} {N : Nat} (hX : qOk X cX8_queue RX8 6 (some .int) wsX8_queue 2 45) {r : Int} {nu : qM} (hE : xr X = some (.int (iZ r)) ∧ (in32 r → xΦ X) ∧ xμ X = nu) {k11 : (Nat → Int → Int → Int → Int → Int → qM → Option (Int × qM))} (hk11 : ∀ (x0 : Nat) (x1 : Int) (x2 : Int) (x3 : Int) (x4 : Int) (x5 : Int) (m0 : qM), gK (xG X) x0 = 9 → in32 x1 → in32 x2 → in32 x3 → in32 x4 → in32 x5 → qR (xG X) m0 → k11 x0 x1 x2 x3 x4 x5 m0 = some (r, nu) → qN X 6 11 [(0, .ref x0), (1, .int (iZ x1)), (2, .int (iZ x2)), (3, .int (iZ x3)), (4, .int (iZ x4)), (5, .int (iZ x5))] [] m0)
    {x0 : Nat} {x1 : Int} {x2 : Int} {x3 : Int} {x4 : Int} {x5 : Int} (k_x0 : gK (xG X) x0 = 9) (r_x1 : in32 x1) (r_x2 : in32 x2) (r_x3 : in32 x3) (r_x4 : in32 x4) (r_x5 : in32 x5) {m0 : qM} (hR_m0 : qR (xG X) m0)
    (h : f_X8_queue_53 N (xG X) k11 x0 x1 x2 x3 x4 x5 m0 = some (r, nu)) : qN X 6 53 [(0, .ref x0), (1, .int (iZ x1)), (2, .int (iZ x2)), (3, .int (iZ x3)), (4, .int (iZ x4)), (5, .int (iZ x5))] [] m0 := by
  have hT := hX.T
  unfold f_X8_queue_53 at h
  obtain ⟨v1, e_v1, r_v1, h⟩ := ckI_e h
  refine qn_iinc hX (pc := 53) (ls' := [(5, .int (iZ v1)), (0, .ref x0), (1, .int (iZ x1)), (2, .int (iZ x2)), (3, .int (iZ x3)), (4, .int (iZ x4))]) dX8_queue_53 5 rfl e_v1 rfl rfl ?_
  refine qn_goto hX (pc := 56) 11 dX8_queue_56 (by decide) ?_
  refine qn_sub (ls' := [(0, .ref x0), (1, .int (iZ x1)), (2, .int (iZ x2)), (3, .int (iZ x3)), (4, .int (iZ x4)), (5, .int (iZ v1))]) [1, 2, 3, 4, 5, 0] rfl ?_
  exact hk11 x0 x1 x2 x3 x4 v1 m0 k_x0 r_x1 r_x2 r_x3 r_x4 r_v1 hR_m0 h
set_option maxHeartbeats 4000000 in
set_option maxRecDepth 20000 in
theorem w_X8_queue_11 {X : qB} {N : Nat} (hX : qOk X cX8_queue RX8 6 (some .int) wsX8_queue 2 45) {r : Int} {nu : qM} (hE : xr X = some (.int (iZ r)) ∧ (in32 r → xΦ X) ∧ xμ X = nu) {k11 : (Nat → Int → Int → Int → Int → Int → qM → Option (Int × qM))} (hk11 : ∀ (x0 : Nat) (x1 : Int) (x2 : Int) (x3 : Int) (x4 : Int) (x5 : Int) (m0 : qM), gK (xG X) x0 = 9 → in32 x1 → in32 x2 → in32 x3 → in32 x4 → in32 x5 → qR (xG X) m0 → k11 x0 x1 x2 x3 x4 x5 m0 = some (r, nu) → qN X 6 11 [(0, .ref x0), (1, .int (iZ x1)), (2, .int (iZ x2)), (3, .int (iZ x3)), (4, .int (iZ x4)), (5, .int (iZ x5))] [] m0)
    {x0 : Nat} {x1 : Int} {x2 : Int} {x3 : Int} {x4 : Int} {x5 : Int} (k_x0 : gK (xG X) x0 = 9) (r_x1 : in32 x1) (r_x2 : in32 x2) (r_x3 : in32 x3) (r_x4 : in32 x4) (r_x5 : in32 x5) {m0 : qM} (hR_m0 : qR (xG X) m0)
    (h : f_X8_queue_11 N (xG X) k11 x0 x1 x2 x3 x4 x5 m0 = some (r, nu)) : qN X 6 11 [(0, .ref x0), (1, .int (iZ x1)), (2, .int (iZ x2)), (3, .int (iZ x3)), (4, .int (iZ x4)), (5, .int (iZ x5))] [] m0 := by
  have hT := hX.T
  unfold f_X8_queue_11 at h
  refine qn_iload hX (pc := 11) dX8_queue_11 5 rfl ?_
  refine qn_aload_n hX (pc := 13) dX8_queue_13 0 rfl rfl ?_
  refine qn_getR hX (pc := 14) fd_X8_queue_7 dX8_queue_14 k_x0 ?_
  refine qn_iconst hX (pc := 17) dX8_queue_17 ?_
  refine qn_iald hX (pc := 18) (v := gA m0 (gR (xG X) 800 x0) 5) 684 dX8_queue_18 (qr_800 hT k_x0) (by decide) (by decide) rfl ?_
  refine qn_icmp_ge hX (pc := 19) r_x5 (hR_m0.a (n := 684) _ (qr_800 hT k_x0) (by decide)) 59 dX8_queue_19 (by decide) (fun c1 => ?_) (fun c1 => ?_)
  · have h := ite_f h c1
    refine qn_iconst hX (pc := 59) dX8_queue_59 ?_
    exact qn_iret hX (pc := 60) dX8_queue_60 hE hR_m0 (by decide) (Option.some.inj h)
  · have h := ite_t h c1
    refine qn_aload_n hX (pc := 22) dX8_queue_22 0 rfl rfl ?_
    refine qn_iload hX (pc := 23) dX8_queue_23 5 rfl ?_
    refine qn_iload_n hX (pc := 25) dX8_queue_25 1 rfl rfl ?_
    refine qn_iload_n hX (pc := 26) dX8_queue_26 2 rfl rfl ?_
    obtain ⟨v3, m2, e_m2, h⟩ := kb2_e h
    refine qn_callVi hX (pc := 27) [.int (iZ x5), .int (iZ x1), .int (iZ x2)] [.int (iZ x2), .int (iZ x1), .int (iZ x5)] 3 dX8_queue_27 gX8_queue_X8_isAt rfl dd_X8_isAt ⟨rfl, rfl⟩ rfl rfl (by decide) k_x0 rfl rfl hR_m0 (k_X8_isAt (xl X) hT k_x0 r_x5 r_x1 r_x2 e_m2) (fun r_v3 hR_m2 => ?_)
    refine qn_if_ne hX (pc := 30) r_v3.i 36 dX8_queue_30 (by decide) (fun c4 => ?_) (fun c4 => ?_)
    · have h := ite_f h c4
      refine qn_iload hX (pc := 36) dX8_queue_36 4 rfl ?_
      refine qn_iload_n hX (pc := 38) dX8_queue_38 3 rfl rfl ?_
      refine qn_icmp_ne hX (pc := 39) r_x4 r_x3 50 dX8_queue_39 (by decide) (fun c5 => ?_) (fun c5 => ?_)
      · have h := ite_f h c5
        obtain ⟨v6, e_v6, r_v6, h⟩ := ckI_e h
        refine qn_iinc hX (pc := 50) (ls' := [(4, .int (iZ v6)), (0, .ref x0), (1, .int (iZ x1)), (2, .int (iZ x2)), (3, .int (iZ x3)), (5, .int (iZ x5))]) dX8_queue_50 4 rfl e_v6 rfl rfl ?_
        refine qn_sub (ls' := [(0, .ref x0), (1, .int (iZ x1)), (2, .int (iZ x2)), (3, .int (iZ x3)), (4, .int (iZ v6)), (5, .int (iZ x5))]) [1, 2, 3, 4, 0, 5] rfl ?_
        exact w_X8_queue_53 hX hE hk11 k_x0 r_x1 r_x2 r_x3 r_v6 r_x5 hR_m2 h
      · have h := ite_t h c5
        refine qn_aload_n hX (pc := 42) dX8_queue_42 0 rfl rfl ?_
        refine qn_iload hX (pc := 43) dX8_queue_43 5 rfl ?_
        refine qn_iconst hX (pc := 45) dX8_queue_45 ?_
        obtain ⟨v8, m7, e_m7, h⟩ := kb2_e h
        refine qn_callVi hX (pc := 46) [.int (iZ x5), .int (iZ 0)] [.int (iZ 0), .int (iZ x5)] 2 dX8_queue_46 gX8_queue_X8_ofOrder rfl dd_X8_ofOrder ⟨rfl, rfl⟩ rfl rfl (by decide) k_x0 rfl rfl hR_m2 (k_X8_ofOrder (xl X) hT k_x0 r_x5 (by decide) e_m7) (fun r_v8 hR_m7 => ?_)
        exact qn_iret hX (pc := 49) dX8_queue_49 hE hR_m7 r_v8 (Option.some.inj h)
    · have h := ite_t h c4
      refine qn_goto hX (pc := 33) 53 dX8_queue_33 (by decide) ?_
      refine qn_sub (ls' := [(0, .ref x0), (1, .int (iZ x1)), (2, .int (iZ x2)), (3, .int (iZ x3)), (4, .int (iZ x4)), (5, .int (iZ x5))]) [0, 1, 2, 3, 4, 5] rfl ?_
      exact w_X8_queue_53 hX hE hk11 k_x0 r_x1 r_x2 r_x3 r_x4 r_x5 hR_m2 h
set_option maxHeartbeats 4000000 in
set_option maxRecDepth 20000 in
theorem w_X8_queue_L11 {X : qB} {N : Nat} (hX : qOk X cX8_queue RX8 6 (some .int) wsX8_queue 2 45) {r : Int} {nu : qM} (hE : xr X = some (.int (iZ r)) ∧ (in32 r → xΦ X) ∧ xμ X = nu) 
    {x0 : Nat} {x1 : Int} {x2 : Int} {x3 : Int} {x4 : Int} {x5 : Int} (k_x0 : gK (xG X) x0 = 9) (r_x1 : in32 x1) (r_x2 : in32 x2) (r_x3 : in32 x3) (r_x4 : in32 x4) (r_x5 : in32 x5) {m0 : qM} (hR_m0 : qR (xG X) m0)
    (h : f_X8_queue_L11 N (xG X)  x0 x1 x2 x3 x4 x5 m0 = some (r, nu)) : qN X 6 11 [(0, .ref x0), (1, .int (iZ x1)), (2, .int (iZ x2)), (3, .int (iZ x3)), (4, .int (iZ x4)), (5, .int (iZ x5))] [] m0 := by
  unfold f_X8_queue_L11 at h
  exact qLoop_w (σ := Nat × Int × Int × Int × Int × Int × qM) (P := fun p => gK (xG X) p.1 = 9 ∧ in32 p.2.1 ∧ in32 p.2.2.1 ∧ in32 p.2.2.2.1 ∧ in32 p.2.2.2.2.1 ∧ in32 p.2.2.2.2.2.1 ∧ qR (xG X) p.2.2.2.2.2.2) (Q := fun p => qN X 6 11 [(0, .ref p.1), (1, .int (iZ p.2.1)), (2, .int (iZ p.2.2.1)), (3, .int (iZ p.2.2.2.1)), (4, .int (iZ p.2.2.2.2.1)), (5, .int (iZ p.2.2.2.2.2.1))] [] p.2.2.2.2.2.2) (fun k hrec p hp hh => w_X8_queue_11 hX hE (fun x0 x1 x2 x3 x4 x5 m0 q0 q1 q2 q3 q4 q5 hRm hh => hrec (x0, x1, x2, x3, x4, x5, m0) ⟨q0, q1, q2, q3, q4, q5, hRm⟩ hh) hp.1 hp.2.1 hp.2.2.1 hp.2.2.2.1 hp.2.2.2.2.1 hp.2.2.2.2.2.1 hp.2.2.2.2.2.2 hh) N (x0, x1, x2, x3, x4, x5, m0) ⟨k_x0, r_x1, r_x2, r_x3, r_x4, r_x5, hR_m0⟩ h
set_option maxHeartbeats 4000000 in
set_option maxRecDepth 20000 in
theorem w_X8_queue {X : qB} {N : Nat} (hX : qOk X cX8_queue RX8 6 (some .int) wsX8_queue 2 45) {r : Int} {nu : qM} (hE : xr X = some (.int (iZ r)) ∧ (in32 r → xΦ X) ∧ xμ X = nu) 
    {x0 : Nat} {x1 : Int} {x2 : Int} {x3 : Int} (k_x0 : gK (xG X) x0 = 9) (r_x1 : in32 x1) (r_x2 : in32 x2) (r_x3 : in32 x3) {m0 : qM} (hR_m0 : qR (xG X) m0)
    (h : f_X8_queue N (xG X)  x0 x1 x2 x3 m0 = some (r, nu)) : qN X 6 0 [(0, .ref x0), (1, .int (iZ x1)), (2, .int (iZ x2)), (3, .int (iZ x3))] [] m0 := by
  have hT := hX.T
  unfold f_X8_queue at h
  refine qn_aload_n hX (pc := 0) dX8_queue_0 0 rfl rfl ?_
  refine qn_iconst hX (pc := 1) dX8_queue_1 ?_
  obtain ⟨m1, e_m1, h⟩ := kp_e h
  refine qn_putI hX (pc := 2) fp_X8_queue_45 dX8_queue_2 k_x0 hR_m0 (show in32 0 by decide) e_m1 (fun hR_m1 => ?_) 
  refine qn_iconst hX (pc := 5) dX8_queue_5 ?_
  refine qn_istore hX (pc := 6) (ls' := [(4, .int (iZ 0)), (0, .ref x0), (1, .int (iZ x1)), (2, .int (iZ x2)), (3, .int (iZ x3))]) dX8_queue_6 rfl rfl ?_
  refine qn_iconst hX (pc := 8) dX8_queue_8 ?_
  refine qn_istore hX (pc := 9) (ls' := [(5, .int (iZ 0)), (4, .int (iZ 0)), (0, .ref x0), (1, .int (iZ x1)), (2, .int (iZ x2)), (3, .int (iZ x3))]) dX8_queue_9 rfl rfl ?_
  refine qn_sub (ls' := [(0, .ref x0), (1, .int (iZ x1)), (2, .int (iZ x2)), (3, .int (iZ x3)), (4, .int (iZ 0)), (5, .int (iZ 0))]) [2, 3, 4, 5, 1, 0] rfl ?_
  exact w_X8_queue_L11 hX hE  k_x0 r_x1 r_x2 r_x3 (by decide) (by decide) hR_m1 h
theorem k_X8_queue (l : Launch) {G : qG} (hT : qT G) {N : Nat} {x0 : Nat} {x1 : Int} {x2 : Int} {x3 : Int} (k_x0 : gK G x0 = 9) (r_x1 : in32 x1) (r_x2 : in32 x2) (r_x3 : in32 x3) {m0 : qM} {r : Int} {nu : qM} (h : f_X8_queue N G x0 x1 x2 x3 m0 = some (r, nu)) : qC l yX8_queue wsX8_queue 2 45 G [.ref x0, .int (iZ x1), .int (iZ x2), .int (iZ x3)] m0 (some (.int (iZ r))) (in32 r) nu := by
  refine qn_start (hy := by decide) hT (hw := rfl) (hn := Nat.le_of_ble_eq_true rfl) ?_
  intro X h1 h2 h3 h4 hX hR
  subst h4
  exact w_X8_queue hX ⟨h1, fun q => h2 ▸ q, h3⟩ k_x0 r_x1 r_x2 r_x3 hR h
theorem dd_X8_queue : yX8_queue.cls = RX8 ∧ yX8_queue.cls ≠ "java/lang/invoke/MethodHandle" ∧ yX8_queue.cls ≠ "java/lang/invoke/VarHandle" ∧ (parseMethodDescriptor yX8_queue.desc).map (fun d => d.parameters.length) = some 3 := by decide +kernel
-- ProRataMarketModel.sideOf
set_option maxHeartbeats 4000000 in
set_option maxRecDepth 20000 in
theorem w_X8_sideOf {X : qB} {N : Nat} (hX : qOk X cX8_sideOf RX8 2 (some .int) wsX8_sideOf 2 44) {r : Int} {nu : qM} (hE : xr X = some (.int (iZ r)) ∧ (in32 r → xΦ X) ∧ xμ X = nu) 
    {x0 : Nat} {x1 : Int} (k_x0 : gK (xG X) x0 = 9) (r_x1 : in32 x1) {m0 : qM} (hR_m0 : qR (xG X) m0)
    (h : f_X8_sideOf N (xG X)  x0 x1 m0 = some (r, nu)) : qN X 2 0 [(0, .ref x0), (1, .int (iZ x1))] [] m0 := by
  have hT := hX.T
  unfold f_X8_sideOf at h
  refine qn_aload_n hX (pc := 0) dX8_sideOf_0 0 rfl rfl ?_
  refine qn_aload_n hX (pc := 1) dX8_sideOf_1 0 rfl rfl ?_
  refine qn_iload_n hX (pc := 2) dX8_sideOf_2 1 rfl rfl ?_
  obtain ⟨v2, m1, e_m1, h⟩ := kb2_e h
  refine qn_callVi hX (pc := 3) [.int (iZ x1)] [.int (iZ x1)] 1 dX8_sideOf_3 gX8_sideOf_X8_placeOf rfl dd_X8_placeOf ⟨rfl, rfl⟩ rfl rfl (by decide) k_x0 rfl rfl hR_m0 (k_X8_placeOf (xl X) hT k_x0 r_x1 e_m1) (fun r_v2 hR_m1 => ?_)
  refine qn_iconst hX (pc := 6) dX8_sideOf_6 ?_
  obtain ⟨v4, m3, e_m3, h⟩ := kb2_e h
  refine qn_callVi hX (pc := 7) [.int (iZ v2), .int (iZ 2)] [.int (iZ 2), .int (iZ v2)] 2 dX8_sideOf_7 gX8_sideOf_X8_ofOrder rfl dd_X8_ofOrder ⟨rfl, rfl⟩ rfl rfl (by decide) k_x0 rfl rfl hR_m1 (k_X8_ofOrder (xl X) hT k_x0 r_v2 (by decide) e_m3) (fun r_v4 hR_m3 => ?_)
  exact qn_iret hX (pc := 10) dX8_sideOf_10 hE hR_m3 r_v4 (Option.some.inj h)
theorem k_X8_sideOf (l : Launch) {G : qG} (hT : qT G) {N : Nat} {x0 : Nat} {x1 : Int} (k_x0 : gK G x0 = 9) (r_x1 : in32 x1) {m0 : qM} {r : Int} {nu : qM} (h : f_X8_sideOf N G x0 x1 m0 = some (r, nu)) : qC l yX8_sideOf wsX8_sideOf 2 44 G [.ref x0, .int (iZ x1)] m0 (some (.int (iZ r))) (in32 r) nu := by
  refine qn_start (hy := by decide) hT (hw := rfl) (hn := Nat.le_of_ble_eq_true rfl) ?_
  intro X h1 h2 h3 h4 hX hR
  subst h4
  exact w_X8_sideOf hX ⟨h1, fun q => h2 ▸ q, h3⟩ k_x0 r_x1 hR h
theorem dd_X8_sideOf : yX8_sideOf.cls = RX8 ∧ yX8_sideOf.cls ≠ "java/lang/invoke/MethodHandle" ∧ yX8_sideOf.cls ≠ "java/lang/invoke/VarHandle" ∧ (parseMethodDescriptor yX8_sideOf.desc).map (fun d => d.parameters.length) = some 1 := by decide +kernel
