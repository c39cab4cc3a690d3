/-! MACHINE: of, position, money of the class where they answer; the law's helpers then -/
theorem hi_X7_position_7 : ∀ w ∈ wsX70, w ∈ wsY_position := fun w h => List.mem_cons_of_mem _ (List.mem_append_left _ (List.mem_append_left _ (List.mem_append_left _ (List.mem_append_right _ h))))
theorem hi_X7_position_2 : ∀ w ∈ wsX20, w ∈ wsY_position := fun w h => List.mem_cons_of_mem _ (List.mem_append_left _ (List.mem_append_left _ (List.mem_append_right _ h)))
theorem hi_X7_position_3 : ∀ w ∈ wsX30, w ∈ wsY_position := fun w h => List.mem_cons_of_mem _ (List.mem_append_left _ (List.mem_append_right _ h))
theorem hi_X7_of_7 : ∀ w ∈ wsX70, w ∈ wsY_of := fun w h => List.mem_cons_of_mem _ (List.mem_append_left _ (List.mem_append_left _ (List.mem_append_left _ (List.mem_append_left _ (List.mem_append_right _ h)))))
theorem hi_X7_of_2 : ∀ w ∈ wsX20, w ∈ wsY_of := fun w h => List.mem_cons_of_mem _ (List.mem_append_left _ (List.mem_append_left _ (List.mem_append_left _ (List.mem_append_right _ h))))
theorem hi_X7_of_4 : ∀ w ∈ wsX40, w ∈ wsY_of := fun w h => List.mem_cons_of_mem _ (List.mem_append_left _ (List.mem_append_left _ (List.mem_append_right _ h)))
theorem hi_X7_of_0 : ∀ w ∈ wsX00, w ∈ wsY_of := fun w h => List.mem_cons_of_mem _ (List.mem_append_left _ (List.mem_append_right _ h))
theorem fd_X7_position_10 : qFd RX7 wsY_position 10 7 0 1 700 := ⟨RX7, TX7, 3, _, rfl, hi_X7_position_7, by decide, (by decide +kernel : Cond.fieldLink RX7 10 (TX7 0).1 (TX7 0).2.1 (TX7 0).2.2.1 ∈ wsY_position), rfl, rfl, by decide⟩
theorem fd_X7_position_224 : qFd RX7 wsY_position 224 2 1 1 201 := ⟨RX2, TX2, 12, _, rfl, hi_X7_position_2, by decide, (by decide +kernel : Cond.fieldLink RX7 224 (TX2 1).1 (TX2 1).2.1 (TX2 1).2.2.1 ∈ wsY_position), rfl, rfl, by decide⟩
theorem fd_X7_position_277 : qFd RX7 wsY_position 277 3 5 1 305 := ⟨RX3, TX3, 7, _, rfl, hi_X7_position_3, by decide, (by decide +kernel : Cond.fieldLink RX7 277 (TX3 5).1 (TX3 5).2.1 (TX3 5).2.2.1 ∈ wsY_position), rfl, rfl, by decide⟩
theorem fd_X7_of_10 : qFd RX7 wsY_of 10 7 0 1 700 := ⟨RX7, TX7, 3, _, rfl, hi_X7_of_7, by decide, (by decide +kernel : Cond.fieldLink RX7 10 (TX7 0).1 (TX7 0).2.1 (TX7 0).2.2.1 ∈ wsY_of), rfl, rfl, by decide⟩
theorem fd_X7_of_105 : qFd RX7 wsY_of 105 2 0 1 200 := ⟨RX2, TX2, 12, _, rfl, hi_X7_of_2, by decide, (by decide +kernel : Cond.fieldLink RX7 105 (TX2 0).1 (TX2 0).2.1 (TX2 0).2.2.1 ∈ wsY_of), rfl, rfl, by decide⟩
theorem fd_X7_of_147 : qFd RX7 wsY_of 147 4 1 0 401 := ⟨RX4, TX4, 6, _, rfl, hi_X7_of_4, by decide, (by decide +kernel : Cond.fieldLink RX7 147 (TX4 1).1 (TX4 1).2.1 (TX4 1).2.2.1 ∈ wsY_of), rfl, rfl, by decide⟩
theorem fd_X7_of_150 : qFd RX7 wsY_of 150 4 2 0 402 := ⟨RX4, TX4, 6, _, rfl, hi_X7_of_4, by decide, (by decide +kernel : Cond.fieldLink RX7 150 (TX4 2).1 (TX4 2).2.1 (TX4 2).2.2.1 ∈ wsY_of), rfl, rfl, by decide⟩
theorem fd_X7_of_153 : qFd RX7 wsY_of 153 4 3 0 403 := ⟨RX4, TX4, 6, _, rfl, hi_X7_of_4, by decide, (by decide +kernel : Cond.fieldLink RX7 153 (TX4 3).1 (TX4 3).2.1 (TX4 3).2.2.1 ∈ wsY_of), rfl, rfl, by decide⟩
theorem fd_X7_of_115 : qFd RX7 wsY_of 115 4 4 0 404 := ⟨RX4, TX4, 6, _, rfl, hi_X7_of_4, by decide, (by decide +kernel : Cond.fieldLink RX7 115 (TX4 4).1 (TX4 4).2.1 (TX4 4).2.2.1 ∈ wsY_of), rfl, rfl, by decide⟩
theorem fd_X7_of_156 : qFd RX7 wsY_of 156 4 5 0 405 := ⟨RX4, TX4, 6, _, rfl, hi_X7_of_4, by decide, (by decide +kernel : Cond.fieldLink RX7 156 (TX4 5).1 (TX4 5).2.1 (TX4 5).2.2.1 ∈ wsY_of), rfl, rfl, by decide⟩
set_option maxHeartbeats 4000000 in
set_option maxRecDepth 20000 in
theorem k_X7_position_ok (l : Launch) {G : qG} (hT : qT G) {x0 : Nat} {x1 : Int} (k_x0 : gK G x0 = 8) (r_x1 : in32 x1) (h0 : 0 ≤ x1 ∧ x1 < 10) {m0 : qM} {r : Int} (hr : r = gA m0 (gR G 305 (gR G 201 (gR G 700 x0))) x1.toNat) : qC l yX7_position wsY_position 6 90 G [.ref x0, .int (iZ x1)] m0 (some (.int (iZ r))) (in32 r) m0 := by
  refine qn_start (hy := by decide) hT (hw := rfl) (hn := Nat.le_of_ble_eq_true rfl) ?_
  intro X h1 h2 h3 h4 hX hR_m0
  subst h4
  have hE : xr X = some (.int (iZ r)) ∧ (in32 r → xΦ X) ∧ xμ X = m0 := ⟨h1, fun q => h2 ▸ q, h3⟩
  have e_m1 : f_X7_isTrader 0 (xG X) x1 m0 = some (1, m0) := by rw [z_isTrader7, b01_t (show aIn x1 0 9 = true from decide_eq_true ⟨h0.1, by omega⟩)]
  refine qn_iload_n hX (pc := 0) dX7_position_0 1 rfl rfl ?_
  refine qn_callSi hX (pc := 1) [.int (iZ x1)] [.int (iZ x1)] 1 dX7_position_1 gY_position_X7_isTrader rfl dd_X7_isTrader ⟨rfl, rfl⟩ rfl rfl rfl hR_m0 (k_X7_isTrader (xl X) hT r_x1 e_m1) (fun r_v2 hR_m1 => ?_)
  refine qn_if_ne hX (pc := 4) (by decide) 18 dX7_position_4 (by decide) (fun c1 => ?_) (fun c1 => absurd c1 (by decide))
  refine qn_aload_n hX (pc := 18) dX7_position_18 0 rfl rfl ?_
  refine qn_getR hX (pc := 19) fd_X7_position_10 dX7_position_19 k_x0 ?_
  refine qn_getR hX (pc := 22) fd_X7_position_224 dX7_position_22 (qr_700 hT k_x0) ?_
  refine qn_getR hX (pc := 25) fd_X7_position_277 dX7_position_25 (qr_201 hT (qr_700 hT k_x0)) ?_
  refine qn_iload_n hX (pc := 28) dX7_position_28 1 rfl rfl ?_
  refine qn_iald hX (pc := 29) 10 dX7_position_29 (qr_305 hT (qr_201 hT (qr_700 hT k_x0))) (by decide) h0 hr ?_
  exact qn_iret hX (pc := 30) dX7_position_30 hE hR_m1 (by rw [hr]; exact hR_m1.a (n := 10) _ (qr_305 hT (qr_201 hT (qr_700 hT k_x0))) (by decide)) rfl
set_option maxHeartbeats 4000000 in
set_option maxRecDepth 20000 in
theorem k_X7_of_ok (l : Launch) {G : qG} (hT : qT G) {N : Nat} {x0 : Nat} {x1 x2 : Int} (k_x0 : gK G x0 = 8) (r_x1 : in32 x1) (r_x2 : in32 x2) {m0 : qM} {o3 : Nat} {r : Int} (e_m1 : f_X0_find N G (gR G 200 (gR G 700 x0)) x1 m0 = some (some o3, m0)) (hr : (x2 = 0 ∧ r = gI m0 401 o3) ∨ (x2 = 1 ∧ r = gI m0 402 o3) ∨ (x2 = 2 ∧ r = gI m0 403 o3) ∨ (x2 = 3 ∧ r = gI m0 404 o3) ∨ (x2 = 4 ∧ r = gI m0 405 o3) ∨ (x2 = 5 ∧ f_X0_grantOf N G (gR G 200 (gR G 700 x0)) o3 m0 = some (r, m0))) : qC l yX7_of wsY_of 6 90 G [.ref x0, .int (iZ x1), .int (iZ x2)] m0 (some (.int (iZ r))) (in32 r) m0 := by
  refine qn_start (hy := by decide) hT (hw := rfl) (hn := Nat.le_of_ble_eq_true rfl) ?_
  intro X h1 h2 h3 h4 hX hR_m0
  subst h4
  have hE : xr X = some (.int (iZ r)) ∧ (in32 r → xΦ X) ∧ xμ X = m0 := ⟨h1, fun q => h2 ▸ q, h3⟩
  refine qn_aload_n hX (pc := 0) dX7_of_0 0 rfl rfl ?_
  refine qn_getR hX (pc := 1) fd_X7_of_10 dX7_of_1 k_x0 ?_
  refine qn_getR hX (pc := 4) fd_X7_of_105 dX7_of_4 (qr_700 hT k_x0) ?_
  refine qn_iload_n hX (pc := 7) dX7_of_7 1 rfl rfl ?_
  refine qn_callVq hX (pc := 8) [.int (iZ x1)] [.int (iZ x1)] 1 dX7_of_8 gY_of_X0_find rfl dd_X0_find ⟨rfl, rfl⟩ rfl rfl (by decide) (qr_200 hT (qr_700 hT k_x0)) rfl rfl hR_m0 (k_X0_find (xl X) hT (qr_200 hT (qr_700 hT k_x0)) r_x1 e_m1) (fun r_v2 hR_m1 => ?_)
  have k_o3 := r_v2 o3 rfl
  refine qn_astore_n hX (pc := 11) (ls' := [(3, .ref o3), (0, .ref x0), (1, .int (iZ x1)), (2, .int (iZ x2))]) dX7_of_11 rfl rfl rfl ?_
  refine qn_aload_n hX (pc := 12) dX7_of_12 0 rfl rfl ?_
  refine qn_ifnonnull hX (pc := 13) 26 dX7_of_13 (by decide) ?_
  refine qn_iload_n hX (pc := 26) dX7_of_26 3 rfl rfl ?_
  rcases hr with ⟨c, hr⟩ | ⟨c, hr⟩ | ⟨c, hr⟩ | ⟨c, hr⟩ | ⟨c, hr⟩ | ⟨c, hr⟩
  · refine qn_tswIn hX (pc := 27) r_x2 64 dX7_of_27 0 c (by decide) rfl (by decide) ?_
    refine qn_aload_n hX (pc := 64) dX7_of_64 0 rfl rfl ?_
    refine qn_getI hX (pc := 65) fd_X7_of_147 dX7_of_65 k_o3 ?_
    rw [← hr]
    exact qn_iret hX (pc := 68) dX7_of_68 hE hR_m1 (by rw [hr]; exact hR_m1.i 401 o3 rfl) rfl
  · refine qn_tswIn hX (pc := 27) r_x2 69 dX7_of_27 1 c (by decide) rfl (by decide) ?_
    refine qn_aload_n hX (pc := 69) dX7_of_69 0 rfl rfl ?_
    refine qn_getI hX (pc := 70) fd_X7_of_150 dX7_of_70 k_o3 ?_
    rw [← hr]
    exact qn_iret hX (pc := 73) dX7_of_73 hE hR_m1 (by rw [hr]; exact hR_m1.i 402 o3 rfl) rfl
  · refine qn_tswIn hX (pc := 27) r_x2 74 dX7_of_27 2 c (by decide) rfl (by decide) ?_
    refine qn_aload_n hX (pc := 74) dX7_of_74 0 rfl rfl ?_
    refine qn_getI hX (pc := 75) fd_X7_of_153 dX7_of_75 k_o3 ?_
    rw [← hr]
    exact qn_iret hX (pc := 78) dX7_of_78 hE hR_m1 (by rw [hr]; exact hR_m1.i 403 o3 rfl) rfl
  · refine qn_tswIn hX (pc := 27) r_x2 79 dX7_of_27 3 c (by decide) rfl (by decide) ?_
    refine qn_aload_n hX (pc := 79) dX7_of_79 0 rfl rfl ?_
    refine qn_getI hX (pc := 80) fd_X7_of_115 dX7_of_80 k_o3 ?_
    rw [← hr]
    exact qn_iret hX (pc := 83) dX7_of_83 hE hR_m1 (by rw [hr]; exact hR_m1.i 404 o3 rfl) rfl
  · refine qn_tswIn hX (pc := 27) r_x2 84 dX7_of_27 4 c (by decide) rfl (by decide) ?_
    refine qn_aload_n hX (pc := 84) dX7_of_84 0 rfl rfl ?_
    refine qn_getI hX (pc := 85) fd_X7_of_156 dX7_of_85 k_o3 ?_
    rw [← hr]
    exact qn_iret hX (pc := 88) dX7_of_88 hE hR_m1 (by rw [hr]; exact hR_m1.i 405 o3 rfl) rfl
  · refine qn_tswIn hX (pc := 27) r_x2 89 dX7_of_27 5 c (by decide) rfl (by decide) ?_
    refine qn_aload_n hX (pc := 89) dX7_of_89 1 rfl rfl ?_
    refine qn_getR hX (pc := 90) fd_X7_of_10 dX7_of_90 k_x0 ?_
    refine qn_getR hX (pc := 93) fd_X7_of_105 dX7_of_93 (qr_700 hT k_x0) ?_
    refine qn_aload_n hX (pc := 96) dX7_of_96 0 rfl rfl ?_
    refine qn_callVi hX (pc := 97) [.ref o3] [.ref o3] 1 dX7_of_97 gY_of_X0_grantOf rfl dd_X0_grantOf ⟨rfl, rfl⟩ rfl rfl (by decide) (qr_200 hT (qr_700 hT k_x0)) rfl rfl hR_m1 (k_X0_grantOf (xl X) hT (qr_200 hT (qr_700 hT k_x0)) k_o3 hr) (fun r_v3 hR_m2 => ?_)
    exact qn_iret hX (pc := 100) dX7_of_100 hE hR_m2 r_v3 rfl
theorem qn_startW {l : Launch} {y : MethodName} {ws ws' : List Cond} {fr lo nL : Nat} {G : qG} {av : List Value} {μ ν : qM} {rv : Option Value} {Φ : Prop} {cc : ByteArray} {ret : Option FieldType} {hh : List (Nat × Nat × Nat × Nat)} (hT : qT G)
    (hy : plainName y.cls = true) (hw : ws = Cond.codeWith y cc nL ret hh :: ws') (hn : (lg_sl av).length ≤ nL)
    (k : ∀ X : qB, xr X = rv → xΦ X = Φ → xμ X = ν → xG X = G → qOk X cc y.cls nL ret ws fr lo → qR G μ → qN X nL 0 (lv_args 0 av) [] μ) : qC l y ws fr lo G av μ rv Φ ν := by
  intro sz
  refine va_MetW (cc := cc) (maxL := nL) (ret := ret) (hh := hh) hy hw ?_
  intro p e s m args below meth c s₁ B hml hv
  obtain ⟨rfl, hsz, hW, hK, hR, hZ⟩ := hv
  have hl := lv_entry av (n := nL) hn
  rw [lg_entry_eq]
  subst hsz
  exact k (p, l, e, _, s, m, _, below, meth, c, G, rv, Φ, ν) rfl rfl rfl rfl
    ⟨B.exec, B.bytes, hml, findClass_of_methodNamed B.named, atoms_spec (ws := ws) B.pre, B.notSynchronized, B.returns, rfl, rfl, hK, hT, hZ⟩ hR _ _ _ hl hW va_S.rf hR
theorem dd_X7_of : yX7_of.cls = RX7 ∧ yX7_of.cls ≠ "java/lang/invoke/MethodHandle" ∧ yX7_of.cls ≠ "java/lang/invoke/VarHandle" ∧ (parseMethodDescriptor yX7_of.desc).map (fun d => d.parameters.length) = some 2 := by decide +kernel
theorem dd_X7_position : yX7_position.cls = RX7 ∧ yX7_position.cls ≠ "java/lang/invoke/MethodHandle" ∧ yX7_position.cls ≠ "java/lang/invoke/VarHandle" ∧ (parseMethodDescriptor yX7_position.desc).map (fun d => d.parameters.length) = some 1 := by decide +kernel
set_option maxHeartbeats 4000000 in
set_option maxRecDepth 20000 in
theorem k_L_size_ok (l : Launch) {G : qG} (hT : qT G) {x0 : Nat} {x1 : Int} (k_x0 : gK G x0 = 8) {m0 : qM} {r : Int} (h : ∀ l, qC l yX7_of wsY_of 6 90 G [.ref x0, .int (iZ x1), .int (iZ 3)] m0 (some (.int (iZ r))) (in32 r) m0) : qC l yL_size wsM_size 7 115 G [.ref x0, .int (iZ x1)] m0 (some (.int (iZ r))) (in32 r) m0 := by
  refine qn_startW (hy := by decide) hT (hw := rfl) (hn := Nat.le_of_ble_eq_true rfl) ?_
  intro X h1 h2 h3 h4 hX hR_m0
  subst h4
  refine qn_aload_n hX (pc := 0) dL_size_0 0 rfl rfl ?_
  refine qn_iload_n hX (pc := 1) dL_size_1 1 rfl rfl ?_
  refine qn_iconst hX (pc := 2) dL_size_2 ?_
  refine qn_callVi hX (pc := 3) [.int (iZ x1), .int (iZ 3)] [.int (iZ 3), .int (iZ x1)] 2 dL_size_3 gM_size_Y_of rfl dd_X7_of ⟨rfl, rfl⟩ rfl rfl (by decide) k_x0 rfl rfl hR_m0 (h (xl X)) (fun r_v hR_m1 => ?_)
  exact qn_iret hX (pc := 6) dL_size_6 ⟨h1, fun _ => h2 ▸ r_v, h3⟩ hR_m1 r_v rfl
