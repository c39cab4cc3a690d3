-- ProRataMarket$Floor.takeAt
theorem hi_X2_takeAt_2 : ∀ w ∈ wsX20, w ∈ wsX2_takeAt := fun w h => List.mem_cons_of_mem _ (List.mem_append_left _ (List.mem_append_left _ (List.mem_append_left _ (List.mem_append_left _ (List.mem_append_right _ h)))))
theorem fd_X2_takeAt_28 : qFd RX2 wsX2_takeAt 28 2 2 1 202 := ⟨RX2, TX2, 12, _, rfl, hi_X2_takeAt_2, by decide, (by decide +kernel : Cond.fieldLink RX2 28 (TX2 2).1 (TX2 2).2.1 (TX2 2).2.2.1 ∈ wsX2_takeAt), rfl, rfl, by decide⟩
theorem fd_X2_takeAt_12 : qFd RX2 wsX2_takeAt 12 2 0 1 200 := ⟨RX2, TX2, 12, _, rfl, hi_X2_takeAt_2, by decide, (by decide +kernel : Cond.fieldLink RX2 12 (TX2 0).1 (TX2 0).2.1 (TX2 0).2.2.1 ∈ wsX2_takeAt), rfl, rfl, by decide⟩
theorem fd_X2_takeAt_42 : qFd RX2 wsX2_takeAt 42 2 4 1 204 := ⟨RX2, TX2, 12, _, rfl, hi_X2_takeAt_2, by decide, (by decide +kernel : Cond.fieldLink RX2 42 (TX2 4).1 (TX2 4).2.1 (TX2 4).2.2.1 ∈ wsX2_takeAt), rfl, rfl, by decide⟩
theorem hi_X2_takeAt_4 : ∀ w ∈ wsX40, w ∈ wsX2_takeAt := fun w h => List.mem_cons_of_mem _ (List.mem_append_left _ (List.mem_append_left _ (List.mem_append_left _ (List.mem_append_right _ h))))
theorem fd_X2_takeAt_88 : qFd RX2 wsX2_takeAt 88 4 4 0 404 := ⟨RX4, TX4, 6, _, rfl, hi_X2_takeAt_4, by decide, (by decide +kernel : Cond.fieldLink RX2 88 (TX4 4).1 (TX4 4).2.1 (TX4 4).2.2.1 ∈ wsX2_takeAt), rfl, rfl, by decide⟩
theorem hi_X2_takeAt_5 : ∀ w ∈ wsX50, w ∈ wsX2_takeAt := fun w h => List.mem_cons_of_mem _ (List.mem_append_left _ (List.mem_append_left _ (List.mem_append_right _ h)))
theorem fd_X2_takeAt_156 : qFd RX2 wsX2_takeAt 156 5 7 0 507 := ⟨RX5, TX5, 8, _, rfl, hi_X2_takeAt_5, by decide, (by decide +kernel : Cond.fieldLink RX2 156 (TX5 7).1 (TX5 7).2.1 (TX5 7).2.2.1 ∈ wsX2_takeAt), rfl, rfl, by decide⟩
theorem fd_X2_takeAt_50 : qFd RX2 wsX2_takeAt 50 2 6 0 206 := ⟨RX2, TX2, 12, _, rfl, hi_X2_takeAt_2, by decide, (by decide +kernel : Cond.fieldLink RX2 50 (TX2 6).1 (TX2 6).2.1 (TX2 6).2.2.1 ∈ wsX2_takeAt), rfl, rfl, by decide⟩
theorem fd_X2_takeAt_162 : qFd RX2 wsX2_takeAt 162 5 3 1 503 := ⟨RX5, TX5, 8, _, rfl, hi_X2_takeAt_5, by decide, (by decide +kernel : Cond.fieldLink RX2 162 (TX5 3).1 (TX5 3).2.1 (TX5 3).2.2.1 ∈ wsX2_takeAt), rfl, rfl, by decide⟩
theorem fd_X2_takeAt_166 : qFd RX2 wsX2_takeAt 166 4 0 0 400 := ⟨RX4, TX4, 6, _, rfl, hi_X2_takeAt_4, by decide, (by decide +kernel : Cond.fieldLink RX2 166 (TX4 0).1 (TX4 0).2.1 (TX4 0).2.2.1 ∈ wsX2_takeAt), rfl, rfl, by decide⟩
theorem fd_X2_takeAt_173 : qFd RX2 wsX2_takeAt 173 5 4 1 504 := ⟨RX5, TX5, 8, _, rfl, hi_X2_takeAt_5, by decide, (by decide +kernel : Cond.fieldLink RX2 173 (TX5 4).1 (TX5 4).2.1 (TX5 4).2.2.1 ∈ wsX2_takeAt), rfl, rfl, by decide⟩
theorem fd_X2_takeAt_176 : qFd RX2 wsX2_takeAt 176 5 5 1 505 := ⟨RX5, TX5, 8, _, rfl, hi_X2_takeAt_5, by decide, (by decide +kernel : Cond.fieldLink RX2 176 (TX5 5).1 (TX5 5).2.1 (TX5 5).2.2.1 ∈ wsX2_takeAt), rfl, rfl, by decide⟩
theorem fd_X2_takeAt_21 : qFd RX2 wsX2_takeAt 21 2 1 1 201 := ⟨RX2, TX2, 12, _, rfl, hi_X2_takeAt_2, by decide, (by decide +kernel : Cond.fieldLink RX2 21 (TX2 1).1 (TX2 1).2.1 (TX2 1).2.2.1 ∈ wsX2_takeAt), rfl, rfl, by decide⟩
theorem fd_X2_takeAt_137 : qFd RX2 wsX2_takeAt 137 4 1 0 401 := ⟨RX4, TX4, 6, _, rfl, hi_X2_takeAt_4, by decide, (by decide +kernel : Cond.fieldLink RX2 137 (TX4 1).1 (TX4 1).2.1 (TX4 1).2.2.1 ∈ wsX2_takeAt), rfl, rfl, by decide⟩
theorem fd_X2_takeAt_94 : qFd RX2 wsX2_takeAt 94 4 2 0 402 := ⟨RX4, TX4, 6, _, rfl, hi_X2_takeAt_4, by decide, (by decide +kernel : Cond.fieldLink RX2 94 (TX4 2).1 (TX4 2).2.1 (TX4 2).2.2.1 ∈ wsX2_takeAt), rfl, rfl, by decide⟩
theorem hi_X2_takeAt_3 : ∀ w ∈ wsX30, w ∈ wsX2_takeAt := fun w h => List.mem_cons_of_mem _ (List.mem_append_left _ (List.mem_append_right _ h))
theorem fd_X2_takeAt_183 : qFd RX2 wsX2_takeAt 183 3 4 0 304 := ⟨RX3, TX3, 7, _, rfl, hi_X2_takeAt_3, by decide, (by decide +kernel : Cond.fieldLink RX2 183 (TX3 4).1 (TX3 4).2.1 (TX3 4).2.2.1 ∈ wsX2_takeAt), rfl, rfl, by decide⟩
theorem fp_X2_takeAt_183 : qFp RX2 wsX2_takeAt 183 3 4 0 304 .int := ⟨RX3, TX3, 7, _, tyX3, rfl, hi_X2_takeAt_3, by decide, (by decide +kernel : Cond.fieldLink RX2 183 (TX3 4).1 (TX3 4).2.1 (TX3 4).2.2.1 ∈ wsX2_takeAt), rfl, rfl, by decide, tyX3_ok, nmX3, rfl, by decide +kernel⟩
theorem fp_X2_takeAt_88 : qFp RX2 wsX2_takeAt 88 4 4 0 404 .int := ⟨RX4, TX4, 6, _, tyX4, rfl, hi_X2_takeAt_4, by decide, (by decide +kernel : Cond.fieldLink RX2 88 (TX4 4).1 (TX4 4).2.1 (TX4 4).2.2.1 ∈ wsX2_takeAt), rfl, rfl, by decide, tyX4_ok, nmX4, rfl, by decide +kernel⟩
set_option maxHeartbeats 4000000 in
set_option maxRecDepth 20000 in
theorem w_X2_takeAt {X : qB} {N : Nat} (hX : qOk X cX2_takeAt RX2 4 none wsX2_takeAt 3 76) {r : qM} (hE : xr X = none ∧ (True → xΦ X) ∧ xμ X = r) 
    {x0 : Nat} {x1 : Int} {x2 : Int} (k_x0 : gK (xG X) x0 = 3) (r_x1 : in32 x1) (r_x2 : in32 x2) {m0 : qM} (hR_m0 : qR (xG X) m0)
    (h : f_X2_takeAt N (xG X)  x0 x1 x2 m0 = some r) : qN X 4 0 [(0, .ref x0), (1, .int (iZ x1)), (2, .int (iZ x2))] [] m0 := by
  have hT := hX.T
  unfold f_X2_takeAt at h
  refine qn_aload_n hX (pc := 0) dX2_takeAt_0 0 rfl rfl ?_
  refine qn_getR hX (pc := 1) fd_X2_takeAt_28 dX2_takeAt_1 k_x0 ?_
  refine qn_aload_n hX (pc := 4) dX2_takeAt_4 0 rfl rfl ?_
  refine qn_getR hX (pc := 5) fd_X2_takeAt_12 dX2_takeAt_5 k_x0 ?_
  refine qn_iload_n hX (pc := 8) dX2_takeAt_8 1 rfl rfl ?_
  refine qn_iload_n hX (pc := 9) dX2_takeAt_9 2 rfl rfl ?_
  obtain ⟨m1, e_m1, h⟩ := kb_e h
  refine qn_callVv hX (pc := 10) [.ref (gR (xG X) 200 x0), .int (iZ x1), .int (iZ x2)] [.int (iZ x2), .int (iZ x1), .ref (gR (xG X) 200 x0)] 3 dX2_takeAt_10 gX2_takeAt_X5_load rfl dd_X5_load ⟨rfl, rfl⟩ rfl rfl (by decide) (qr_202 hT k_x0) rfl rfl hR_m0 (k_X5_load (xl X) hT (qr_202 hT k_x0) (qr_200 hT k_x0) r_x1 r_x2 e_m1) (fun r_v2 hR_m1 => ?_)
  refine qn_aload_n hX (pc := 13) dX2_takeAt_13 0 rfl rfl ?_
  refine qn_getR hX (pc := 14) fd_X2_takeAt_42 dX2_takeAt_14 k_x0 ?_
  refine qn_getI hX (pc := 17) fd_X2_takeAt_88 dX2_takeAt_17 (qr_204 hT k_x0) ?_
  refine qn_aload_n hX (pc := 20) dX2_takeAt_20 0 rfl rfl ?_
  refine qn_getR hX (pc := 21) fd_X2_takeAt_28 dX2_takeAt_21 k_x0 ?_
  refine qn_getI hX (pc := 24) fd_X2_takeAt_156 dX2_takeAt_24 (qr_202 hT k_x0) ?_
  obtain ⟨v3, e_v3, h⟩ := kp_e h
  have r_v3 : in32 v3 := by rw [e_v3]; exact in32_min (hR_m1.i 404 _ rfl) (hR_m1.i 507 _ rfl)
  refine qn_min hX (pc := 27) (hR_m1.i 404 _ rfl) (hR_m1.i 507 _ rfl) dX2_takeAt_27 (by decide +kernel) (by decide +kernel) (by decide +kernel) (by decide +kernel) ⟨rfl, rfl⟩ e_v3 ?_
  refine qn_istore_n hX (pc := 30) (ls' := [(3, .int (iZ v3)), (0, .ref x0), (1, .int (iZ x1)), (2, .int (iZ x2))]) dX2_takeAt_30 rfl rfl rfl ?_
  refine qn_iload_n hX (pc := 31) dX2_takeAt_31 0 rfl rfl ?_
  refine qn_if_gt hX (pc := 32) r_v3 36 dX2_takeAt_32 (by decide) (fun c4 => ?_) (fun c4 => ?_)
  · have h := ite_t h c4
    refine qn_aload_n hX (pc := 36) dX2_takeAt_36 1 rfl rfl ?_
    refine qn_getR hX (pc := 37) fd_X2_takeAt_28 dX2_takeAt_37 k_x0 ?_
    refine qn_iload_n hX (pc := 40) dX2_takeAt_40 0 rfl rfl ?_
    refine qn_aload_n hX (pc := 41) dX2_takeAt_41 1 rfl rfl ?_
    refine qn_getI hX (pc := 42) fd_X2_takeAt_50 dX2_takeAt_42 k_x0 ?_
    obtain ⟨m5, e_m5, h⟩ := kb_e h
    refine qn_callVv hX (pc := 45) [.int (iZ v3), .int (iZ (gI m1 206 x0))] [.int (iZ (gI m1 206 x0)), .int (iZ v3)] 2 dX2_takeAt_45 gX2_takeAt_X5_deal rfl dd_X5_deal ⟨rfl, rfl⟩ rfl rfl (by decide) (qr_202 hT k_x0) rfl rfl hR_m1 (k_X5_deal (xl X) hT (qr_202 hT k_x0) r_v3 (hR_m1.i 206 _ rfl) e_m5) (fun r_v6 hR_m5 => ?_)
    refine qn_aload_n hX (pc := 48) dX2_takeAt_48 1 rfl rfl ?_
    refine qn_aload_n hX (pc := 49) dX2_takeAt_49 1 rfl rfl ?_
    refine qn_getR hX (pc := 50) fd_X2_takeAt_28 dX2_takeAt_50 k_x0 ?_
    refine qn_getR hX (pc := 53) fd_X2_takeAt_162 dX2_takeAt_53 (qr_202 hT k_x0) ?_
    refine qn_aload_n hX (pc := 56) dX2_takeAt_56 1 rfl rfl ?_
    refine qn_getR hX (pc := 57) fd_X2_takeAt_42 dX2_takeAt_57 k_x0 ?_
    refine qn_getI hX (pc := 60) fd_X2_takeAt_166 dX2_takeAt_60 (qr_204 hT k_x0) ?_
    refine qn_iload_n hX (pc := 63) dX2_takeAt_63 3 rfl rfl ?_
    refine qn_iconst hX (pc := 64) dX2_takeAt_64 ?_
    obtain ⟨m7, e_m7, h⟩ := kb_e h
    refine qn_callVv hX (pc := 65) [.ref (gR (xG X) 503 (gR (xG X) 202 x0)), .int (iZ (gI m5 400 (gR (xG X) 204 x0))), .int (iZ x2), .int (iZ 0)] [.int (iZ 0), .int (iZ x2), .int (iZ (gI m5 400 (gR (xG X) 204 x0))), .ref (gR (xG X) 503 (gR (xG X) 202 x0))] 4 dX2_takeAt_65 gX2_takeAt_X2_tradeRows rfl dd_X2_tradeRows ⟨rfl, rfl⟩ rfl rfl (by decide) k_x0 rfl rfl hR_m5 (k_X2_tradeRows (xl X) hT k_x0 (qr_503 hT (qr_202 hT k_x0)) (hR_m5.i 400 _ rfl) r_x2 (by decide) e_m7) (fun r_v8 hR_m7 => ?_)
    refine qn_aload_n hX (pc := 68) dX2_takeAt_68 1 rfl rfl ?_
    refine qn_aload_n hX (pc := 69) dX2_takeAt_69 1 rfl rfl ?_
    refine qn_getR hX (pc := 70) fd_X2_takeAt_28 dX2_takeAt_70 k_x0 ?_
    refine qn_getR hX (pc := 73) fd_X2_takeAt_173 dX2_takeAt_73 (qr_202 hT k_x0) ?_
    refine qn_aload_n hX (pc := 76) dX2_takeAt_76 1 rfl rfl ?_
    refine qn_getR hX (pc := 77) fd_X2_takeAt_42 dX2_takeAt_77 k_x0 ?_
    refine qn_getI hX (pc := 80) fd_X2_takeAt_166 dX2_takeAt_80 (qr_204 hT k_x0) ?_
    refine qn_iload_n hX (pc := 83) dX2_takeAt_83 3 rfl rfl ?_
    refine qn_iconst hX (pc := 84) dX2_takeAt_84 ?_
    obtain ⟨m9, e_m9, h⟩ := kb_e h
    refine qn_callVv hX (pc := 85) [.ref (gR (xG X) 504 (gR (xG X) 202 x0)), .int (iZ (gI m7 400 (gR (xG X) 204 x0))), .int (iZ x2), .int (iZ 1)] [.int (iZ 1), .int (iZ x2), .int (iZ (gI m7 400 (gR (xG X) 204 x0))), .ref (gR (xG X) 504 (gR (xG X) 202 x0))] 4 dX2_takeAt_85 gX2_takeAt_X2_tradeRows rfl dd_X2_tradeRows ⟨rfl, rfl⟩ rfl rfl (by decide) k_x0 rfl rfl hR_m7 (k_X2_tradeRows (xl X) hT k_x0 (qr_504 hT (qr_202 hT k_x0)) (hR_m7.i 400 _ rfl) r_x2 (by decide) e_m9) (fun r_v10 hR_m9 => ?_)
    refine qn_aload_n hX (pc := 88) dX2_takeAt_88 1 rfl rfl ?_
    refine qn_aload_n hX (pc := 89) dX2_takeAt_89 1 rfl rfl ?_
    refine qn_getR hX (pc := 90) fd_X2_takeAt_28 dX2_takeAt_90 k_x0 ?_
    refine qn_getR hX (pc := 93) fd_X2_takeAt_176 dX2_takeAt_93 (qr_202 hT k_x0) ?_
    refine qn_aload_n hX (pc := 96) dX2_takeAt_96 1 rfl rfl ?_
    refine qn_getR hX (pc := 97) fd_X2_takeAt_42 dX2_takeAt_97 k_x0 ?_
    refine qn_getI hX (pc := 100) fd_X2_takeAt_166 dX2_takeAt_100 (qr_204 hT k_x0) ?_
    refine qn_iload_n hX (pc := 103) dX2_takeAt_103 3 rfl rfl ?_
    refine qn_iconst hX (pc := 104) dX2_takeAt_104 ?_
    obtain ⟨m11, e_m11, h⟩ := kb_e h
    refine qn_callVv hX (pc := 105) [.ref (gR (xG X) 505 (gR (xG X) 202 x0)), .int (iZ (gI m9 400 (gR (xG X) 204 x0))), .int (iZ x2), .int (iZ 2)] [.int (iZ 2), .int (iZ x2), .int (iZ (gI m9 400 (gR (xG X) 204 x0))), .ref (gR (xG X) 505 (gR (xG X) 202 x0))] 4 dX2_takeAt_105 gX2_takeAt_X2_tradeRows rfl dd_X2_tradeRows ⟨rfl, rfl⟩ rfl rfl (by decide) k_x0 rfl rfl hR_m9 (k_X2_tradeRows (xl X) hT k_x0 (qr_505 hT (qr_202 hT k_x0)) (hR_m9.i 400 _ rfl) r_x2 (by decide) e_m11) (fun r_v12 hR_m11 => ?_)
    refine qn_aload_n hX (pc := 108) dX2_takeAt_108 1 rfl rfl ?_
    refine qn_getR hX (pc := 109) fd_X2_takeAt_21 dX2_takeAt_109 k_x0 ?_
    refine qn_aload_n hX (pc := 112) dX2_takeAt_112 1 rfl rfl ?_
    refine qn_getR hX (pc := 113) fd_X2_takeAt_42 dX2_takeAt_113 k_x0 ?_
    refine qn_getI hX (pc := 116) fd_X2_takeAt_137 dX2_takeAt_116 (qr_204 hT k_x0) ?_
    refine qn_aload_n hX (pc := 119) dX2_takeAt_119 1 rfl rfl ?_
    refine qn_getR hX (pc := 120) fd_X2_takeAt_42 dX2_takeAt_120 k_x0 ?_
    refine qn_getI hX (pc := 123) fd_X2_takeAt_94 dX2_takeAt_123 (qr_204 hT k_x0) ?_
    refine qn_iload_n hX (pc := 126) dX2_takeAt_126 3 rfl rfl ?_
    refine qn_iload_n hX (pc := 127) dX2_takeAt_127 0 rfl rfl ?_
    obtain ⟨m13, e_m13, h⟩ := kb_e h
    refine qn_callVv hX (pc := 128) [.int (iZ (gI m11 401 (gR (xG X) 204 x0))), .int (iZ (gI m11 402 (gR (xG X) 204 x0))), .int (iZ x2), .int (iZ v3)] [.int (iZ v3), .int (iZ x2), .int (iZ (gI m11 402 (gR (xG X) 204 x0))), .int (iZ (gI m11 401 (gR (xG X) 204 x0)))] 4 dX2_takeAt_128 gX2_takeAt_X3_enter rfl dd_X3_enter ⟨rfl, rfl⟩ rfl rfl (by decide) (qr_201 hT k_x0) rfl rfl hR_m11 (k_X3_enter (xl X) hT (qr_201 hT k_x0) (hR_m11.i 401 _ rfl) (hR_m11.i 402 _ rfl) r_x2 r_v3 e_m13) (fun r_v14 hR_m13 => ?_)
    refine qn_aload_n hX (pc := 131) dX2_takeAt_131 1 rfl rfl ?_
    refine qn_getR hX (pc := 132) fd_X2_takeAt_21 dX2_takeAt_132 k_x0 ?_
    refine qn_dup hX (pc := 135) dX2_takeAt_135 rfl ?_
    refine qn_getI hX (pc := 136) fd_X2_takeAt_183 dX2_takeAt_136 (qr_201 hT k_x0) ?_
    refine qn_iload_n hX (pc := 139) dX2_takeAt_139 0 rfl rfl ?_
    obtain ⟨v15, e_v15, h⟩ := kp_e h
    have r_v15 : in32 v15 := by rw [e_v15]; exact w32_in _
    refine qn_iaddw hX (pc := 140) dX2_takeAt_140 e_v15 ?_
    obtain ⟨m16, e_m16, h⟩ := kp_e h
    refine qn_putI hX (pc := 141) fp_X2_takeAt_183 dX2_takeAt_141 (qr_201 hT k_x0) hR_m13 r_v15 e_m16 (fun hR_m16 => ?_) 
    refine qn_aload_n hX (pc := 144) dX2_takeAt_144 1 rfl rfl ?_
    refine qn_getR hX (pc := 145) fd_X2_takeAt_42 dX2_takeAt_145 k_x0 ?_
    refine qn_dup hX (pc := 148) dX2_takeAt_148 rfl ?_
    refine qn_getI hX (pc := 149) fd_X2_takeAt_88 dX2_takeAt_149 (qr_204 hT k_x0) ?_
    refine qn_iload_n hX (pc := 152) dX2_takeAt_152 0 rfl rfl ?_
    obtain ⟨v17, e_v17, r_v17, h⟩ := ckI_e h
    refine qn_isub hX (pc := 153) dX2_takeAt_153 e_v17 ?_
    obtain ⟨m18, e_m18, h⟩ := kp_e h
    refine qn_putI hX (pc := 154) fp_X2_takeAt_88 dX2_takeAt_154 (qr_204 hT k_x0) hR_m16 r_v17 e_m18 (fun hR_m18 => ?_) 
    refine qn_aload_n hX (pc := 157) dX2_takeAt_157 1 rfl rfl ?_
    refine qn_getR hX (pc := 158) fd_X2_takeAt_12 dX2_takeAt_158 k_x0 ?_
    obtain ⟨m19, e_m19, h⟩ := kb_e h
    refine qn_callVv hX (pc := 161) [] [] 0 dX2_takeAt_161 gX2_takeAt_X0_sweep rfl dd_X0_sweep ⟨rfl, rfl⟩ rfl rfl (by decide) (qr_200 hT k_x0) rfl rfl hR_m18 (k_X0_sweep (xl X) hT (qr_200 hT k_x0) e_m19) (fun r_v20 hR_m19 => ?_)
    exact qn_vret hX (pc := 164) dX2_takeAt_164 hE hR_m19 (Option.some.inj h)
  · have h := ite_f h c4
    exact qn_vret hX (pc := 35) dX2_takeAt_35 hE hR_m1 (Option.some.inj h)
theorem k_X2_takeAt (l : Launch) {G : qG} (hT : qT G) {N : Nat} {x0 : Nat} {x1 : Int} {x2 : Int} (k_x0 : gK G x0 = 3) (r_x1 : in32 x1) (r_x2 : in32 x2) {m0 : qM} {r : qM} (h : f_X2_takeAt N G x0 x1 x2 m0 = some r) : qC l yX2_takeAt wsX2_takeAt 3 76 G [.ref x0, .int (iZ x1), .int (iZ x2)] m0 none True r := by
  refine qn_start (hy := by decide) hT (hw := rfl) (hn := Nat.le_of_ble_eq_true rfl) ?_
  intro X h1 h2 h3 h4 hX hR
  subst h4
  exact w_X2_takeAt hX ⟨h1, fun q => h2 ▸ q, h3⟩ k_x0 r_x1 r_x2 hR h
theorem dd_X2_takeAt : yX2_takeAt.cls = RX2 ∧ yX2_takeAt.cls ≠ "java/lang/invoke/MethodHandle" ∧ yX2_takeAt.cls ≠ "java/lang/invoke/VarHandle" ∧ (parseMethodDescriptor yX2_takeAt.desc).map (fun d => d.parameters.length) = some 2 := by decide +kernel
-- ProRataMarket$Floor.meet
theorem hi_X2_meet_2 : ∀ w ∈ wsX20, w ∈ wsX2_meet := fun w h => List.mem_cons_of_mem _ (List.mem_append_left _ (List.mem_append_left _ (List.mem_append_left _ (List.mem_append_left _ (List.mem_append_right _ h)))))
theorem fd_X2_meet_42 : qFd RX2 wsX2_meet 42 2 4 1 204 := ⟨RX2, TX2, 12, _, rfl, hi_X2_meet_2, by decide, (by decide +kernel : Cond.fieldLink RX2 42 (TX2 4).1 (TX2 4).2.1 (TX2 4).2.2.1 ∈ wsX2_meet), rfl, rfl, by decide⟩
theorem hi_X2_meet_4 : ∀ w ∈ wsX40, w ∈ wsX2_meet := fun w h => List.mem_cons_of_mem _ (List.mem_append_left _ (List.mem_append_left _ (List.mem_append_left _ (List.mem_append_right _ h))))
theorem fd_X2_meet_88 : qFd RX2 wsX2_meet 88 4 4 0 404 := ⟨RX4, TX4, 6, _, rfl, hi_X2_meet_4, by decide, (by decide +kernel : Cond.fieldLink RX2 88 (TX4 4).1 (TX4 4).2.1 (TX4 4).2.2.1 ∈ wsX2_meet), rfl, rfl, by decide⟩
theorem fd_X2_meet_12 : qFd RX2 wsX2_meet 12 2 0 1 200 := ⟨RX2, TX2, 12, _, rfl, hi_X2_meet_2, by decide, (by decide +kernel : Cond.fieldLink RX2 12 (TX2 0).1 (TX2 0).2.1 (TX2 0).2.2.1 ∈ wsX2_meet), rfl, rfl, by decide⟩
theorem fd_X2_meet_101 : qFd RX2 wsX2_meet 101 4 3 0 403 := ⟨RX4, TX4, 6, _, rfl, hi_X2_meet_4, by decide, (by decide +kernel : Cond.fieldLink RX2 101 (TX4 3).1 (TX4 3).2.1 (TX4 3).2.2.1 ∈ wsX2_meet), rfl, rfl, by decide⟩
theorem fd_X2_meet_94 : qFd RX2 wsX2_meet 94 4 2 0 402 := ⟨RX4, TX4, 6, _, rfl, hi_X2_meet_4, by decide, (by decide +kernel : Cond.fieldLink RX2 94 (TX4 2).1 (TX4 2).2.1 (TX4 2).2.2.1 ∈ wsX2_meet), rfl, rfl, by decide⟩
set_option maxHeartbeats 4000000 in
set_option maxRecDepth 20000 in
theorem w_X2_meet_91 {X : qB} {N : Nat} (hX : qOk X cX2_meet RX2 5 none wsX2_meet 4 99) {r : qM} (hE : xr X = none ∧ (True → xΦ X) ∧ xμ X = r) {k18 : (Nat → Int → Int → Int → qM → Option (qM))} (hk18 : ∀ (x0 : Nat) (x1 : Int) (x2 : Int) (x3 : Int) (m0 : qM), gK (xG X) x0 = 3 → in32 x1 → in01 x2 → in32 x3 → qR (xG X) m0 → k18 x0 x1 x2 x3 m0 = some r → qN X 5 18 [(0, .ref x0), (1, .int (iZ x1)), (2, .int (iZ x2)), (3, .int (iZ x3))] [] m0)
    {x0 : Nat} {x1 : Int} {x2 : Int} {x3 : Int} (k_x0 : gK (xG X) x0 = 3) (r_x1 : in32 x1) (b_x2 : in01 x2) (r_x3 : in32 x3) {m0 : qM} (hR_m0 : qR (xG X) m0)
    (h : f_X2_meet_91 N (xG X) k18 x0 x1 x2 x3 m0 = some r) : qN X 5 91 [(0, .ref x0), (1, .int (iZ x1)), (2, .int (iZ x2)), (3, .int (iZ x3))] [] m0 := by
  have hT := hX.T
  unfold f_X2_meet_91 at h
  obtain ⟨v1, e_v1, r_v1, h⟩ := ckI_e h
  refine qn_iinc hX (pc := 91) (ls' := [(3, .int (iZ v1)), (0, .ref x0), (1, .int (iZ x1)), (2, .int (iZ x2))]) dX2_meet_91 3 rfl e_v1 rfl rfl ?_
  refine qn_goto hX (pc := 94) 18 dX2_meet_94 (by decide) ?_
  refine qn_sub (ls' := [(0, .ref x0), (1, .int (iZ x1)), (2, .int (iZ x2)), (3, .int (iZ v1))]) [1, 2, 3, 0] rfl ?_
  exact hk18 x0 x1 x2 v1 m0 k_x0 r_x1 b_x2 r_v1 hR_m0 h
set_option maxHeartbeats 4000000 in
set_option maxRecDepth 20000 in
theorem w_X2_meet_18 {X : qB} {N : Nat} (hX : qOk X cX2_meet RX2 5 none wsX2_meet 4 99) {r : qM} (hE : xr X = none ∧ (True → xΦ X) ∧ xμ X = r) {k18 : (Nat → Int → Int → Int → qM → Option (qM))} (hk18 : ∀ (x0 : Nat) (x1 : Int) (x2 : Int) (x3 : Int) (m0 : qM), gK (xG X) x0 = 3 → in32 x1 → in01 x2 → in32 x3 → qR (xG X) m0 → k18 x0 x1 x2 x3 m0 = some r → qN X 5 18 [(0, .ref x0), (1, .int (iZ x1)), (2, .int (iZ x2)), (3, .int (iZ x3))] [] m0)
    {x0 : Nat} {x1 : Int} {x2 : Int} {x3 : Int} (k_x0 : gK (xG X) x0 = 3) (r_x1 : in32 x1) (b_x2 : in01 x2) (r_x3 : in32 x3) {m0 : qM} (hR_m0 : qR (xG X) m0)
    (h : f_X2_meet_18 N (xG X) k18 x0 x1 x2 x3 m0 = some r) : qN X 5 18 [(0, .ref x0), (1, .int (iZ x1)), (2, .int (iZ x2)), (3, .int (iZ x3))] [] m0 := by
  have hT := hX.T
  unfold f_X2_meet_18 at h
  refine qn_iload_n hX (pc := 18) dX2_meet_18 3 rfl rfl ?_
  refine qn_bipush hX (pc := 19) dX2_meet_19 (by decide) ?_
  refine qn_icmp_ge hX (pc := 21) r_x3 (by decide) 97 dX2_meet_21 (by decide) (fun c1 => ?_) (fun c1 => ?_)
  · have h := ite_f h c1
    exact qn_vret hX (pc := 97) dX2_meet_97 hE hR_m0 (Option.some.inj h)
  · have h := ite_t h c1
    refine qn_aload_n hX (pc := 24) dX2_meet_24 0 rfl rfl ?_
    refine qn_getR hX (pc := 25) fd_X2_meet_42 dX2_meet_25 k_x0 ?_
    refine qn_getI hX (pc := 28) fd_X2_meet_88 dX2_meet_28 (qr_204 hT k_x0) ?_
    refine qn_if_le hX (pc := 31) (hR_m0.i 404 _ rfl) 97 dX2_meet_31 (by decide) (fun c2 => ?_) (fun c2 => ?_)
    · have h := ite_f h c2
      exact qn_vret hX (pc := 97) dX2_meet_97 hE hR_m0 (Option.some.inj h)
    · have h := ite_t h c2
      refine qn_aload_n hX (pc := 34) dX2_meet_34 0 rfl rfl ?_
      refine qn_getR hX (pc := 35) fd_X2_meet_12 dX2_meet_35 k_x0 ?_
      refine qn_iload_n hX (pc := 38) dX2_meet_38 2 rfl rfl ?_
      obtain ⟨v4, m3, e_m3, h⟩ := kb2_e h
      refine qn_callVi hX (pc := 39) [.int (iZ x2)] [.int (iZ x2)] 1 dX2_meet_39 gX2_meet_X0_best rfl dd_X0_best ⟨rfl, rfl⟩ rfl rfl (by decide) (qr_200 hT k_x0) rfl rfl hR_m0 (k_X0_best (xl X) hT (qr_200 hT k_x0) b_x2.i e_m3) (fun r_v4 hR_m3 => ?_)
      refine qn_istore hX (pc := 42) (ls' := [(4, .int (iZ v4)), (0, .ref x0), (1, .int (iZ x1)), (2, .int (iZ x2)), (3, .int (iZ x3))]) dX2_meet_42 rfl rfl ?_
      refine qn_iload hX (pc := 44) dX2_meet_44 0 rfl ?_
      refine qn_if_eq hX (pc := 46) r_v4 65 dX2_meet_46 (by decide) (fun c5 => ?_) (fun c5 => ?_)
      · have h := ite_t h c5
        exact qn_vret hX (pc := 65) dX2_meet_65 hE hR_m3 (Option.some.inj h)
      · have h := ite_f h c5
        refine qn_iload_n hX (pc := 49) dX2_meet_49 3 rfl rfl ?_
        refine qn_aload_n hX (pc := 50) dX2_meet_50 1 rfl rfl ?_
        refine qn_getR hX (pc := 51) fd_X2_meet_42 dX2_meet_51 k_x0 ?_
        refine qn_getI hX (pc := 54) fd_X2_meet_101 dX2_meet_54 (qr_204 hT k_x0) ?_
        refine qn_iload hX (pc := 57) dX2_meet_57 0 rfl ?_
        obtain ⟨v7, m6, e_m6, h⟩ := kb2_e h
        refine qn_callSNi hX (pc := 59) [.int (iZ x2), .int (iZ (gI m3 403 (gR (xG X) 204 x0))), .int (iZ v4)] [.int (iZ v4), .int (iZ (gI m3 403 (gR (xG X) 204 x0))), .int (iZ x2)] 3 dX2_meet_59 gX2_meet_X7_isBetter_n104 hX.Z.2 (by decide +kernel) (by decide +kernel) rfl dd_X7_isBetter ⟨rfl, rfl⟩ rfl rfl rfl hR_m3 (k_X7_isBetter (xl X) hT b_x2.i (hR_m3.i 403 _ rfl) r_v4 e_m6) (fun r_v7 hR_m6 => ?_)
        refine qn_if_eq hX (pc := 62) r_v7.i 66 dX2_meet_62 (by decide) (fun c8 => ?_) (fun c8 => ?_)
        · have h := ite_t h c8
          refine qn_aload_n hX (pc := 66) dX2_meet_66 1 rfl rfl ?_
          refine qn_iload_n hX (pc := 67) dX2_meet_67 3 rfl rfl ?_
          refine qn_iload hX (pc := 68) dX2_meet_68 0 rfl ?_
          refine qn_iload_n hX (pc := 70) dX2_meet_70 2 rfl rfl ?_
          obtain ⟨m9, e_m9, h⟩ := kb_e h
          refine qn_callVv hX (pc := 71) [.int (iZ x2), .int (iZ v4), .int (iZ x1)] [.int (iZ x1), .int (iZ v4), .int (iZ x2)] 3 dX2_meet_71 gX2_meet_X2_preventSelf rfl dd_X2_preventSelf ⟨rfl, rfl⟩ rfl rfl (by decide) k_x0 rfl rfl hR_m6 (k_X2_preventSelf (xl X) hT k_x0 b_x2.i r_v4 r_x1 e_m9) (fun r_v10 hR_m9 => ?_)
          refine qn_aload_n hX (pc := 74) dX2_meet_74 1 rfl rfl ?_
          refine qn_getR hX (pc := 75) fd_X2_meet_42 dX2_meet_75 k_x0 ?_
          refine qn_getI hX (pc := 78) fd_X2_meet_88 dX2_meet_78 (qr_204 hT k_x0) ?_
          refine qn_if_le hX (pc := 81) (hR_m9.i 404 _ rfl) 91 dX2_meet_81 (by decide) (fun c11 => ?_) (fun c11 => ?_)
          · have h := ite_f h c11
            refine qn_sub (ls' := [(0, .ref x0), (1, .int (iZ x1)), (2, .int (iZ x2)), (3, .int (iZ x3))]) [1, 2, 3, 4] rfl ?_
            exact w_X2_meet_91 hX hE hk18 k_x0 r_x1 b_x2 r_x3 hR_m9 h
          · have h := ite_t h c11
            refine qn_aload_n hX (pc := 84) dX2_meet_84 1 rfl rfl ?_
            refine qn_iload_n hX (pc := 85) dX2_meet_85 3 rfl rfl ?_
            refine qn_iload hX (pc := 86) dX2_meet_86 0 rfl ?_
            obtain ⟨m12, e_m12, h⟩ := kb_e h
            refine qn_callVv hX (pc := 88) [.int (iZ x2), .int (iZ v4)] [.int (iZ v4), .int (iZ x2)] 2 dX2_meet_88 gX2_meet_X2_takeAt rfl dd_X2_takeAt ⟨rfl, rfl⟩ rfl rfl (by decide) k_x0 rfl rfl hR_m9 (k_X2_takeAt (xl X) hT k_x0 b_x2.i r_v4 e_m12) (fun r_v13 hR_m12 => ?_)
            refine qn_sub (ls' := [(0, .ref x0), (1, .int (iZ x1)), (2, .int (iZ x2)), (3, .int (iZ x3))]) [1, 2, 3, 4] rfl ?_
            exact w_X2_meet_91 hX hE hk18 k_x0 r_x1 b_x2 r_x3 hR_m12 h
        · have h := ite_f h c8
          exact qn_vret hX (pc := 65) dX2_meet_65 hE hR_m6 (Option.some.inj h)
set_option maxHeartbeats 4000000 in
set_option maxRecDepth 20000 in
theorem w_X2_meet_L18 {X : qB} {N : Nat} (hX : qOk X cX2_meet RX2 5 none wsX2_meet 4 99) {r : qM} (hE : xr X = none ∧ (True → xΦ X) ∧ xμ X = r) 
    {x0 : Nat} {x1 : Int} {x2 : Int} {x3 : Int} (k_x0 : gK (xG X) x0 = 3) (r_x1 : in32 x1) (b_x2 : in01 x2) (r_x3 : in32 x3) {m0 : qM} (hR_m0 : qR (xG X) m0)
    (h : f_X2_meet_L18 N (xG X)  x0 x1 x2 x3 m0 = some r) : qN X 5 18 [(0, .ref x0), (1, .int (iZ x1)), (2, .int (iZ x2)), (3, .int (iZ x3))] [] m0 := by
  unfold f_X2_meet_L18 at h
  exact qLoop_w (σ := Nat × Int × Int × Int × qM) (P := fun p => gK (xG X) p.1 = 3 ∧ in32 p.2.1 ∧ in01 p.2.2.1 ∧ in32 p.2.2.2.1 ∧ qR (xG X) p.2.2.2.2) (Q := fun p => qN X 5 18 [(0, .ref p.1), (1, .int (iZ p.2.1)), (2, .int (iZ p.2.2.1)), (3, .int (iZ p.2.2.2.1))] [] p.2.2.2.2) (fun k hrec p hp hh => w_X2_meet_18 hX hE (fun x0 x1 x2 x3 m0 q0 q1 q2 q3 hRm hh => hrec (x0, x1, x2, x3, m0) ⟨q0, q1, q2, q3, hRm⟩ hh) hp.1 hp.2.1 hp.2.2.1 hp.2.2.2.1 hp.2.2.2.2 hh) N (x0, x1, x2, x3, m0) ⟨k_x0, r_x1, b_x2, r_x3, hR_m0⟩ h
set_option maxHeartbeats 4000000 in
set_option maxRecDepth 20000 in
theorem w_X2_meet_15 {X : qB} {N : Nat} (hX : qOk X cX2_meet RX2 5 none wsX2_meet 4 99) {r : qM} (hE : xr X = none ∧ (True → xΦ X) ∧ xμ X = r) 
    {x0 : Nat} {x1 : Int} {s0 : Int} (k_x0 : gK (xG X) x0 = 3) (r_x1 : in32 x1) (b_s0 : in01 s0) {m0 : qM} (hR_m0 : qR (xG X) m0)
    (h : f_X2_meet_15 N (xG X)  x0 x1 s0 m0 = some r) : qN X 5 15 [(0, .ref x0), (1, .int (iZ x1))] [.int (iZ s0)] m0 := by
  have hT := hX.T
  unfold f_X2_meet_15 at h
  refine qn_istore_n hX (pc := 15) (ls' := [(2, .int (iZ s0)), (0, .ref x0), (1, .int (iZ x1))]) dX2_meet_15 rfl rfl rfl ?_
  refine qn_iconst hX (pc := 16) dX2_meet_16 ?_
  refine qn_istore_n hX (pc := 17) (ls' := [(3, .int (iZ 0)), (2, .int (iZ s0)), (0, .ref x0), (1, .int (iZ x1))]) dX2_meet_17 rfl rfl rfl ?_
  refine qn_sub (ls' := [(0, .ref x0), (1, .int (iZ x1)), (2, .int (iZ s0)), (3, .int (iZ 0))]) [2, 3, 1, 0] rfl ?_
  exact w_X2_meet_L18 hX hE  k_x0 r_x1 b_s0 (by decide) hR_m0 h
set_option maxHeartbeats 4000000 in
set_option maxRecDepth 20000 in
theorem w_X2_meet {X : qB} {N : Nat} (hX : qOk X cX2_meet RX2 5 none wsX2_meet 4 99) {r : qM} (hE : xr X = none ∧ (True → xΦ X) ∧ xμ X = r) 
    {x0 : Nat} {x1 : Int} (k_x0 : gK (xG X) x0 = 3) (r_x1 : in32 x1) {m0 : qM} (hR_m0 : qR (xG X) m0)
    (h : f_X2_meet N (xG X)  x0 x1 m0 = some r) : qN X 5 0 [(0, .ref x0), (1, .int (iZ x1))] [] m0 := by
  have hT := hX.T
  unfold f_X2_meet at h
  refine qn_aload_n hX (pc := 0) dX2_meet_0 0 rfl rfl ?_
  refine qn_getR hX (pc := 1) fd_X2_meet_42 dX2_meet_1 k_x0 ?_
  refine qn_getI hX (pc := 4) fd_X2_meet_94 dX2_meet_4 (qr_204 hT k_x0) ?_
  refine qn_if_ne hX (pc := 7) (hR_m0.i 402 _ rfl) 14 dX2_meet_7 (by decide) (fun c1 => ?_) (fun c1 => ?_)
  · have h := ite_f h c1
    refine qn_iconst hX (pc := 14) dX2_meet_14 ?_
    refine qn_sub (ls' := [(0, .ref x0), (1, .int (iZ x1))]) [0, 1] rfl ?_
    exact w_X2_meet_15 hX hE  k_x0 r_x1 (by decide) hR_m0 h
  · have h := ite_t h c1
    refine qn_iconst hX (pc := 10) dX2_meet_10 ?_
    refine qn_goto hX (pc := 11) 15 dX2_meet_11 (by decide) ?_
    refine qn_sub (ls' := [(0, .ref x0), (1, .int (iZ x1))]) [0, 1] rfl ?_
    exact w_X2_meet_15 hX hE  k_x0 r_x1 (by decide) hR_m0 h
theorem k_X2_meet (l : Launch) {G : qG} (hT : qT G) {N : Nat} {x0 : Nat} {x1 : Int} (k_x0 : gK G x0 = 3) (r_x1 : in32 x1) {m0 : qM} {r : qM} (h : f_X2_meet N G x0 x1 m0 = some r) : qC l yX2_meet wsX2_meet 4 99 G [.ref x0, .int (iZ x1)] m0 none True r := by
  refine qn_start (hy := by decide) hT (hw := rfl) (hn := Nat.le_of_ble_eq_true rfl) ?_
  intro X h1 h2 h3 h4 hX hR
  subst h4
  exact w_X2_meet hX ⟨h1, fun q => h2 ▸ q, h3⟩ k_x0 r_x1 hR h
theorem dd_X2_meet : yX2_meet.cls = RX2 ∧ yX2_meet.cls ≠ "java/lang/invoke/MethodHandle" ∧ yX2_meet.cls ≠ "java/lang/invoke/VarHandle" ∧ (parseMethodDescriptor yX2_meet.desc).map (fun d => d.parameters.length) = some 1 := by decide +kernel
-- ProRataMarket$Floor.restComing
theorem hi_X2_restComing_2 : ∀ w ∈ wsX20, w ∈ wsX2_restComing := fun w h => List.mem_cons_of_mem _ (List.mem_append_left _ (List.mem_append_left _ (List.mem_append_right _ h)))
theorem fd_X2_restComing_12 : qFd RX2 wsX2_restComing 12 2 0 1 200 := ⟨RX2, TX2, 12, _, rfl, hi_X2_restComing_2, by decide, (by decide +kernel : Cond.fieldLink RX2 12 (TX2 0).1 (TX2 0).2.1 (TX2 0).2.2.1 ∈ wsX2_restComing), rfl, rfl, by decide⟩
theorem fd_X2_restComing_42 : qFd RX2 wsX2_restComing 42 2 4 1 204 := ⟨RX2, TX2, 12, _, rfl, hi_X2_restComing_2, by decide, (by decide +kernel : Cond.fieldLink RX2 42 (TX2 4).1 (TX2 4).2.1 (TX2 4).2.2.1 ∈ wsX2_restComing), rfl, rfl, by decide⟩
theorem fd_X2_restComing_60 : qFd RX2 wsX2_restComing 60 2 7 0 207 := ⟨RX2, TX2, 12, _, rfl, hi_X2_restComing_2, by decide, (by decide +kernel : Cond.fieldLink RX2 60 (TX2 7).1 (TX2 7).2.1 (TX2 7).2.2.1 ∈ wsX2_restComing), rfl, rfl, by decide⟩
theorem hi_X2_restComing_4 : ∀ w ∈ wsX40, w ∈ wsX2_restComing := fun w h => List.mem_cons_of_mem _ (List.mem_append_left _ (List.mem_append_right _ h))
theorem fd_X2_restComing_88 : qFd RX2 wsX2_restComing 88 4 4 0 404 := ⟨RX4, TX4, 6, _, rfl, hi_X2_restComing_4, by decide, (by decide +kernel : Cond.fieldLink RX2 88 (TX4 4).1 (TX4 4).2.1 (TX4 4).2.2.1 ∈ wsX2_restComing), rfl, rfl, by decide⟩
theorem fd_X2_restComing_112 : qFd RX2 wsX2_restComing 112 4 5 0 405 := ⟨RX4, TX4, 6, _, rfl, hi_X2_restComing_4, by decide, (by decide +kernel : Cond.fieldLink RX2 112 (TX4 5).1 (TX4 5).2.1 (TX4 5).2.2.1 ∈ wsX2_restComing), rfl, rfl, by decide⟩
theorem fd_X2_restComing_46 : qFd RX2 wsX2_restComing 46 2 5 0 205 := ⟨RX2, TX2, 12, _, rfl, hi_X2_restComing_2, by decide, (by decide +kernel : Cond.fieldLink RX2 46 (TX2 5).1 (TX2 5).2.1 (TX2 5).2.2.1 ∈ wsX2_restComing), rfl, rfl, by decide⟩
theorem fd_X2_restComing_94 : qFd RX2 wsX2_restComing 94 4 2 0 402 := ⟨RX4, TX4, 6, _, rfl, hi_X2_restComing_4, by decide, (by decide +kernel : Cond.fieldLink RX2 94 (TX4 2).1 (TX4 2).2.1 (TX4 2).2.2.1 ∈ wsX2_restComing), rfl, rfl, by decide⟩
theorem fd_X2_restComing_101 : qFd RX2 wsX2_restComing 101 4 3 0 403 := ⟨RX4, TX4, 6, _, rfl, hi_X2_restComing_4, by decide, (by decide +kernel : Cond.fieldLink RX2 101 (TX4 3).1 (TX4 3).2.1 (TX4 3).2.2.1 ∈ wsX2_restComing), rfl, rfl, by decide⟩
set_option maxHeartbeats 4000000 in
set_option maxRecDepth 20000 in
theorem w_X2_restComing_45 {X : qB} {N : Nat} (hX : qOk X cX2_restComing RX2 3 none wsX2_restComing 3 68) {r : qM} (hE : xr X = none ∧ (True → xΦ X) ∧ xμ X = r) 
    {x0 : Nat} {s0 : Int} (k_x0 : gK (xG X) x0 = 3) (b_s0 : in01 s0) {m0 : qM} (hR_m0 : qR (xG X) m0)
    (h : f_X2_restComing_45 N (xG X)  x0 s0 m0 = some r) : qN X 3 45 [(0, .ref x0)] [.int (iZ s0)] m0 := by
  have hT := hX.T
  unfold f_X2_restComing_45 at h
  refine qn_istore_n hX (pc := 45) (ls' := [(2, .int (iZ s0)), (0, .ref x0)]) dX2_restComing_45 rfl rfl rfl ?_
  refine qn_aload_n hX (pc := 46) dX2_restComing_46 1 rfl rfl ?_
  refine qn_getR hX (pc := 47) fd_X2_restComing_12 dX2_restComing_47 k_x0 ?_
  refine qn_aload_n hX (pc := 50) dX2_restComing_50 1 rfl rfl ?_
  refine qn_getR hX (pc := 51) fd_X2_restComing_42 dX2_restComing_51 k_x0 ?_
  obtain ⟨m1, e_m1, h⟩ := kb_e h
  refine qn_callVv hX (pc := 54) [.ref (gR (xG X) 204 x0)] [.ref (gR (xG X) 204 x0)] 1 dX2_restComing_54 gX2_restComing_X0_add rfl dd_X0_add ⟨rfl, rfl⟩ rfl rfl (by decide) (qr_200 hT k_x0) rfl rfl hR_m0 (k_X0_add (xl X) hT (qr_200 hT k_x0) (qr_204 hT k_x0) e_m1) (fun r_v2 hR_m1 => ?_)
  refine qn_aload_n hX (pc := 57) dX2_restComing_57 1 rfl rfl ?_
  refine qn_getI hX (pc := 58) fd_X2_restComing_60 dX2_restComing_58 k_x0 ?_
  refine qn_if_ne hX (pc := 61) ((hR_m1.zz 207 _ rfl).i) 107 dX2_restComing_61 (by decide) (fun c3 => ?_) (fun c3 => ?_)
  · have h := ite_f h c3
    exact qn_vret hX (pc := 107) dX2_restComing_107 hE hR_m1 (Option.some.inj h)
  · have h := ite_t h c3
    refine qn_iload_n hX (pc := 64) dX2_restComing_64 0 rfl rfl ?_
    refine qn_if_eq hX (pc := 65) b_s0.i 107 dX2_restComing_65 (by decide) (fun c4 => ?_) (fun c4 => ?_)
    · have h := ite_t h c4
      exact qn_vret hX (pc := 107) dX2_restComing_107 hE hR_m1 (Option.some.inj h)
    · have h := ite_f h c4
      refine qn_aload_n hX (pc := 68) dX2_restComing_68 1 rfl rfl ?_
      refine qn_getR hX (pc := 69) fd_X2_restComing_42 dX2_restComing_69 k_x0 ?_
      refine qn_getI hX (pc := 72) fd_X2_restComing_88 dX2_restComing_72 (qr_204 hT k_x0) ?_
      refine qn_aload_n hX (pc := 75) dX2_restComing_75 1 rfl rfl ?_
      refine qn_getR hX (pc := 76) fd_X2_restComing_42 dX2_restComing_76 k_x0 ?_
      refine qn_getI hX (pc := 79) fd_X2_restComing_112 dX2_restComing_79 (qr_204 hT k_x0) ?_
      refine qn_icmp_ne hX (pc := 82) (hR_m1.i 404 _ rfl) (hR_m1.i 405 _ rfl) 107 dX2_restComing_82 (by decide) (fun c5 => ?_) (fun c5 => ?_)
      · have h := ite_f h c5
        exact qn_vret hX (pc := 107) dX2_restComing_107 hE hR_m1 (Option.some.inj h)
      · have h := ite_t h c5
        refine qn_aload_n hX (pc := 85) dX2_restComing_85 1 rfl rfl ?_
        refine qn_getI hX (pc := 86) fd_X2_restComing_46 dX2_restComing_86 k_x0 ?_
        refine qn_if_le hX (pc := 89) (hR_m1.i 205 _ rfl) 107 dX2_restComing_89 (by decide) (fun c6 => ?_) (fun c6 => ?_)
        · have h := ite_f h c6
          exact qn_vret hX (pc := 107) dX2_restComing_107 hE hR_m1 (Option.some.inj h)
        · have h := ite_t h c6
          refine qn_aload_n hX (pc := 92) dX2_restComing_92 1 rfl rfl ?_
          refine qn_getR hX (pc := 93) fd_X2_restComing_12 dX2_restComing_93 k_x0 ?_
          refine qn_aload_n hX (pc := 96) dX2_restComing_96 1 rfl rfl ?_
          refine qn_getR hX (pc := 97) fd_X2_restComing_42 dX2_restComing_97 k_x0 ?_
          refine qn_aload_n hX (pc := 100) dX2_restComing_100 1 rfl rfl ?_
          refine qn_getI hX (pc := 101) fd_X2_restComing_46 dX2_restComing_101 k_x0 ?_
          obtain ⟨m7, e_m7, h⟩ := kb_e h
          refine qn_callVv hX (pc := 104) [.ref (gR (xG X) 204 x0), .int (iZ (gI m1 205 x0))] [.int (iZ (gI m1 205 x0)), .ref (gR (xG X) 204 x0)] 2 dX2_restComing_104 gX2_restComing_X0_makeTop rfl dd_X0_makeTop ⟨rfl, rfl⟩ rfl rfl (by decide) (qr_200 hT k_x0) rfl rfl hR_m1 (k_X0_makeTop (xl X) hT (qr_200 hT k_x0) (qr_204 hT k_x0) (hR_m1.i 205 _ rfl) e_m7) (fun r_v8 hR_m7 => ?_)
          exact qn_vret hX (pc := 107) dX2_restComing_107 hE hR_m7 (Option.some.inj h)
set_option maxHeartbeats 4000000 in
set_option maxRecDepth 20000 in
theorem w_X2_restComing_40 {X : qB} {N : Nat} (hX : qOk X cX2_restComing RX2 3 none wsX2_restComing 3 68) {r : qM} (hE : xr X = none ∧ (True → xΦ X) ∧ xμ X = r) 
    {x0 : Nat} (k_x0 : gK (xG X) x0 = 3) {m0 : qM} (hR_m0 : qR (xG X) m0)
    (h : f_X2_restComing_40 N (xG X)  x0 m0 = some r) : qN X 3 40 [(0, .ref x0)] [] m0 := by
  have hT := hX.T
  unfold f_X2_restComing_40 at h
  refine qn_iconst hX (pc := 40) dX2_restComing_40 ?_
  refine qn_goto hX (pc := 41) 45 dX2_restComing_41 (by decide) ?_
  refine qn_sub (ls' := [(0, .ref x0)]) [0] rfl ?_
  exact w_X2_restComing_45 hX hE  k_x0 (by decide) hR_m0 h
set_option maxHeartbeats 4000000 in
set_option maxRecDepth 20000 in
theorem w_X2_restComing {X : qB} {N : Nat} (hX : qOk X cX2_restComing RX2 3 none wsX2_restComing 3 68) {r : qM} (hE : xr X = none ∧ (True → xΦ X) ∧ xμ X = r) 
    {x0 : Nat} (k_x0 : gK (xG X) x0 = 3) {m0 : qM} (hR_m0 : qR (xG X) m0)
    (h : f_X2_restComing N (xG X)  x0 m0 = some r) : qN X 3 0 [(0, .ref x0)] [] m0 := by
  have hT := hX.T
  unfold f_X2_restComing at h
  refine qn_aload_n hX (pc := 0) dX2_restComing_0 0 rfl rfl ?_
  refine qn_getR hX (pc := 1) fd_X2_restComing_12 dX2_restComing_1 k_x0 ?_
  refine qn_aload_n hX (pc := 4) dX2_restComing_4 0 rfl rfl ?_
  refine qn_getR hX (pc := 5) fd_X2_restComing_42 dX2_restComing_5 k_x0 ?_
  refine qn_getI hX (pc := 8) fd_X2_restComing_94 dX2_restComing_8 (qr_204 hT k_x0) ?_
  obtain ⟨v2, m1, e_m1, h⟩ := kb2_e h
  refine qn_callVi hX (pc := 11) [.int (iZ (gI m0 402 (gR (xG X) 204 x0)))] [.int (iZ (gI m0 402 (gR (xG X) 204 x0)))] 1 dX2_restComing_11 gX2_restComing_X0_best rfl dd_X0_best ⟨rfl, rfl⟩ rfl rfl (by decide) (qr_200 hT k_x0) rfl rfl hR_m0 (k_X0_best (xl X) hT (qr_200 hT k_x0) (hR_m0.i 402 _ rfl) e_m1) (fun r_v2 hR_m1 => ?_)
  refine qn_istore_n hX (pc := 14) (ls' := [(1, .int (iZ v2)), (0, .ref x0)]) dX2_restComing_14 rfl rfl rfl ?_
  refine qn_iload_n hX (pc := 15) dX2_restComing_15 0 rfl rfl ?_
  refine qn_if_eq hX (pc := 16) r_v2 40 dX2_restComing_16 (by decide) (fun c3 => ?_) (fun c3 => ?_)
  · have h := ite_t h c3
    refine qn_sub (ls' := [(0, .ref x0)]) [1] rfl ?_
    exact w_X2_restComing_40 hX hE  k_x0 hR_m1 h
  · have h := ite_f h c3
    refine qn_aload_n hX (pc := 19) dX2_restComing_19 1 rfl rfl ?_
    refine qn_getR hX (pc := 20) fd_X2_restComing_42 dX2_restComing_20 k_x0 ?_
    refine qn_getI hX (pc := 23) fd_X2_restComing_94 dX2_restComing_23 (qr_204 hT k_x0) ?_
    refine qn_aload_n hX (pc := 26) dX2_restComing_26 1 rfl rfl ?_
    refine qn_getR hX (pc := 27) fd_X2_restComing_42 dX2_restComing_27 k_x0 ?_
    refine qn_getI hX (pc := 30) fd_X2_restComing_101 dX2_restComing_30 (qr_204 hT k_x0) ?_
    refine qn_iload_n hX (pc := 33) dX2_restComing_33 0 rfl rfl ?_
    obtain ⟨v5, m4, e_m4, h⟩ := kb2_e h
    refine qn_callSNi hX (pc := 34) [.int (iZ (gI m1 402 (gR (xG X) 204 x0))), .int (iZ (gI m1 403 (gR (xG X) 204 x0))), .int (iZ v2)] [.int (iZ v2), .int (iZ (gI m1 403 (gR (xG X) 204 x0))), .int (iZ (gI m1 402 (gR (xG X) 204 x0)))] 3 dX2_restComing_34 gX2_restComing_X7_isBetter_n104 hX.Z.2 (by decide +kernel) (by decide +kernel) rfl dd_X7_isBetter ⟨rfl, rfl⟩ rfl rfl rfl hR_m1 (k_X7_isBetter (xl X) hT (hR_m1.i 402 _ rfl) (hR_m1.i 403 _ rfl) r_v2 e_m4) (fun r_v5 hR_m4 => ?_)
    refine qn_if_eq hX (pc := 37) r_v5.i 44 dX2_restComing_37 (by decide) (fun c6 => ?_) (fun c6 => ?_)
    · have h := ite_t h c6
      refine qn_iconst hX (pc := 44) dX2_restComing_44 ?_
      refine qn_sub (ls' := [(0, .ref x0)]) [1] rfl ?_
      exact w_X2_restComing_45 hX hE  k_x0 (by decide) hR_m4 h
    · have h := ite_f h c6
      refine qn_sub (ls' := [(0, .ref x0)]) [1] rfl ?_
      exact w_X2_restComing_40 hX hE  k_x0 hR_m4 h
theorem k_X2_restComing (l : Launch) {G : qG} (hT : qT G) {N : Nat} {x0 : Nat} (k_x0 : gK G x0 = 3) {m0 : qM} {r : qM} (h : f_X2_restComing N G x0 m0 = some r) : qC l yX2_restComing wsX2_restComing 3 68 G [.ref x0] m0 none True r := by
  refine qn_start (hy := by decide) hT (hw := rfl) (hn := Nat.le_of_ble_eq_true rfl) ?_
  intro X h1 h2 h3 h4 hX hR
  subst h4
  exact w_X2_restComing hX ⟨h1, fun q => h2 ▸ q, h3⟩ k_x0 hR h
theorem dd_X2_restComing : yX2_restComing.cls = RX2 ∧ yX2_restComing.cls ≠ "java/lang/invoke/MethodHandle" ∧ yX2_restComing.cls ≠ "java/lang/invoke/VarHandle" ∧ (parseMethodDescriptor yX2_restComing.desc).map (fun d => d.parameters.length) = some 0 := by decide +kernel
-- ProRataMarket$Floor.comeIn
theorem hi_X2_comeIn_2 : ∀ w ∈ wsX20, w ∈ wsX2_comeIn := fun w h => List.mem_cons_of_mem _ (List.mem_append_left _ (List.mem_append_left _ (List.mem_append_left _ (List.mem_append_left _ (List.mem_append_right _ h)))))
theorem fd_X2_comeIn_42 : qFd RX2 wsX2_comeIn 42 2 4 1 204 := ⟨RX2, TX2, 12, _, rfl, hi_X2_comeIn_2, by decide, (by decide +kernel : Cond.fieldLink RX2 42 (TX2 4).1 (TX2 4).2.1 (TX2 4).2.2.1 ∈ wsX2_comeIn), rfl, rfl, by decide⟩
theorem hi_X2_comeIn_4 : ∀ w ∈ wsX40, w ∈ wsX2_comeIn := fun w h => List.mem_cons_of_mem _ (List.mem_append_left _ (List.mem_append_left _ (List.mem_append_left _ (List.mem_append_right _ h))))
theorem fd_X2_comeIn_88 : qFd RX2 wsX2_comeIn 88 4 4 0 404 := ⟨RX4, TX4, 6, _, rfl, hi_X2_comeIn_4, by decide, (by decide +kernel : Cond.fieldLink RX2 88 (TX4 4).1 (TX4 4).2.1 (TX4 4).2.2.1 ∈ wsX2_comeIn), rfl, rfl, by decide⟩
theorem fd_X2_comeIn_64 : qFd RX2 wsX2_comeIn 64 2 8 0 208 := ⟨RX2, TX2, 12, _, rfl, hi_X2_comeIn_2, by decide, (by decide +kernel : Cond.fieldLink RX2 64 (TX2 8).1 (TX2 8).2.1 (TX2 8).2.2.1 ∈ wsX2_comeIn), rfl, rfl, by decide⟩
theorem fd_X2_comeIn_12 : qFd RX2 wsX2_comeIn 12 2 0 1 200 := ⟨RX2, TX2, 12, _, rfl, hi_X2_comeIn_2, by decide, (by decide +kernel : Cond.fieldLink RX2 12 (TX2 0).1 (TX2 0).2.1 (TX2 0).2.2.1 ∈ wsX2_comeIn), rfl, rfl, by decide⟩
theorem fp_X2_comeIn_88 : qFp RX2 wsX2_comeIn 88 4 4 0 404 .int := ⟨RX4, TX4, 6, _, tyX4, rfl, hi_X2_comeIn_4, by decide, (by decide +kernel : Cond.fieldLink RX2 88 (TX4 4).1 (TX4 4).2.1 (TX4 4).2.2.1 ∈ wsX2_comeIn), rfl, rfl, by decide, tyX4_ok, nmX4, rfl, by decide +kernel⟩
theorem fp_X2_comeIn_64 : qFp RX2 wsX2_comeIn 64 2 8 0 208 .int := ⟨RX2, TX2, 12, _, tyX2, rfl, hi_X2_comeIn_2, by decide, (by decide +kernel : Cond.fieldLink RX2 64 (TX2 8).1 (TX2 8).2.1 (TX2 8).2.2.1 ∈ wsX2_comeIn), rfl, rfl, by decide, tyX2_ok, nmX2, rfl, by decide +kernel⟩
theorem fd_X2_comeIn_60 : qFd RX2 wsX2_comeIn 60 2 7 0 207 := ⟨RX2, TX2, 12, _, rfl, hi_X2_comeIn_2, by decide, (by decide +kernel : Cond.fieldLink RX2 60 (TX2 7).1 (TX2 7).2.1 (TX2 7).2.2.1 ∈ wsX2_comeIn), rfl, rfl, by decide⟩
set_option maxHeartbeats 4000000 in
set_option maxRecDepth 20000 in
theorem w_X2_comeIn_77 {X : qB} {N : Nat} (hX : qOk X cX2_comeIn RX2 6 (some .int) wsX2_comeIn 5 123) {r : Int} {nu : qM} (hE : xr X = some (.int (iZ r)) ∧ (in32 r → xΦ X) ∧ xμ X = nu) 
    {x0 : Nat} (k_x0 : gK (xG X) x0 = 3) {m0 : qM} (hR_m0 : qR (xG X) m0)
    (h : f_X2_comeIn_77 N (xG X)  x0 m0 = some (r, nu)) : qN X 6 77 [(0, .ref x0)] [] m0 := by
  have hT := hX.T
  unfold f_X2_comeIn_77 at h
  refine qn_aload_n hX (pc := 77) dX2_comeIn_77 0 rfl rfl ?_
  refine qn_getR hX (pc := 78) fd_X2_comeIn_42 dX2_comeIn_78 k_x0 ?_
  refine qn_getI hX (pc := 81) fd_X2_comeIn_88 dX2_comeIn_81 (qr_204 hT k_x0) ?_
  refine qn_if_le hX (pc := 84) (hR_m0.i 404 _ rfl) 91 dX2_comeIn_84 (by decide) (fun c1 => ?_) (fun c1 => ?_)
  · have h := ite_f h c1
    refine qn_aload_n hX (pc := 91) dX2_comeIn_91 0 rfl rfl ?_
    refine qn_getI hX (pc := 92) fd_X2_comeIn_64 dX2_comeIn_92 k_x0 ?_
    exact qn_iret hX (pc := 95) dX2_comeIn_95 hE hR_m0 (hR_m0.i 208 _ rfl) (Option.some.inj h)
  · have h := ite_t h c1
    refine qn_aload_n hX (pc := 87) dX2_comeIn_87 0 rfl rfl ?_
    obtain ⟨m2, e_m2, h⟩ := kb_e h
    refine qn_callVv hX (pc := 88) [] [] 0 dX2_comeIn_88 gX2_comeIn_X2_restComing rfl dd_X2_restComing ⟨rfl, rfl⟩ rfl rfl (by decide) k_x0 rfl rfl hR_m0 (k_X2_restComing (xl X) hT k_x0 e_m2) (fun r_v3 hR_m2 => ?_)
    refine qn_aload_n hX (pc := 91) dX2_comeIn_91 0 rfl rfl ?_
    refine qn_getI hX (pc := 92) fd_X2_comeIn_64 dX2_comeIn_92 k_x0 ?_
    exact qn_iret hX (pc := 95) dX2_comeIn_95 hE hR_m2 (hR_m2.i 208 _ rfl) (Option.some.inj h)
set_option maxHeartbeats 4000000 in
set_option maxRecDepth 20000 in
theorem w_X2_comeIn_59 {X : qB} {N : Nat} (hX : qOk X cX2_comeIn RX2 6 (some .int) wsX2_comeIn 5 123) {r : Int} {nu : qM} (hE : xr X = some (.int (iZ r)) ∧ (in32 r → xΦ X) ∧ xμ X = nu) 
    {x0 : Nat} (k_x0 : gK (xG X) x0 = 3) {m0 : qM} (hR_m0 : qR (xG X) m0)
    (h : f_X2_comeIn_59 N (xG X)  x0 m0 = some (r, nu)) : qN X 6 59 [(0, .ref x0)] [] m0 := by
  have hT := hX.T
  unfold f_X2_comeIn_59 at h
  refine qn_aload_n hX (pc := 59) dX2_comeIn_59 0 rfl rfl ?_
  refine qn_getR hX (pc := 60) fd_X2_comeIn_12 dX2_comeIn_60 k_x0 ?_
  obtain ⟨v2, m1, e_m1, h⟩ := kb2_e h
  refine qn_callVi hX (pc := 63) [] [] 0 dX2_comeIn_63 gX2_comeIn_X0_isFull rfl dd_X0_isFull ⟨rfl, rfl⟩ rfl rfl (by decide) (qr_200 hT k_x0) rfl rfl hR_m0 (k_X0_isFull (xl X) hT (qr_200 hT k_x0) e_m1) (fun r_v2 hR_m1 => ?_)
  refine qn_if_eq hX (pc := 66) r_v2.i 77 dX2_comeIn_66 (by decide) (fun c3 => ?_) (fun c3 => ?_)
  · have h := ite_t h c3
    refine qn_sub (ls' := [(0, .ref x0)]) [0] rfl ?_
    exact w_X2_comeIn_77 hX hE  k_x0 hR_m1 h
  · have h := ite_f h c3
    refine qn_aload_n hX (pc := 69) dX2_comeIn_69 0 rfl rfl ?_
    refine qn_getR hX (pc := 70) fd_X2_comeIn_42 dX2_comeIn_70 k_x0 ?_
    refine qn_iconst hX (pc := 73) dX2_comeIn_73 ?_
    obtain ⟨m4, e_m4, h⟩ := kp_e h
    refine qn_putI hX (pc := 74) fp_X2_comeIn_88 dX2_comeIn_74 (qr_204 hT k_x0) hR_m1 (show in32 0 by decide) e_m4 (fun hR_m4 => ?_) 
    refine qn_sub (ls' := [(0, .ref x0)]) [0] rfl ?_
    exact w_X2_comeIn_77 hX hE  k_x0 hR_m4 h
set_option maxHeartbeats 4000000 in
set_option maxRecDepth 20000 in
theorem w_X2_comeIn_20 {X : qB} {N : Nat} (hX : qOk X cX2_comeIn RX2 6 (some .int) wsX2_comeIn 5 123) {r : Int} {nu : qM} (hE : xr X = some (.int (iZ r)) ∧ (in32 r → xΦ X) ∧ xμ X = nu) 
    {x0 : Nat} {x1 : Int} {x2 : Int} {x3 : Int} {x4 : Int} {x5 : Int} (k_x0 : gK (xG X) x0 = 3) (r_x1 : in32 x1) (r_x2 : in32 x2) (r_x3 : in32 x3) (r_x4 : in32 x4) (r_x5 : in32 x5) {m0 : qM} (hR_m0 : qR (xG X) m0)
    (h : f_X2_comeIn_20 N (xG X)  x0 x1 x2 x3 x4 x5 m0 = some (r, nu)) : qN X 6 20 [(0, .ref x0), (1, .int (iZ x1)), (2, .int (iZ x2)), (3, .int (iZ x3)), (4, .int (iZ x4)), (5, .int (iZ x5))] [] m0 := by
  have hT := hX.T
  unfold f_X2_comeIn_20 at h
  refine qn_aload_n hX (pc := 20) dX2_comeIn_20 0 rfl rfl ?_
  refine qn_dup hX (pc := 21) dX2_comeIn_21 rfl ?_
  refine qn_getI hX (pc := 22) fd_X2_comeIn_64 dX2_comeIn_22 k_x0 ?_
  refine qn_iconst hX (pc := 25) dX2_comeIn_25 ?_
  obtain ⟨v1, e_v1, r_v1, h⟩ := ckI_e h
  refine qn_iadd hX (pc := 26) dX2_comeIn_26 e_v1 ?_
  obtain ⟨m2, e_m2, h⟩ := kp_e h
  refine qn_putI hX (pc := 27) fp_X2_comeIn_64 dX2_comeIn_27 k_x0 hR_m0 r_v1 e_m2 (fun hR_m2 => ?_) 
  refine qn_aload_n hX (pc := 30) dX2_comeIn_30 0 rfl rfl ?_
  refine qn_getR hX (pc := 31) fd_X2_comeIn_42 dX2_comeIn_31 k_x0 ?_
  refine qn_aload_n hX (pc := 34) dX2_comeIn_34 0 rfl rfl ?_
  refine qn_getI hX (pc := 35) fd_X2_comeIn_64 dX2_comeIn_35 k_x0 ?_
  refine qn_iload_n hX (pc := 38) dX2_comeIn_38 1 rfl rfl ?_
  refine qn_iload_n hX (pc := 39) dX2_comeIn_39 2 rfl rfl ?_
  refine qn_iload_n hX (pc := 40) dX2_comeIn_40 3 rfl rfl ?_
  refine qn_iload hX (pc := 41) dX2_comeIn_41 4 rfl ?_
  obtain ⟨m3, e_m3, h⟩ := kb_e h
  refine qn_callVv hX (pc := 43) [.int (iZ (gI m2 208 x0)), .int (iZ x1), .int (iZ x2), .int (iZ x3), .int (iZ x4)] [.int (iZ x4), .int (iZ x3), .int (iZ x2), .int (iZ x1), .int (iZ (gI m2 208 x0))] 5 dX2_comeIn_43 gX2_comeIn_X4_become rfl dd_X4_become ⟨rfl, rfl⟩ rfl rfl (by decide) (qr_204 hT k_x0) rfl rfl hR_m2 (k_X4_become (xl X) hT (qr_204 hT k_x0) (hR_m2.i 208 _ rfl) r_x1 r_x2 r_x3 r_x4 e_m3) (fun r_v4 hR_m3 => ?_)
  refine qn_aload_n hX (pc := 46) dX2_comeIn_46 0 rfl rfl ?_
  refine qn_getI hX (pc := 47) fd_X2_comeIn_60 dX2_comeIn_47 k_x0 ?_
  refine qn_if_ne hX (pc := 50) ((hR_m3.zz 207 _ rfl).i) 59 dX2_comeIn_50 (by decide) (fun c5 => ?_) (fun c5 => ?_)
  · have h := ite_f h c5
    refine qn_sub (ls' := [(0, .ref x0)]) [0] rfl ?_
    exact w_X2_comeIn_59 hX hE  k_x0 hR_m3 h
  · have h := ite_t h c5
    refine qn_aload_n hX (pc := 53) dX2_comeIn_53 0 rfl rfl ?_
    refine qn_iload hX (pc := 54) dX2_comeIn_54 5 rfl ?_
    obtain ⟨m6, e_m6, h⟩ := kb_e h
    refine qn_callVv hX (pc := 56) [.int (iZ x5)] [.int (iZ x5)] 1 dX2_comeIn_56 gX2_comeIn_X2_meet rfl dd_X2_meet ⟨rfl, rfl⟩ rfl rfl (by decide) k_x0 rfl rfl hR_m3 (k_X2_meet (xl X) hT k_x0 r_x5 e_m6) (fun r_v7 hR_m6 => ?_)
    refine qn_sub (ls' := [(0, .ref x0)]) [0] rfl ?_
    exact w_X2_comeIn_59 hX hE  k_x0 hR_m6 h
set_option maxHeartbeats 4000000 in
set_option maxRecDepth 20000 in
theorem w_X2_comeIn {X : qB} {N : Nat} (hX : qOk X cX2_comeIn RX2 6 (some .int) wsX2_comeIn 5 123) {r : Int} {nu : qM} (hE : xr X = some (.int (iZ r)) ∧ (in32 r → xΦ X) ∧ xμ X = nu) 
    {x0 : Nat} {x1 : Int} {x2 : Int} {x3 : Int} {x4 : Int} {x5 : Int} (k_x0 : gK (xG X) x0 = 3) (r_x1 : in32 x1) (r_x2 : in32 x2) (r_x3 : in32 x3) (r_x4 : in32 x4) (r_x5 : in32 x5) {m0 : qM} (hR_m0 : qR (xG X) m0)
    (h : f_X2_comeIn N (xG X)  x0 x1 x2 x3 x4 x5 m0 = some (r, nu)) : qN X 6 0 [(0, .ref x0), (1, .int (iZ x1)), (2, .int (iZ x2)), (3, .int (iZ x3)), (4, .int (iZ x4)), (5, .int (iZ x5))] [] m0 := by
  have hT := hX.T
  unfold f_X2_comeIn at h
  refine qn_aload_n hX (pc := 0) dX2_comeIn_0 0 rfl rfl ?_
  refine qn_getI hX (pc := 1) fd_X2_comeIn_60 dX2_comeIn_1 k_x0 ?_
  refine qn_if_eq hX (pc := 4) ((hR_m0.zz 207 _ rfl).i) 20 dX2_comeIn_4 (by decide) (fun c1 => ?_) (fun c1 => ?_)
  · have h := ite_t h c1
    refine qn_sub (ls' := [(0, .ref x0), (1, .int (iZ x1)), (2, .int (iZ x2)), (3, .int (iZ x3)), (4, .int (iZ x4)), (5, .int (iZ x5))]) [0, 1, 2, 3, 4, 5] rfl ?_
    exact w_X2_comeIn_20 hX hE  k_x0 r_x1 r_x2 r_x3 r_x4 r_x5 hR_m0 h
  · have h := ite_f h c1
    refine qn_aload_n hX (pc := 7) dX2_comeIn_7 0 rfl rfl ?_
    refine qn_getR hX (pc := 8) fd_X2_comeIn_12 dX2_comeIn_8 k_x0 ?_
    obtain ⟨v3, m2, e_m2, h⟩ := kb2_e h
    refine qn_callVi hX (pc := 11) [] [] 0 dX2_comeIn_11 gX2_comeIn_X0_isFull rfl dd_X0_isFull ⟨rfl, rfl⟩ rfl rfl (by decide) (qr_200 hT k_x0) rfl rfl hR_m0 (k_X0_isFull (xl X) hT (qr_200 hT k_x0) e_m2) (fun r_v3 hR_m2 => ?_)
    refine qn_if_eq hX (pc := 14) r_v3.i 20 dX2_comeIn_14 (by decide) (fun c4 => ?_) (fun c4 => ?_)
    · have h := ite_t h c4
      refine qn_sub (ls' := [(0, .ref x0), (1, .int (iZ x1)), (2, .int (iZ x2)), (3, .int (iZ x3)), (4, .int (iZ x4)), (5, .int (iZ x5))]) [0, 1, 2, 3, 4, 5] rfl ?_
      exact w_X2_comeIn_20 hX hE  k_x0 r_x1 r_x2 r_x3 r_x4 r_x5 hR_m2 h
    · have h := ite_f h c4
      refine qn_bipush hX (pc := 17) dX2_comeIn_17 (by decide) ?_
      exact qn_iret hX (pc := 19) dX2_comeIn_19 hE hR_m2 (by decide) (Option.some.inj h)
theorem k_X2_comeIn (l : Launch) {G : qG} (hT : qT G) {N : Nat} {x0 : Nat} {x1 : Int} {x2 : Int} {x3 : Int} {x4 : Int} {x5 : Int} (k_x0 : gK G x0 = 3) (r_x1 : in32 x1) (r_x2 : in32 x2) (r_x3 : in32 x3) (r_x4 : in32 x4) (r_x5 : in32 x5) {m0 : qM} {r : Int} {nu : qM} (h : f_X2_comeIn N G x0 x1 x2 x3 x4 x5 m0 = some (r, nu)) : qC l yX2_comeIn wsX2_comeIn 5 123 G [.ref x0, .int (iZ x1), .int (iZ x2), .int (iZ x3), .int (iZ x4), .int (iZ x5)] m0 (some (.int (iZ r))) (in32 r) nu := by
  refine qn_start (hy := by decide) hT (hw := rfl) (hn := Nat.le_of_ble_eq_true rfl) ?_
  intro X h1 h2 h3 h4 hX hR
  subst h4
  exact w_X2_comeIn hX ⟨h1, fun q => h2 ▸ q, h3⟩ k_x0 r_x1 r_x2 r_x3 r_x4 r_x5 hR h
theorem dd_X2_comeIn : yX2_comeIn.cls = RX2 ∧ yX2_comeIn.cls ≠ "java/lang/invoke/MethodHandle" ∧ yX2_comeIn.cls ≠ "java/lang/invoke/VarHandle" ∧ (parseMethodDescriptor yX2_comeIn.desc).map (fun d => d.parameters.length) = some 5 := by decide +kernel
-- ProRataMarket$Ledger.told
theorem hi_X3_told_3 : ∀ w ∈ wsX30, w ∈ wsX3_told := fun w h => List.mem_cons_of_mem _ (List.mem_append_right _ h)
theorem fd_X3_told_11 : qFd RX3 wsX3_told 11 3 0 1 300 := ⟨RX3, TX3, 7, _, rfl, hi_X3_told_3, by decide, (by decide +kernel : Cond.fieldLink RX3 11 (TX3 0).1 (TX3 0).2.1 (TX3 0).2.2.1 ∈ wsX3_told), rfl, rfl, by decide⟩
theorem fd_X3_told_28 : qFd RX3 wsX3_told 28 3 2 0 302 := ⟨RX3, TX3, 7, _, rfl, hi_X3_told_3, by decide, (by decide +kernel : Cond.fieldLink RX3 28 (TX3 2).1 (TX3 2).2.1 (TX3 2).2.2.1 ∈ wsX3_told), rfl, rfl, by decide⟩
set_option maxHeartbeats 4000000 in
set_option maxRecDepth 20000 in
theorem w_X3_told {X : qB} {N : Nat} (hX : qOk X cX3_told RX3 3 (some .int) wsX3_told 1 22) {r : Int} {nu : qM} (hE : xr X = some (.int (iZ r)) ∧ (in32 r → xΦ X) ∧ xμ X = nu) 
    {x0 : Nat} {x1 : Int} {x2 : Int} (k_x0 : gK (xG X) x0 = 4) (r_x1 : in32 x1) (r_x2 : in32 x2) {m0 : qM} (hR_m0 : qR (xG X) m0)
    (h : f_X3_told N (xG X)  x0 x1 x2 m0 = some (r, nu)) : qN X 3 0 [(0, .ref x0), (1, .int (iZ x1)), (2, .int (iZ x2))] [] m0 := by
  have hT := hX.T
  unfold f_X3_told at h
  refine qn_aload_n hX (pc := 0) dX3_told_0 0 rfl rfl ?_
  refine qn_getR hX (pc := 1) fd_X3_told_11 dX3_told_1 k_x0 ?_
  refine qn_aload_n hX (pc := 4) dX3_told_4 0 rfl rfl ?_
  refine qn_getI hX (pc := 5) fd_X3_told_28 dX3_told_5 k_x0 ?_
  refine qn_iconst hX (pc := 8) dX3_told_8 ?_
  obtain ⟨v1, e_v1, r_v1, h⟩ := ckI_e h
  refine qn_isub hX (pc := 9) dX3_told_9 e_v1 ?_
  refine qn_iload_n hX (pc := 10) dX3_told_10 1 rfl rfl ?_
  obtain ⟨v2, e_v2, r_v2, h⟩ := ckI_e h
  refine qn_isub hX (pc := 11) dX3_told_11 e_v2 ?_
  refine qn_bipush hX (pc := 12) dX3_told_12 (by decide) ?_
  obtain ⟨v4, m3, e_m3, h⟩ := kb2_e h
  refine qn_callSi hX (pc := 14) [.int (iZ v2), .int (iZ 60)] [.int (iZ 60), .int (iZ v2)] 2 dX3_told_14 gX3_told_J9_floorMod_7cf53 rfl dd_J9_floorMod_7cf53 ⟨rfl, rfl⟩ rfl rfl rfl hR_m0 (k_J9_floorMod_7cf53 (xl X) hT r_v2 (by decide) e_m3) (fun r_v4 hR_m3 => ?_)
  obtain ⟨o5, e_o5, b_o5, k_o5, h⟩ := rdQ_e h
  refine qn_aaldR hX (pc := 17) 60 dX3_told_17 (qr_300 hT k_x0) (by decide) b_o5 e_o5 ?_
  refine qn_iload_n hX (pc := 18) dX3_told_18 2 rfl rfl ?_
  obtain ⟨v6, e_v6, b_v6, h⟩ := rdA_e h
  have r_v6 : in32 v6 := by rw [e_v6]; exact hR_m3.a (n := 5) _ k_o5 (by decide)
  refine qn_iald hX (pc := 19) 5 dX3_told_19 k_o5 (by decide) b_v6 e_v6 ?_
  exact qn_iret hX (pc := 20) dX3_told_20 hE hR_m3 r_v6 (Option.some.inj h)
theorem k_X3_told (l : Launch) {G : qG} (hT : qT G) {N : Nat} {x0 : Nat} {x1 : Int} {x2 : Int} (k_x0 : gK G x0 = 4) (r_x1 : in32 x1) (r_x2 : in32 x2) {m0 : qM} {r : Int} {nu : qM} (h : f_X3_told N G x0 x1 x2 m0 = some (r, nu)) : qC l yX3_told wsX3_told 1 22 G [.ref x0, .int (iZ x1), .int (iZ x2)] m0 (some (.int (iZ r))) (in32 r) nu := by
  refine qn_start (hy := by decide) hT (hw := rfl) (hn := Nat.le_of_ble_eq_true rfl) ?_
  intro X h1 h2 h3 h4 hX hR
  subst h4
  exact w_X3_told hX ⟨h1, fun q => h2 ▸ q, h3⟩ k_x0 r_x1 r_x2 hR h
theorem dd_X3_told : yX3_told.cls = RX3 ∧ yX3_told.cls ≠ "java/lang/invoke/MethodHandle" ∧ yX3_told.cls ≠ "java/lang/invoke/VarHandle" ∧ (parseMethodDescriptor yX3_told.desc).map (fun d => d.parameters.length) = some 2 := by decide +kernel
-- ProRataMarket$Sharing.partAt
theorem hi_X5_partAt_5 : ∀ w ∈ wsX50, w ∈ wsX5_partAt := fun w h => List.mem_cons_of_mem _ (List.mem_append_right _ h)
theorem fd_X5_partAt_24 : qFd RX5 wsX5_partAt 24 5 3 1 503 := ⟨RX5, TX5, 8, _, rfl, hi_X5_partAt_5, by decide, (by decide +kernel : Cond.fieldLink RX5 24 (TX5 3).1 (TX5 3).2.1 (TX5 3).2.2.1 ∈ wsX5_partAt), rfl, rfl, by decide⟩
theorem fd_X5_partAt_27 : qFd RX5 wsX5_partAt 27 5 4 1 504 := ⟨RX5, TX5, 8, _, rfl, hi_X5_partAt_5, by decide, (by decide +kernel : Cond.fieldLink RX5 27 (TX5 4).1 (TX5 4).2.1 (TX5 4).2.2.1 ∈ wsX5_partAt), rfl, rfl, by decide⟩
theorem fd_X5_partAt_30 : qFd RX5 wsX5_partAt 30 5 5 1 505 := ⟨RX5, TX5, 8, _, rfl, hi_X5_partAt_5, by decide, (by decide +kernel : Cond.fieldLink RX5 30 (TX5 5).1 (TX5 5).2.1 (TX5 5).2.2.1 ∈ wsX5_partAt), rfl, rfl, by decide⟩
set_option maxHeartbeats 4000000 in
set_option maxRecDepth 20000 in
theorem w_X5_partAt {X : qB} {N : Nat} (hX : qOk X cX5_partAt RX5 3 (some .int) wsX5_partAt 0 0) {r : Int} {nu : qM} (hE : xr X = some (.int (iZ r)) ∧ (in32 r → xΦ X) ∧ xμ X = nu) 
    {x0 : Nat} {x1 : Int} {x2 : Int} (k_x0 : gK (xG X) x0 = 6) (r_x1 : in32 x1) (r_x2 : in32 x2) {m0 : qM} (hR_m0 : qR (xG X) m0)
    (h : f_X5_partAt N (xG X)  x0 x1 x2 m0 = some (r, nu)) : qN X 3 0 [(0, .ref x0), (1, .int (iZ x1)), (2, .int (iZ x2))] [] m0 := by
  have hT := hX.T
  unfold f_X5_partAt at h
  refine qn_iload_n hX (pc := 0) dX5_partAt_0 2 rfl rfl ?_
  by_cases c1 : x2 = 1
  · have h := ite_t h c1
    refine qn_tswIn hX (pc := 1) r_x2 28 dX5_partAt_1 1 c1 (by decide) rfl (by decide) ?_
    refine qn_aload_n hX (pc := 28) dX5_partAt_28 0 rfl rfl ?_
    refine qn_getR hX (pc := 29) fd_X5_partAt_24 dX5_partAt_29 k_x0 ?_
    refine qn_iload_n hX (pc := 32) dX5_partAt_32 1 rfl rfl ?_
    obtain ⟨v2, e_v2, b_v2, h⟩ := rdA_e h
    have r_v2 : in32 v2 := by rw [e_v2]; exact hR_m0.a (n := 68) _ (qr_503 hT k_x0) (by decide)
    refine qn_iald hX (pc := 33) 68 dX5_partAt_33 (qr_503 hT k_x0) (by decide) b_v2 e_v2 ?_
    exact qn_iret hX (pc := 34) dX5_partAt_34 hE hR_m0 r_v2 (Option.some.inj h)
  have h := ite_f h c1
  by_cases c3 : x2 = 2
  · have h := ite_t h c3
    refine qn_tswIn hX (pc := 1) r_x2 35 dX5_partAt_1 2 c3 (by decide) rfl (by decide) ?_
    refine qn_aload_n hX (pc := 35) dX5_partAt_35 0 rfl rfl ?_
    refine qn_getR hX (pc := 36) fd_X5_partAt_27 dX5_partAt_36 k_x0 ?_
    refine qn_iload_n hX (pc := 39) dX5_partAt_39 1 rfl rfl ?_
    obtain ⟨v4, e_v4, b_v4, h⟩ := rdA_e h
    have r_v4 : in32 v4 := by rw [e_v4]; exact hR_m0.a (n := 68) _ (qr_504 hT k_x0) (by decide)
    refine qn_iald hX (pc := 40) 68 dX5_partAt_40 (qr_504 hT k_x0) (by decide) b_v4 e_v4 ?_
    exact qn_iret hX (pc := 41) dX5_partAt_41 hE hR_m0 r_v4 (Option.some.inj h)
  have h := ite_f h c3
  by_cases c5 : x2 = 3
  · have h := ite_t h c5
    refine qn_tswIn hX (pc := 1) r_x2 42 dX5_partAt_1 3 c5 (by decide) rfl (by decide) ?_
    refine qn_aload_n hX (pc := 42) dX5_partAt_42 0 rfl rfl ?_
    refine qn_getR hX (pc := 43) fd_X5_partAt_30 dX5_partAt_43 k_x0 ?_
    refine qn_iload_n hX (pc := 46) dX5_partAt_46 1 rfl rfl ?_
    obtain ⟨v6, e_v6, b_v6, h⟩ := rdA_e h
    have r_v6 : in32 v6 := by rw [e_v6]; exact hR_m0.a (n := 68) _ (qr_505 hT k_x0) (by decide)
    refine qn_iald hX (pc := 47) 68 dX5_partAt_47 (qr_505 hT k_x0) (by decide) b_v6 e_v6 ?_
    exact qn_iret hX (pc := 48) dX5_partAt_48 hE hR_m0 r_v6 (Option.some.inj h)
  have h := ite_f h c5
  refine qn_tswOut hX (pc := 1) r_x2 49 dX5_partAt_1 (by omega) (by decide) ?_
  refine qn_aload_n hX (pc := 49) dX5_partAt_49 0 rfl rfl ?_
  refine qn_getR hX (pc := 50) fd_X5_partAt_24 dX5_partAt_50 k_x0 ?_
  refine qn_iload_n hX (pc := 53) dX5_partAt_53 1 rfl rfl ?_
  obtain ⟨v7, e_v7, b_v7, h⟩ := rdA_e h
  have r_v7 : in32 v7 := by rw [e_v7]; exact hR_m0.a (n := 68) _ (qr_503 hT k_x0) (by decide)
  refine qn_iald hX (pc := 54) 68 dX5_partAt_54 (qr_503 hT k_x0) (by decide) b_v7 e_v7 ?_
  refine qn_aload_n hX (pc := 55) dX5_partAt_55 0 rfl rfl ?_
  refine qn_getR hX (pc := 56) fd_X5_partAt_27 dX5_partAt_56 k_x0 ?_
  refine qn_iload_n hX (pc := 59) dX5_partAt_59 1 rfl rfl ?_
  obtain ⟨v8, e_v8, b_v8, h⟩ := rdA_e h
  have r_v8 : in32 v8 := by rw [e_v8]; exact hR_m0.a (n := 68) _ (qr_504 hT k_x0) (by decide)
  refine qn_iald hX (pc := 60) 68 dX5_partAt_60 (qr_504 hT k_x0) (by decide) b_v8 e_v8 ?_
  obtain ⟨v9, e_v9, r_v9, h⟩ := ckI_e h
  refine qn_iadd hX (pc := 61) dX5_partAt_61 e_v9 ?_
  refine qn_aload_n hX (pc := 62) dX5_partAt_62 0 rfl rfl ?_
  refine qn_getR hX (pc := 63) fd_X5_partAt_30 dX5_partAt_63 k_x0 ?_
  refine qn_iload_n hX (pc := 66) dX5_partAt_66 1 rfl rfl ?_
  obtain ⟨v10, e_v10, b_v10, h⟩ := rdA_e h
  have r_v10 : in32 v10 := by rw [e_v10]; exact hR_m0.a (n := 68) _ (qr_505 hT k_x0) (by decide)
  refine qn_iald hX (pc := 67) 68 dX5_partAt_67 (qr_505 hT k_x0) (by decide) b_v10 e_v10 ?_
  obtain ⟨v11, e_v11, r_v11, h⟩ := ckI_e h
  refine qn_iadd hX (pc := 68) dX5_partAt_68 e_v11 ?_
  exact qn_iret hX (pc := 69) dX5_partAt_69 hE hR_m0 r_v11 (Option.some.inj h)
theorem k_X5_partAt (l : Launch) {G : qG} (hT : qT G) {N : Nat} {x0 : Nat} {x1 : Int} {x2 : Int} (k_x0 : gK G x0 = 6) (r_x1 : in32 x1) (r_x2 : in32 x2) {m0 : qM} {r : Int} {nu : qM} (h : f_X5_partAt N G x0 x1 x2 m0 = some (r, nu)) : qC l yX5_partAt wsX5_partAt 0 0 G [.ref x0, .int (iZ x1), .int (iZ x2)] m0 (some (.int (iZ r))) (in32 r) nu := by
  refine qn_start (hy := by decide) hT (hw := rfl) (hn := Nat.le_of_ble_eq_true rfl) ?_
  intro X h1 h2 h3 h4 hX hR
  subst h4
  exact w_X5_partAt hX ⟨h1, fun q => h2 ▸ q, h3⟩ k_x0 r_x1 r_x2 hR h
theorem dd_X5_partAt : yX5_partAt.cls = RX5 ∧ yX5_partAt.cls ≠ "java/lang/invoke/MethodHandle" ∧ yX5_partAt.cls ≠ "java/lang/invoke/VarHandle" ∧ (parseMethodDescriptor yX5_partAt.desc).map (fun d => d.parameters.length) = some 2 := by decide +kernel
-- ProRataMarket$Sharing.partOf
theorem hi_X5_partOf_5 : ∀ w ∈ wsX50, w ∈ wsX5_partOf := fun w h => List.mem_cons_of_mem _ (List.mem_append_right _ h)
theorem fd_X5_partOf_33 : qFd RX5 wsX5_partOf 33 5 6 0 506 := ⟨RX5, TX5, 8, _, rfl, hi_X5_partOf_5, by decide, (by decide +kernel : Cond.fieldLink RX5 33 (TX5 6).1 (TX5 6).2.1 (TX5 6).2.2.1 ∈ wsX5_partOf), rfl, rfl, by decide⟩
theorem fd_X5_partOf_13 : qFd RX5 wsX5_partOf 13 5 0 1 500 := ⟨RX5, TX5, 8, _, rfl, hi_X5_partOf_5, by decide, (by decide +kernel : Cond.fieldLink RX5 13 (TX5 0).1 (TX5 0).2.1 (TX5 0).2.2.1 ∈ wsX5_partOf), rfl, rfl, by decide⟩
set_option maxHeartbeats 4000000 in
set_option maxRecDepth 20000 in
theorem w_X5_partOf_37 {X : qB} {N : Nat} (hX : qOk X cX5_partOf RX5 5 (some .int) wsX5_partOf 1 22) {r : Int} {nu : qM} (hE : xr X = some (.int (iZ r)) ∧ (in32 r → xΦ X) ∧ xμ X = nu) {k5 : (Nat → Nat → Int → Int → Int → qM → Option (Int × qM))} (hk5 : ∀ (x0 : Nat) (x1 : Nat) (x2 : Int) (x3 : Int) (x4 : Int) (m0 : qM), gK (xG X) x0 = 6 → gK (xG X) x1 = 5 → in32 x2 → in32 x3 → in32 x4 → qR (xG X) m0 → k5 x0 x1 x2 x3 x4 m0 = some (r, nu) → qN X 5 5 [(0, .ref x0), (1, .ref x1), (2, .int (iZ x2)), (3, .int (iZ x3)), (4, .int (iZ x4))] [] m0)
    {x0 : Nat} {x1 : Nat} {x2 : Int} {x4 : Int} {s0 : Int} {s1 : Int} (k_x0 : gK (xG X) x0 = 6) (k_x1 : gK (xG X) x1 = 5) (r_x2 : in32 x2) (r_x4 : in32 x4) (r_s0 : in32 s0) (r_s1 : in32 s1) {m0 : qM} (hR_m0 : qR (xG X) m0)
    (h : f_X5_partOf_37 N (xG X) k5 x0 x1 x2 x4 s0 s1 m0 = some (r, nu)) : qN X 5 37 [(0, .ref x0), (1, .ref x1), (2, .int (iZ x2)), (4, .int (iZ x4))] [.int (iZ s1), .int (iZ s0)] m0 := by
  have hT := hX.T
  unfold f_X5_partOf_37 at h
  obtain ⟨v1, e_v1, r_v1, h⟩ := ckI_e h
  refine qn_iadd hX (pc := 37) dX5_partOf_37 e_v1 ?_
  refine qn_istore_n hX (pc := 38) (ls' := [(3, .int (iZ v1)), (0, .ref x0), (1, .ref x1), (2, .int (iZ x2)), (4, .int (iZ x4))]) dX5_partOf_38 rfl rfl rfl ?_
  obtain ⟨v2, e_v2, r_v2, h⟩ := ckI_e h
  refine qn_iinc hX (pc := 39) (ls' := [(4, .int (iZ v2)), (3, .int (iZ v1)), (0, .ref x0), (1, .ref x1), (2, .int (iZ x2))]) dX5_partOf_39 4 rfl e_v2 rfl rfl ?_
  refine qn_goto hX (pc := 42) 5 dX5_partOf_42 (by decide) ?_
  refine qn_sub (ls' := [(0, .ref x0), (1, .ref x1), (2, .int (iZ x2)), (3, .int (iZ v1)), (4, .int (iZ v2))]) [2, 3, 4, 1, 0] rfl ?_
  exact hk5 x0 x1 x2 v1 v2 m0 k_x0 k_x1 r_x2 r_v1 r_v2 hR_m0 h
set_option maxHeartbeats 4000000 in
set_option maxRecDepth 20000 in
theorem w_X5_partOf_5 {X : qB} {N : Nat} (hX : qOk X cX5_partOf RX5 5 (some .int) wsX5_partOf 1 22) {r : Int} {nu : qM} (hE : xr X = some (.int (iZ r)) ∧ (in32 r → xΦ X) ∧ xμ X = nu) {k5 : (Nat → Nat → Int → Int → Int → qM → Option (Int × qM))} (hk5 : ∀ (x0 : Nat) (x1 : Nat) (x2 : Int) (x3 : Int) (x4 : Int) (m0 : qM), gK (xG X) x0 = 6 → gK (xG X) x1 = 5 → in32 x2 → in32 x3 → in32 x4 → qR (xG X) m0 → k5 x0 x1 x2 x3 x4 m0 = some (r, nu) → qN X 5 5 [(0, .ref x0), (1, .ref x1), (2, .int (iZ x2)), (3, .int (iZ x3)), (4, .int (iZ x4))] [] m0)
    {x0 : Nat} {x1 : Nat} {x2 : Int} {x3 : Int} {x4 : Int} (k_x0 : gK (xG X) x0 = 6) (k_x1 : gK (xG X) x1 = 5) (r_x2 : in32 x2) (r_x3 : in32 x3) (r_x4 : in32 x4) {m0 : qM} (hR_m0 : qR (xG X) m0)
    (h : f_X5_partOf_5 N (xG X) k5 x0 x1 x2 x3 x4 m0 = some (r, nu)) : qN X 5 5 [(0, .ref x0), (1, .ref x1), (2, .int (iZ x2)), (3, .int (iZ x3)), (4, .int (iZ x4))] [] m0 := by
  have hT := hX.T
  unfold f_X5_partOf_5 at h
  refine qn_iload hX (pc := 5) dX5_partOf_5 4 rfl ?_
  refine qn_aload_n hX (pc := 7) dX5_partOf_7 0 rfl rfl ?_
  refine qn_getI hX (pc := 8) fd_X5_partOf_33 dX5_partOf_8 k_x0 ?_
  refine qn_icmp_ge hX (pc := 11) r_x4 (hR_m0.i 506 _ rfl) 45 dX5_partOf_11 (by decide) (fun c1 => ?_) (fun c1 => ?_)
  · have h := ite_f h c1
    refine qn_iload_n hX (pc := 45) dX5_partOf_45 3 rfl rfl ?_
    exact qn_iret hX (pc := 46) dX5_partOf_46 hE hR_m0 r_x3 (Option.some.inj h)
  · have h := ite_t h c1
    refine qn_iload_n hX (pc := 14) dX5_partOf_14 3 rfl rfl ?_
    refine qn_aload_n hX (pc := 15) dX5_partOf_15 0 rfl rfl ?_
    refine qn_getR hX (pc := 16) fd_X5_partOf_13 dX5_partOf_16 k_x0 ?_
    refine qn_iload hX (pc := 19) dX5_partOf_19 4 rfl ?_
    obtain ⟨o2, e_o2, b_o2, k_o2, h⟩ := rdQ_e h
    refine qn_aaldO hX (pc := 21) 68 dX5_partOf_21 (qr_500 hT k_x0) (by decide) b_o2 e_o2 ?_
    refine qn_aload_n hX (pc := 22) dX5_partOf_22 1 rfl rfl ?_
    refine qn_acmp_ne hX (pc := 23) 36 dX5_partOf_23 (by decide) (fun c3 => ?_) (fun c3 => ?_)
    · have h := ite_f h c3
      refine qn_iconst hX (pc := 36) dX5_partOf_36 ?_
      refine qn_sub (ls' := [(0, .ref x0), (1, .ref x1), (2, .int (iZ x2)), (4, .int (iZ x4))]) [0, 1, 2, 4] rfl ?_
      exact w_X5_partOf_37 hX hE hk5 k_x0 k_x1 r_x2 r_x4 r_x3 (by decide) hR_m0 h
    · have h := ite_t h c3
      refine qn_aload_n hX (pc := 26) dX5_partOf_26 0 rfl rfl ?_
      refine qn_iload hX (pc := 27) dX5_partOf_27 4 rfl ?_
      refine qn_iload_n hX (pc := 29) dX5_partOf_29 2 rfl rfl ?_
      obtain ⟨v5, m4, e_m4, h⟩ := kb2_e h
      refine qn_callVi hX (pc := 30) [.int (iZ x4), .int (iZ x2)] [.int (iZ x2), .int (iZ x4)] 2 dX5_partOf_30 gX5_partOf_X5_partAt rfl dd_X5_partAt ⟨rfl, rfl⟩ rfl rfl (by decide) k_x0 rfl rfl hR_m0 (k_X5_partAt (xl X) hT k_x0 r_x4 r_x2 e_m4) (fun r_v5 hR_m4 => ?_)
      refine qn_goto hX (pc := 33) 37 dX5_partOf_33 (by decide) ?_
      refine qn_sub (ls' := [(0, .ref x0), (1, .ref x1), (2, .int (iZ x2)), (4, .int (iZ x4))]) [0, 1, 2, 4] rfl ?_
      exact w_X5_partOf_37 hX hE hk5 k_x0 k_x1 r_x2 r_x4 r_x3 r_v5 hR_m4 h
set_option maxHeartbeats 4000000 in
set_option maxRecDepth 20000 in
theorem w_X5_partOf_L5 {X : qB} {N : Nat} (hX : qOk X cX5_partOf RX5 5 (some .int) wsX5_partOf 1 22) {r : Int} {nu : qM} (hE : xr X = some (.int (iZ r)) ∧ (in32 r → xΦ X) ∧ xμ X = nu) 
    {x0 : Nat} {x1 : Nat} {x2 : Int} {x3 : Int} {x4 : Int} (k_x0 : gK (xG X) x0 = 6) (k_x1 : gK (xG X) x1 = 5) (r_x2 : in32 x2) (r_x3 : in32 x3) (r_x4 : in32 x4) {m0 : qM} (hR_m0 : qR (xG X) m0)
    (h : f_X5_partOf_L5 N (xG X)  x0 x1 x2 x3 x4 m0 = some (r, nu)) : qN X 5 5 [(0, .ref x0), (1, .ref x1), (2, .int (iZ x2)), (3, .int (iZ x3)), (4, .int (iZ x4))] [] m0 := by
  unfold f_X5_partOf_L5 at h
  exact qLoop_w (σ := Nat × Nat × Int × Int × Int × qM) (P := fun p => gK (xG X) p.1 = 6 ∧ gK (xG X) p.2.1 = 5 ∧ in32 p.2.2.1 ∧ in32 p.2.2.2.1 ∧ in32 p.2.2.2.2.1 ∧ qR (xG X) p.2.2.2.2.2) (Q := fun p => qN X 5 5 [(0, .ref p.1), (1, .ref p.2.1), (2, .int (iZ p.2.2.1)), (3, .int (iZ p.2.2.2.1)), (4, .int (iZ p.2.2.2.2.1))] [] p.2.2.2.2.2) (fun k hrec p hp hh => w_X5_partOf_5 hX hE (fun x0 x1 x2 x3 x4 m0 q0 q1 q2 q3 q4 hRm hh => hrec (x0, x1, x2, x3, x4, m0) ⟨q0, q1, q2, q3, q4, hRm⟩ hh) hp.1 hp.2.1 hp.2.2.1 hp.2.2.2.1 hp.2.2.2.2.1 hp.2.2.2.2.2 hh) N (x0, x1, x2, x3, x4, m0) ⟨k_x0, k_x1, r_x2, r_x3, r_x4, hR_m0⟩ h
set_option maxHeartbeats 4000000 in
set_option maxRecDepth 20000 in
theorem w_X5_partOf {X : qB} {N : Nat} (hX : qOk X cX5_partOf RX5 5 (some .int) wsX5_partOf 1 22) {r : Int} {nu : qM} (hE : xr X = some (.int (iZ r)) ∧ (in32 r → xΦ X) ∧ xμ X = nu) 
    {x0 : Nat} {x1 : Nat} {x2 : Int} (k_x0 : gK (xG X) x0 = 6) (k_x1 : gK (xG X) x1 = 5) (r_x2 : in32 x2) {m0 : qM} (hR_m0 : qR (xG X) m0)
    (h : f_X5_partOf N (xG X)  x0 x1 x2 m0 = some (r, nu)) : qN X 5 0 [(0, .ref x0), (1, .ref x1), (2, .int (iZ x2))] [] m0 := by
  have hT := hX.T
  unfold f_X5_partOf at h
  refine qn_iconst hX (pc := 0) dX5_partOf_0 ?_
  refine qn_istore_n hX (pc := 1) (ls' := [(3, .int (iZ 0)), (0, .ref x0), (1, .ref x1), (2, .int (iZ x2))]) dX5_partOf_1 rfl rfl rfl ?_
  refine qn_iconst hX (pc := 2) dX5_partOf_2 ?_
  refine qn_istore hX (pc := 3) (ls' := [(4, .int (iZ 0)), (3, .int (iZ 0)), (0, .ref x0), (1, .ref x1), (2, .int (iZ x2))]) dX5_partOf_3 rfl rfl ?_
  refine qn_sub (ls' := [(0, .ref x0), (1, .ref x1), (2, .int (iZ x2)), (3, .int (iZ 0)), (4, .int (iZ 0))]) [2, 3, 4, 1, 0] rfl ?_
  exact w_X5_partOf_L5 hX hE  k_x0 k_x1 r_x2 (by decide) (by decide) hR_m0 h
theorem k_X5_partOf (l : Launch) {G : qG} (hT : qT G) {N : Nat} {x0 : Nat} {x1 : Nat} {x2 : Int} (k_x0 : gK G x0 = 6) (k_x1 : gK G x1 = 5) (r_x2 : in32 x2) {m0 : qM} {r : Int} {nu : qM} (h : f_X5_partOf N G x0 x1 x2 m0 = some (r, nu)) : qC l yX5_partOf wsX5_partOf 1 22 G [.ref x0, .ref x1, .int (iZ x2)] m0 (some (.int (iZ r))) (in32 r) nu := by
  refine qn_start (hy := by decide) hT (hw := rfl) (hn := Nat.le_of_ble_eq_true rfl) ?_
  intro X h1 h2 h3 h4 hX hR
  subst h4
  exact w_X5_partOf hX ⟨h1, fun q => h2 ▸ q, h3⟩ k_x0 k_x1 r_x2 hR h
theorem dd_X5_partOf : yX5_partOf.cls = RX5 ∧ yX5_partOf.cls ≠ "java/lang/invoke/MethodHandle" ∧ yX5_partOf.cls ≠ "java/lang/invoke/VarHandle" ∧ (parseMethodDescriptor yX5_partOf.desc).map (fun d => d.parameters.length) = some 2 := by decide +kernel
-- ProRataMarket.count
theorem hi_X7_count_7 : ∀ w ∈ wsX70, w ∈ wsX7_count := fun w h => List.mem_cons_of_mem _ (List.mem_append_left _ (List.mem_append_left _ (List.mem_append_left _ (List.mem_append_left _ (List.mem_append_right _ h)))))
theorem fd_X7_count_10 : qFd RX7 wsX7_count 10 7 0 1 700 := ⟨RX7, TX7, 3, _, rfl, hi_X7_count_7, by decide, (by decide +kernel : Cond.fieldLink RX7 10 (TX7 0).1 (TX7 0).2.1 (TX7 0).2.2.1 ∈ wsX7_count), rfl, rfl, by decide⟩
theorem hi_X7_count_2 : ∀ w ∈ wsX20, w ∈ wsX7_count := fun w h => List.mem_cons_of_mem _ (List.mem_append_left _ (List.mem_append_left _ (List.mem_append_left _ (List.mem_append_right _ h))))
theorem fd_X7_count_105 : qFd RX7 wsX7_count 105 2 0 1 200 := ⟨RX2, TX2, 12, _, rfl, hi_X7_count_2, by decide, (by decide +kernel : Cond.fieldLink RX7 105 (TX2 0).1 (TX2 0).2.1 (TX2 0).2.2.1 ∈ wsX7_count), rfl, rfl, by decide⟩
theorem hi_X7_count_0 : ∀ w ∈ wsX00, w ∈ wsX7_count := fun w h => List.mem_cons_of_mem _ (List.mem_append_left _ (List.mem_append_left _ (List.mem_append_right _ h)))
theorem fd_X7_count_280 : qFd RX7 wsX7_count 280 0 1 0 1 := ⟨RX0, TX0, 4, _, rfl, hi_X7_count_0, by decide, (by decide +kernel : Cond.fieldLink RX7 280 (TX0 1).1 (TX0 1).2.1 (TX0 1).2.2.1 ∈ wsX7_count), rfl, rfl, by decide⟩
theorem fd_X7_count_131 : qFd RX7 wsX7_count 131 2 7 0 207 := ⟨RX2, TX2, 12, _, rfl, hi_X7_count_2, by decide, (by decide +kernel : Cond.fieldLink RX7 131 (TX2 7).1 (TX2 7).2.1 (TX2 7).2.2.1 ∈ wsX7_count), rfl, rfl, by decide⟩
theorem fd_X7_count_224 : qFd RX7 wsX7_count 224 2 1 1 201 := ⟨RX2, TX2, 12, _, rfl, hi_X7_count_2, by decide, (by decide +kernel : Cond.fieldLink RX7 224 (TX2 1).1 (TX2 1).2.1 (TX2 1).2.2.1 ∈ wsX7_count), rfl, rfl, by decide⟩
theorem hi_X7_count_3 : ∀ w ∈ wsX30, w ∈ wsX7_count := fun w h => List.mem_cons_of_mem _ (List.mem_append_left _ (List.mem_append_right _ h))
theorem fd_X7_count_237 : qFd RX7 wsX7_count 237 3 3 0 303 := ⟨RX3, TX3, 7, _, rfl, hi_X7_count_3, by decide, (by decide +kernel : Cond.fieldLink RX7 237 (TX3 3).1 (TX3 3).2.1 (TX3 3).2.2.1 ∈ wsX7_count), rfl, rfl, by decide⟩
theorem fd_X7_count_127 : qFd RX7 wsX7_count 127 2 5 0 205 := ⟨RX2, TX2, 12, _, rfl, hi_X7_count_2, by decide, (by decide +kernel : Cond.fieldLink RX7 127 (TX2 5).1 (TX2 5).2.1 (TX2 5).2.2.1 ∈ wsX7_count), rfl, rfl, by decide⟩
theorem fd_X7_count_129 : qFd RX7 wsX7_count 129 2 6 0 206 := ⟨RX2, TX2, 12, _, rfl, hi_X7_count_2, by decide, (by decide +kernel : Cond.fieldLink RX7 129 (TX2 6).1 (TX2 6).2.1 (TX2 6).2.2.1 ∈ wsX7_count), rfl, rfl, by decide⟩
theorem fd_X7_count_283 : qFd RX7 wsX7_count 283 2 8 0 208 := ⟨RX2, TX2, 12, _, rfl, hi_X7_count_2, by decide, (by decide +kernel : Cond.fieldLink RX7 283 (TX2 8).1 (TX2 8).2.1 (TX2 8).2.2.1 ∈ wsX7_count), rfl, rfl, by decide⟩
theorem fd_X7_count_22 : qFd RX7 wsX7_count 22 7 2 1 702 := ⟨RX7, TX7, 3, _, rfl, hi_X7_count_7, by decide, (by decide +kernel : Cond.fieldLink RX7 22 (TX7 2).1 (TX7 2).2.1 (TX7 2).2.2.1 ∈ wsX7_count), rfl, rfl, by decide⟩
theorem hi_X7_count_6 : ∀ w ∈ wsX60, w ∈ wsX7_count := fun w h => List.mem_cons_of_mem _ (List.mem_append_right _ h)
theorem fd_X7_count_26 : qFd RX7 wsX7_count 26 6 1 0 601 := ⟨RX6, TX6, 12, _, rfl, hi_X7_count_6, by decide, (by decide +kernel : Cond.fieldLink RX7 26 (TX6 1).1 (TX6 1).2.1 (TX6 1).2.2.1 ∈ wsX7_count), rfl, rfl, by decide⟩
theorem fd_X7_count_269 : qFd RX7 wsX7_count 269 3 1 0 301 := ⟨RX3, TX3, 7, _, rfl, hi_X7_count_3, by decide, (by decide +kernel : Cond.fieldLink RX7 269 (TX3 1).1 (TX3 1).2.1 (TX3 1).2.2.1 ∈ wsX7_count), rfl, rfl, by decide⟩
theorem fd_X7_count_228 : qFd RX7 wsX7_count 228 3 4 0 304 := ⟨RX3, TX3, 7, _, rfl, hi_X7_count_3, by decide, (by decide +kernel : Cond.fieldLink RX7 228 (TX3 4).1 (TX3 4).2.1 (TX3 4).2.2.1 ∈ wsX7_count), rfl, rfl, by decide⟩
theorem fd_X7_count_286 : qFd RX7 wsX7_count 286 2 9 0 209 := ⟨RX2, TX2, 12, _, rfl, hi_X7_count_2, by decide, (by decide +kernel : Cond.fieldLink RX7 286 (TX2 9).1 (TX2 9).2.1 (TX2 9).2.2.1 ∈ wsX7_count), rfl, rfl, by decide⟩
theorem fd_X7_count_243 : qFd RX7 wsX7_count 243 2 11 0 211 := ⟨RX2, TX2, 12, _, rfl, hi_X7_count_2, by decide, (by decide +kernel : Cond.fieldLink RX7 243 (TX2 11).1 (TX2 11).2.1 (TX2 11).2.2.1 ∈ wsX7_count), rfl, rfl, by decide⟩
set_option maxHeartbeats 4000000 in
set_option maxRecDepth 20000 in
theorem w_X7_count {X : qB} {N : Nat} (hX : qOk X cX7_count RX7 2 (some .int) wsX7_count 0 0) {r : Int} {nu : qM} (hE : xr X = some (.int (iZ r)) ∧ (in32 r → xΦ X) ∧ xμ X = nu) 
    {x0 : Nat} {x1 : Int} (k_x0 : gK (xG X) x0 = 8) (r_x1 : in32 x1) {m0 : qM} (hR_m0 : qR (xG X) m0)
    (h : f_X7_count N (xG X)  x0 x1 m0 = some (r, nu)) : qN X 2 0 [(0, .ref x0), (1, .int (iZ x1))] [] m0 := by
  have hT := hX.T
  unfold f_X7_count at h
  refine qn_iload_n hX (pc := 0) dX7_count_0 1 rfl rfl ?_
  by_cases c1 : x1 = 0
  · have h := ite_t h c1
    refine qn_tswIn hX (pc := 1) r_x1 60 dX7_count_1 0 c1 (by decide) rfl (by decide) ?_
    refine qn_aload_n hX (pc := 60) dX7_count_60 0 rfl rfl ?_
    refine qn_getR hX (pc := 61) fd_X7_count_10 dX7_count_61 k_x0 ?_
    refine qn_getR hX (pc := 64) fd_X7_count_105 dX7_count_64 (qr_700 hT k_x0) ?_
    refine qn_getI hX (pc := 67) fd_X7_count_280 dX7_count_67 (qr_200 hT (qr_700 hT k_x0)) ?_
    exact qn_iret hX (pc := 70) dX7_count_70 hE hR_m0 (hR_m0.i 1 _ rfl) (Option.some.inj h)
  have h := ite_f h c1
  by_cases c2 : x1 = 1
  · have h := ite_t h c2
    refine qn_tswIn hX (pc := 1) r_x1 71 dX7_count_1 1 c2 (by decide) rfl (by decide) ?_
    refine qn_aload_n hX (pc := 71) dX7_count_71 0 rfl rfl ?_
    refine qn_getR hX (pc := 72) fd_X7_count_10 dX7_count_72 k_x0 ?_
    refine qn_getI hX (pc := 75) fd_X7_count_131 dX7_count_75 (qr_700 hT k_x0) ?_
    refine qn_if_eq hX (pc := 78) ((hR_m0.zz 207 _ rfl).i) 85 dX7_count_78 (by decide) (fun c3 => ?_) (fun c3 => ?_)
    · have h := ite_t h c3
      refine qn_iconst hX (pc := 85) dX7_count_85 ?_
      exact qn_iret hX (pc := 86) dX7_count_86 hE hR_m0 (by decide) (Option.some.inj h)
    · have h := ite_f h c3
      refine qn_iconst hX (pc := 81) dX7_count_81 ?_
      refine qn_goto hX (pc := 82) 86 dX7_count_82 (by decide) ?_
      exact qn_iret hX (pc := 86) dX7_count_86 hE hR_m0 (by decide) (Option.some.inj h)
  have h := ite_f h c2
  by_cases c4 : x1 = 2
  · have h := ite_t h c4
    refine qn_tswIn hX (pc := 1) r_x1 87 dX7_count_1 2 c4 (by decide) rfl (by decide) ?_
    refine qn_aload_n hX (pc := 87) dX7_count_87 0 rfl rfl ?_
    refine qn_getR hX (pc := 88) fd_X7_count_10 dX7_count_88 k_x0 ?_
    refine qn_getR hX (pc := 91) fd_X7_count_224 dX7_count_91 (qr_700 hT k_x0) ?_
    refine qn_getI hX (pc := 94) fd_X7_count_237 dX7_count_94 (qr_201 hT (qr_700 hT k_x0)) ?_
    exact qn_iret hX (pc := 97) dX7_count_97 hE hR_m0 (hR_m0.i 303 _ rfl) (Option.some.inj h)
  have h := ite_f h c4
  by_cases c5 : x1 = 3
  · have h := ite_t h c5
    refine qn_tswIn hX (pc := 1) r_x1 98 dX7_count_1 3 c5 (by decide) rfl (by decide) ?_
    refine qn_aload_n hX (pc := 98) dX7_count_98 0 rfl rfl ?_
    refine qn_getR hX (pc := 99) fd_X7_count_10 dX7_count_99 k_x0 ?_
    refine qn_getI hX (pc := 102) fd_X7_count_127 dX7_count_102 (qr_700 hT k_x0) ?_
    exact qn_iret hX (pc := 105) dX7_count_105 hE hR_m0 (hR_m0.i 205 _ rfl) (Option.some.inj h)
  have h := ite_f h c5
  by_cases c6 : x1 = 4
  · have h := ite_t h c6
    refine qn_tswIn hX (pc := 1) r_x1 106 dX7_count_1 4 c6 (by decide) rfl (by decide) ?_
    refine qn_aload_n hX (pc := 106) dX7_count_106 0 rfl rfl ?_
    refine qn_getR hX (pc := 107) fd_X7_count_10 dX7_count_107 k_x0 ?_
    refine qn_getI hX (pc := 110) fd_X7_count_129 dX7_count_110 (qr_700 hT k_x0) ?_
    exact qn_iret hX (pc := 113) dX7_count_113 hE hR_m0 (hR_m0.i 206 _ rfl) (Option.some.inj h)
  have h := ite_f h c6
  by_cases c7 : x1 = 5
  · have h := ite_t h c7
    refine qn_tswIn hX (pc := 1) r_x1 114 dX7_count_1 5 c7 (by decide) rfl (by decide) ?_
    refine qn_aload_n hX (pc := 114) dX7_count_114 0 rfl rfl ?_
    refine qn_getR hX (pc := 115) fd_X7_count_10 dX7_count_115 k_x0 ?_
    refine qn_getI hX (pc := 118) fd_X7_count_283 dX7_count_118 (qr_700 hT k_x0) ?_
    exact qn_iret hX (pc := 121) dX7_count_121 hE hR_m0 (hR_m0.i 208 _ rfl) (Option.some.inj h)
  have h := ite_f h c7
  by_cases c8 : x1 = 6
  · have h := ite_t h c8
    refine qn_tswIn hX (pc := 1) r_x1 122 dX7_count_1 6 c8 (by decide) rfl (by decide) ?_
    refine qn_aload_n hX (pc := 122) dX7_count_122 0 rfl rfl ?_
    refine qn_getR hX (pc := 123) fd_X7_count_22 dX7_count_123 k_x0 ?_
    refine qn_getI hX (pc := 126) fd_X7_count_26 dX7_count_126 (qr_702 hT k_x0) ?_
    exact qn_iret hX (pc := 129) dX7_count_129 hE hR_m0 (hR_m0.i 601 _ rfl) (Option.some.inj h)
  have h := ite_f h c8
  by_cases c9 : x1 = 7
  · have h := ite_t h c9
    refine qn_tswIn hX (pc := 1) r_x1 130 dX7_count_1 7 c9 (by decide) rfl (by decide) ?_
    refine qn_aload_n hX (pc := 130) dX7_count_130 0 rfl rfl ?_
    refine qn_getR hX (pc := 131) fd_X7_count_10 dX7_count_131 k_x0 ?_
    refine qn_getR hX (pc := 134) fd_X7_count_224 dX7_count_134 (qr_700 hT k_x0) ?_
    refine qn_getI hX (pc := 137) fd_X7_count_269 dX7_count_137 (qr_201 hT (qr_700 hT k_x0)) ?_
    exact qn_iret hX (pc := 140) dX7_count_140 hE hR_m0 (hR_m0.i 301 _ rfl) (Option.some.inj h)
  have h := ite_f h c9
  by_cases c10 : x1 = 8
  · have h := ite_t h c10
    refine qn_tswIn hX (pc := 1) r_x1 141 dX7_count_1 8 c10 (by decide) rfl (by decide) ?_
    refine qn_aload_n hX (pc := 141) dX7_count_141 0 rfl rfl ?_
    refine qn_getR hX (pc := 142) fd_X7_count_10 dX7_count_142 k_x0 ?_
    refine qn_getR hX (pc := 145) fd_X7_count_224 dX7_count_145 (qr_700 hT k_x0) ?_
    refine qn_getI hX (pc := 148) fd_X7_count_228 dX7_count_148 (qr_201 hT (qr_700 hT k_x0)) ?_
    exact qn_iret hX (pc := 151) dX7_count_151 hE hR_m0 (hR_m0.i 304 _ rfl) (Option.some.inj h)
  have h := ite_f h c10
  by_cases c11 : x1 = 9
  · have h := ite_t h c11
    refine qn_tswIn hX (pc := 1) r_x1 152 dX7_count_1 9 c11 (by decide) rfl (by decide) ?_
    refine qn_aload_n hX (pc := 152) dX7_count_152 0 rfl rfl ?_
    refine qn_getR hX (pc := 153) fd_X7_count_10 dX7_count_153 k_x0 ?_
    refine qn_getI hX (pc := 156) fd_X7_count_286 dX7_count_156 (qr_700 hT k_x0) ?_
    exact qn_iret hX (pc := 159) dX7_count_159 hE hR_m0 (hR_m0.i 209 _ rfl) (Option.some.inj h)
  have h := ite_f h c11
  by_cases c12 : x1 = 10
  · have h := ite_t h c12
    refine qn_tswIn hX (pc := 1) r_x1 160 dX7_count_1 10 c12 (by decide) rfl (by decide) ?_
    refine qn_aload_n hX (pc := 160) dX7_count_160 0 rfl rfl ?_
    refine qn_getR hX (pc := 161) fd_X7_count_10 dX7_count_161 k_x0 ?_
    refine qn_getI hX (pc := 164) fd_X7_count_243 dX7_count_164 (qr_700 hT k_x0) ?_
    exact qn_iret hX (pc := 167) dX7_count_167 hE hR_m0 (hR_m0.i 211 _ rfl) (Option.some.inj h)
  have h := ite_f h c12
  refine qn_tswOut hX (pc := 1) r_x1 168 dX7_count_1 (by omega) (by decide) ?_
  refine qn_iconst hX (pc := 168) dX7_count_168 ?_
  exact qn_iret hX (pc := 169) dX7_count_169 hE hR_m0 (by decide) (Option.some.inj h)
theorem k_X7_count (l : Launch) {G : qG} (hT : qT G) {N : Nat} {x0 : Nat} {x1 : Int} (k_x0 : gK G x0 = 8) (r_x1 : in32 x1) {m0 : qM} {r : Int} {nu : qM} (h : f_X7_count N G x0 x1 m0 = some (r, nu)) : qC l yX7_count wsX7_count 0 0 G [.ref x0, .int (iZ x1)] m0 (some (.int (iZ r))) (in32 r) nu := by
  refine qn_start (hy := by decide) hT (hw := rfl) (hn := Nat.le_of_ble_eq_true rfl) ?_
  intro X h1 h2 h3 h4 hX hR
  subst h4
  exact w_X7_count hX ⟨h1, fun q => h2 ▸ q, h3⟩ k_x0 r_x1 hR h
theorem dd_X7_count : yX7_count.cls = RX7 ∧ yX7_count.cls ≠ "java/lang/invoke/MethodHandle" ∧ yX7_count.cls ≠ "java/lang/invoke/VarHandle" ∧ (parseMethodDescriptor yX7_count.desc).map (fun d => d.parameters.length) = some 1 := by decide +kernel
-- ProRataMarket.grant
theorem hi_X7_grant_7 : ∀ w ∈ wsX70, w ∈ wsX7_grant := fun w h => List.mem_cons_of_mem _ (List.mem_append_left _ (List.mem_append_right _ h))
theorem fd_X7_grant_10 : qFd RX7 wsX7_grant 10 7 0 1 700 := ⟨RX7, TX7, 3, _, rfl, hi_X7_grant_7, by decide, (by decide +kernel : Cond.fieldLink RX7 10 (TX7 0).1 (TX7 0).2.1 (TX7 0).2.2.1 ∈ wsX7_grant), rfl, rfl, by decide⟩
theorem hi_X7_grant_2 : ∀ w ∈ wsX20, w ∈ wsX7_grant := fun w h => List.mem_cons_of_mem _ (List.mem_append_right _ h)
theorem fd_X7_grant_127 : qFd RX7 wsX7_grant 127 2 5 0 205 := ⟨RX2, TX2, 12, _, rfl, hi_X7_grant_2, by decide, (by decide +kernel : Cond.fieldLink RX7 127 (TX2 5).1 (TX2 5).2.1 (TX2 5).2.2.1 ∈ wsX7_grant), rfl, rfl, by decide⟩
theorem fp_X7_grant_127 : qFp RX7 wsX7_grant 127 2 5 0 205 .int := ⟨RX2, TX2, 12, _, tyX2, rfl, hi_X7_grant_2, by decide, (by decide +kernel : Cond.fieldLink RX7 127 (TX2 5).1 (TX2 5).2.1 (TX2 5).2.2.1 ∈ wsX7_grant), rfl, rfl, by decide, tyX2_ok, nmX2, rfl, by decide +kernel⟩
set_option maxHeartbeats 4000000 in
set_option maxRecDepth 20000 in
theorem w_X7_grant {X : qB} {N : Nat} (hX : qOk X cX7_grant RX7 3 (some .int) wsX7_grant 0 0) {r : Int} {nu : qM} (hE : xr X = some (.int (iZ r)) ∧ (in32 r → xΦ X) ∧ xμ X = nu) 
    {x0 : Nat} {x1 : Int} (k_x0 : gK (xG X) x0 = 8) (r_x1 : in32 x1) {m0 : qM} (hR_m0 : qR (xG X) m0)
    (h : f_X7_grant N (xG X)  x0 x1 m0 = some (r, nu)) : qN X 3 0 [(0, .ref x0), (1, .int (iZ x1))] [] m0 := by
  have hT := hX.T
  unfold f_X7_grant at h
  refine qn_iload_n hX (pc := 0) dX7_grant_0 1 rfl rfl ?_
  refine qn_if_lt hX (pc := 1) r_x1 11 dX7_grant_1 (by decide) (fun c1 => ?_) (fun c1 => ?_)
  · have h := ite_t h c1
    refine qn_iconst hX (pc := 11) dX7_grant_11 ?_
    exact qn_iret hX (pc := 12) dX7_grant_12 hE hR_m0 (by decide) (Option.some.inj h)
  · have h := ite_f h c1
    refine qn_iload_n hX (pc := 4) dX7_grant_4 1 rfl rfl ?_
    refine qn_sipush hX (pc := 5) dX7_grant_5 (by decide) ?_
    refine qn_icmp_le hX (pc := 8) r_x1 (by decide) 13 dX7_grant_8 (by decide) (fun c2 => ?_) (fun c2 => ?_)
    · have h := ite_f h c2
      refine qn_aload_n hX (pc := 13) dX7_grant_13 0 rfl rfl ?_
      refine qn_getR hX (pc := 14) fd_X7_grant_10 dX7_grant_14 k_x0 ?_
      refine qn_getI hX (pc := 17) fd_X7_grant_127 dX7_grant_17 (qr_700 hT k_x0) ?_
      refine qn_istore_n hX (pc := 20) (ls' := [(2, .int (iZ (gI m0 205 (gR (xG X) 700 x0)))), (0, .ref x0), (1, .int (iZ x1))]) dX7_grant_20 rfl rfl rfl ?_
      refine qn_aload_n hX (pc := 21) dX7_grant_21 1 rfl rfl ?_
      refine qn_getR hX (pc := 22) fd_X7_grant_10 dX7_grant_22 k_x0 ?_
      refine qn_iload_n hX (pc := 25) dX7_grant_25 2 rfl rfl ?_
      obtain ⟨m3, e_m3, h⟩ := kp_e h
      refine qn_putI hX (pc := 26) fp_X7_grant_127 dX7_grant_26 (qr_700 hT k_x0) hR_m0 r_x1 e_m3 (fun hR_m3 => ?_) 
      refine qn_iload_n hX (pc := 29) dX7_grant_29 0 rfl rfl ?_
      exact qn_iret hX (pc := 30) dX7_grant_30 hE hR_m3 (hR_m0.i 205 _ rfl) (Option.some.inj h)
    · have h := ite_t h c2
      refine qn_iconst hX (pc := 11) dX7_grant_11 ?_
      exact qn_iret hX (pc := 12) dX7_grant_12 hE hR_m0 (by decide) (Option.some.inj h)
theorem k_X7_grant (l : Launch) {G : qG} (hT : qT G) {N : Nat} {x0 : Nat} {x1 : Int} (k_x0 : gK G x0 = 8) (r_x1 : in32 x1) {m0 : qM} {r : Int} {nu : qM} (h : f_X7_grant N G x0 x1 m0 = some (r, nu)) : qC l yX7_grant wsX7_grant 0 0 G [.ref x0, .int (iZ x1)] m0 (some (.int (iZ r))) (in32 r) nu := by
  refine qn_start (hy := by decide) hT (hw := rfl) (hn := Nat.le_of_ble_eq_true rfl) ?_
  intro X h1 h2 h3 h4 hX hR
  subst h4
  exact w_X7_grant hX ⟨h1, fun q => h2 ▸ q, h3⟩ k_x0 r_x1 hR h
theorem dd_X7_grant : yX7_grant.cls = RX7 ∧ yX7_grant.cls ≠ "java/lang/invoke/MethodHandle" ∧ yX7_grant.cls ≠ "java/lang/invoke/VarHandle" ∧ (parseMethodDescriptor yX7_grant.desc).map (fun d => d.parameters.length) = some 1 := by decide +kernel
-- ProRataMarket.isTrader
set_option maxHeartbeats 4000000 in
set_option maxRecDepth 20000 in
theorem w_X7_isTrader {X : qB} {N : Nat} (hX : qOk X cX7_isTrader RX7 1 (some .boolean) wsX7_isTrader 0 0) {r : Int} {nu : qM} (hE : xr X = some (.int (iZ r)) ∧ (in01 r → xΦ X) ∧ xμ X = nu) 
    {x0 : Int} (r_x0 : in32 x0) {m0 : qM} (hR_m0 : qR (xG X) m0)
    (h : f_X7_isTrader N (xG X)  x0 m0 = some (r, nu)) : qN X 1 0 [(0, .int (iZ x0))] [] m0 := by
  have hT := hX.T
  unfold f_X7_isTrader at h
  refine qn_iload_n hX (pc := 0) dX7_isTrader_0 0 rfl rfl ?_
  refine qn_if_lt hX (pc := 1) r_x0 14 dX7_isTrader_1 (by decide) (fun c1 => ?_) (fun c1 => ?_)
  · have h := ite_t h c1
    refine qn_iconst hX (pc := 14) dX7_isTrader_14 ?_
    exact qn_zret hX (pc := 15) dX7_isTrader_15 hE hR_m0 (by decide) (Option.some.inj h)
  · have h := ite_f h c1
    refine qn_iload_n hX (pc := 4) dX7_isTrader_4 0 rfl rfl ?_
    refine qn_bipush hX (pc := 5) dX7_isTrader_5 (by decide) ?_
    refine qn_icmp_ge hX (pc := 7) r_x0 (by decide) 14 dX7_isTrader_7 (by decide) (fun c2 => ?_) (fun c2 => ?_)
    · have h := ite_f h c2
      refine qn_iconst hX (pc := 14) dX7_isTrader_14 ?_
      exact qn_zret hX (pc := 15) dX7_isTrader_15 hE hR_m0 (by decide) (Option.some.inj h)
    · have h := ite_t h c2
      refine qn_iconst hX (pc := 10) dX7_isTrader_10 ?_
      refine qn_goto hX (pc := 11) 15 dX7_isTrader_11 (by decide) ?_
      exact qn_zret hX (pc := 15) dX7_isTrader_15 hE hR_m0 (by decide) (Option.some.inj h)
theorem k_X7_isTrader (l : Launch) {G : qG} (hT : qT G) {N : Nat} {x0 : Int} (r_x0 : in32 x0) {m0 : qM} {r : Int} {nu : qM} (h : f_X7_isTrader N G x0 m0 = some (r, nu)) : qC l yX7_isTrader wsX7_isTrader 0 0 G [.int (iZ x0)] m0 (some (.int (iZ r))) (in01 r) nu := by
  refine qn_start (hy := by decide) hT (hw := rfl) (hn := Nat.le_of_ble_eq_true rfl) ?_
  intro X h1 h2 h3 h4 hX hR
  subst h4
  exact w_X7_isTrader hX ⟨h1, fun q => h2 ▸ q, h3⟩ r_x0 hR h
theorem dd_X7_isTrader : yX7_isTrader.cls ≠ "java/lang/invoke/MethodHandle" ∧ yX7_isTrader.cls ≠ "java/lang/invoke/VarHandle" ∧ (parseMethodDescriptor yX7_isTrader.desc).map (fun d => d.parameters.length) = some 1 := by decide +kernel
-- ProRataMarket.isSide
set_option maxHeartbeats 4000000 in
set_option maxRecDepth 20000 in
theorem w_X7_isSide_9 {X : qB} {N : Nat} (hX : qOk X cX7_isSide RX7 1 (some .boolean) wsX7_isSide 0 0) {r : Int} {nu : qM} (hE : xr X = some (.int (iZ r)) ∧ (in01 r → xΦ X) ∧ xμ X = nu) 
      {m0 : qM} (hR_m0 : qR (xG X) m0)
    (h : f_X7_isSide_9 N (xG X)   m0 = some (r, nu)) : qN X 1 9 [] [] m0 := by
  have hT := hX.T
  unfold f_X7_isSide_9 at h
  refine qn_iconst hX (pc := 9) dX7_isSide_9 ?_
  refine qn_goto hX (pc := 10) 14 dX7_isSide_10 (by decide) ?_
  exact qn_zret hX (pc := 14) dX7_isSide_14 hE hR_m0 (by decide) (Option.some.inj h)
set_option maxHeartbeats 4000000 in
set_option maxRecDepth 20000 in
theorem w_X7_isSide {X : qB} {N : Nat} (hX : qOk X cX7_isSide RX7 1 (some .boolean) wsX7_isSide 0 0) {r : Int} {nu : qM} (hE : xr X = some (.int (iZ r)) ∧ (in01 r → xΦ X) ∧ xμ X = nu) 
    {x0 : Int} (r_x0 : in32 x0) {m0 : qM} (hR_m0 : qR (xG X) m0)
    (h : f_X7_isSide N (xG X)  x0 m0 = some (r, nu)) : qN X 1 0 [(0, .int (iZ x0))] [] m0 := by
  have hT := hX.T
  unfold f_X7_isSide at h
  refine qn_iload_n hX (pc := 0) dX7_isSide_0 0 rfl rfl ?_
  refine qn_if_eq hX (pc := 1) r_x0 9 dX7_isSide_1 (by decide) (fun c1 => ?_) (fun c1 => ?_)
  · have h := ite_t h c1
    refine qn_sub (ls' := []) [] rfl ?_
    exact w_X7_isSide_9 hX hE   hR_m0 h
  · have h := ite_f h c1
    refine qn_iload_n hX (pc := 4) dX7_isSide_4 0 rfl rfl ?_
    refine qn_iconst hX (pc := 5) dX7_isSide_5 ?_
    refine qn_icmp_ne hX (pc := 6) r_x0 (by decide) 13 dX7_isSide_6 (by decide) (fun c2 => ?_) (fun c2 => ?_)
    · have h := ite_f h c2
      refine qn_iconst hX (pc := 13) dX7_isSide_13 ?_
      exact qn_zret hX (pc := 14) dX7_isSide_14 hE hR_m0 (by decide) (Option.some.inj h)
    · have h := ite_t h c2
      refine qn_sub (ls' := []) [] rfl ?_
      exact w_X7_isSide_9 hX hE   hR_m0 h
theorem k_X7_isSide (l : Launch) {G : qG} (hT : qT G) {N : Nat} {x0 : Int} (r_x0 : in32 x0) {m0 : qM} {r : Int} {nu : qM} (h : f_X7_isSide N G x0 m0 = some (r, nu)) : qC l yX7_isSide wsX7_isSide 0 0 G [.int (iZ x0)] m0 (some (.int (iZ r))) (in01 r) nu := by
  refine qn_start (hy := by decide) hT (hw := rfl) (hn := Nat.le_of_ble_eq_true rfl) ?_
  intro X h1 h2 h3 h4 hX hR
  subst h4
  exact w_X7_isSide hX ⟨h1, fun q => h2 ▸ q, h3⟩ r_x0 hR h
theorem dd_X7_isSide : yX7_isSide.cls ≠ "java/lang/invoke/MethodHandle" ∧ yX7_isSide.cls ≠ "java/lang/invoke/VarHandle" ∧ (parseMethodDescriptor yX7_isSide.desc).map (fun d => d.parameters.length) = some 1 := by decide +kernel
