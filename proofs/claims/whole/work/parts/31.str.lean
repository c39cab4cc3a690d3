/-! STRING CONSTANTS: their lengths and bytes; String.length and charAt over them -/
def tLen (i : Nat) : Int := ((qLen.getD i 0 : Nat) : Int)
def tCh (i j : Nat) : Int := ((qByt.getD i []).getD j 0).toInt
/-- a char of a text at a place within it -/
def rdS {α : Type} (t : Nat) (i : Int) (k : Int → Option α) : Option α := if 0 ≤ i ∧ i < tLen t then k (tCh t i.toNat) else none
theorem rdS_e {α : Type} {t : Nat} {i : Int} {k : Int → Option α} {r : α} (h : rdS t i k = some r) : ∃ v, v = tCh t i.toNat ∧ (0 ≤ i ∧ i < tLen t) ∧ k v = some r := by
  unfold rdS at h
  split at h
  · exact ⟨_, rfl, by assumption, h⟩
  · cases h
theorem qLit_all : ∀ t, t < 12 → qLen.getD t 0 = (qByt.getD t []).length ∧ qLen.getD t 0 < 8 ∧ ∀ b ∈ qByt.getD t [], (0 ≤ b.toInt ∧ b.toInt < 128) := by decide +kernel
theorem tLen_in {t : Nat} (h : t < 12) : 0 ≤ tLen t ∧ tLen t < 8 := by
  have := (qLit_all t h).2.1
  unfold tLen
  omega
theorem tLen_32 {t : Nat} (h : t < 12) : in32 (tLen t) := by have := tLen_in h; exact ⟨by omega, by omega⟩
theorem tCh_in {t j : Nat} (h : t < 12) : 0 ≤ tCh t j ∧ tCh t j < 128 := by
  unfold tCh
  rcases Nat.lt_or_ge j (qByt.getD t []).length with q | q
  · rw [List.getD_eq_getElem?_getD, List.getElem?_eq_getElem q]
    exact (qLit_all t h).2.2 _ (List.getElem_mem q)
  · rw [List.getD_eq_getElem?_getD, List.getElem?_eq_none q]
    decide
theorem tCh_32 {t j : Nat} (h : t < 12) : in32 (tCh t j) := by have := tCh_in (j := j) h; exact ⟨by omega, by omega⟩
theorem qA_of {G : qG} {sz a : Nat} (h1 : ¬ a ∈ gL G) (h2 : a < sz) : ¬ qA G sz a := fun h => h.elim h1 (fun h => absurd h2 (Nat.not_lt.mpr h))
theorem qz_Z {G : qG} {C n d : String} {v : Value} {s : State} (h : va_Z C n d v (fun q => q ∈ gL G) s s.heap) : va_Z C n d v (qA G s.heap.size) s s.heap := by
  obtain ⟨cf, kf, fi, f, a, cell, h1, h2, h3, h4, h5, h6, h7, h8⟩ := h
  exact ⟨cf, kf, fi, f, a, cell, h1, h2, h3, h4, h5, h6, h7, qA_of h8 (Array.getElem?_eq_some_iff.mp h5).1⟩
theorem qz_OF {G : qG} {o n d : String} {v : Value} {t : Nat} {s : State} (h : va_OF o n d v t (fun q => q ∈ gL G) s s.heap) : va_OF o n d v t (qA G s.heap.size) s s.heap := by
  obtain ⟨cf, k, fi, f, cell, h1, h2, h3, h4, h5, h6⟩ := h
  exact ⟨cf, k, fi, f, cell, h1, h2, h3, h4, h5, qA_of h6 (Array.getElem?_eq_some_iff.mp h3).1⟩
theorem qz_O {G : qG} {E : String} {t : Nat} {s : State} (h : va_O E t (fun q => q ∈ gL G) s s.heap) : va_O E t (qA G s.heap.size) s s.heap := by
  obtain ⟨cell, h1, h2, h3, h4⟩ := h
  exact ⟨cell, h1, h2, h3, qA_of h4 (Array.getElem?_eq_some_iff.mp h1).1⟩
theorem qz_T {G : qG} {ty : FieldType} {t N : Nat} {f : Nat → Value} {s : State} (h : va_T ty t N f (fun q => q ∈ gL G) s s.heap) : va_T ty t N f (qA G s.heap.size) s s.heap := by
  obtain ⟨cell, h1, h2, h3, h4, h5, h6, h7⟩ := h
  exact ⟨cell, h1, h2, h3, h4, h5, h6, qA_of h7 (Array.getElem?_eq_some_iff.mp h1).1⟩
theorem qz_S {G : qG} {s : State} (h : qZ G s) : vk_S 12 qLen qByt (gS G) (gV G) (qA G s.heap.size) s s.heap :=
  ⟨fun i hi => ⟨qz_O (h.2.2.2.2.1.1 i hi).1, qz_OF (h.2.2.2.2.1.1 i hi).2.1, qz_OF (h.2.2.2.2.1.1 i hi).2.2.1, qz_T (h.2.2.2.2.1.1 i hi).2.2.2⟩, h.2.2.2.2.1.2⟩
section QN9
variable {X : qB} {cc : ByteArray} {own : String} {nL : Nat} {ret : Option FieldType} {Ts : List Cond} {fr lo : Nat} {pc : Nat} {ls ls' : List (Nat × Value)} {st : List Value} {μ : qM}
theorem qn_ldcS (hX : qOk X cc own nL ret Ts fr lo) {index : Nat} (t : Nat) (ht : t < 12) (ho : own = "ProRataMarket$Tape") (hi : (qLits.getD t (0, "")).1 = index) (hd : decode cc pc = .ok (.ldc index, 2)) (k : qN X nL (pc + 2) ls (.ref (gS (xG X) t) :: st) μ) : qN X nL pc ls st μ := by
  subst ho
  subst hi
  exact fun H locs la hh hW hS hR => va_ldcS hX.1 hX.2.1 hX.2.2.2.1 (hX.Z.2.2.2.1 t ht) hd (k H locs la hh hW hS hR)
theorem qn_gets1 (hX : qOk X cc own nL ret Ts fr lo) {index : Nat} (hl : Cond.fieldLink own index "java/lang/String" "COMPACT_STRINGS" "Z" ∈ Ts) (hd : decode cc pc = .ok (.getstatic index, 3)) (k : qN X nL (pc + 3) ls (.int (iZ 1) :: st) μ) : qN X nL pc ls st μ :=
  fun H locs la hh hW hS hR => va_gets hX.1 hX.2.1 (qz_Z hX.Z.2.2.1) hS hX.2.2.2.1 (hX.2.2.2.2.1 _ hl) (fun x h => h) hd (k H locs la hh hW hS hR)
theorem qn_getsF (hX : qOk X cc own nL ret Ts fr lo) {index : Nat} (hl : Cond.fieldLink own index "jdk/internal/util/Preconditions" "SIOOBE_FORMATTER" "Ljava/util/function/BiFunction;" ∈ Ts) (hd : decode cc pc = .ok (.getstatic index, 3)) (k : ∀ f : Option Nat, qN X nL (pc + 3) ls (va_rf f :: st) μ) : qN X nL pc ls st μ := by
  intro H locs la hh hW hS hR
  rcases hX.Z.2.2.2.2.2 with hf | ⟨fm, hf⟩
  · exact va_gets hX.1 hX.2.1 (qz_Z hf) hS hX.2.2.2.1 (hX.2.2.2.2.1 _ hl) (fun x h => h) hd (k none H locs la hh hW hS hR)
  · exact va_gets hX.1 hX.2.1 (qz_Z hf) hS hX.2.2.2.1 (hX.2.2.2.2.1 _ hl) (fun x h => h) hd (k (some fm) H locs la hh hW hS hR)
theorem qn_sval (hX : qOk X cc own nL ret Ts fr lo) {index : Nat} {t : Nat} (ht : t < 12) (hl : Cond.fieldLink own index "java/lang/String" "value" "[B" ∈ Ts) (hd : decode cc pc = .ok (.getfield index, 3)) (k : qN X nL (pc + 3) ls (.ref (gV (xG X) t) :: st) μ) : qN X nL pc ls (.ref (gS (xG X) t) :: st) μ :=
  fun H locs la hh hW hS hR => vk_getf hX.1 hX.2.1 ((qz_S hX.Z).1 t ht).2.2.1 hS hX.2.2.2.1 (hX.2.2.2.2.1 _ hl) (fun x h => h) hd (k H locs la hh hW hS hR)
theorem qn_scod (hX : qOk X cc own nL ret Ts fr lo) {index : Nat} {t : Nat} (ht : t < 12) (hl : Cond.fieldLink own index "java/lang/String" "coder" "B" ∈ Ts) (hd : decode cc pc = .ok (.getfield index, 3)) (k : qN X nL (pc + 3) ls (.int (iZ 0) :: st) μ) : qN X nL pc ls (.ref (gS (xG X) t) :: st) μ :=
  fun H locs la hh hW hS hR => vk_getf hX.1 hX.2.1 ((qz_S hX.Z).1 t ht).2.1 hS hX.2.2.2.1 (hX.2.2.2.2.1 _ hl) (fun x h => h) hd (k H locs la hh hW hS hR)
theorem qn_vlen (hX : qOk X cc own nL ret Ts fr lo) {t : Nat} (ht : t < 12) (hd : decode cc pc = .ok (.arraylength, 1)) (k : qN X nL (pc + 1) ls (.int (iZ (tLen t)) :: st) μ) : qN X nL pc ls (.ref (gV (xG X) t) :: st) μ :=
  fun H locs la hh hW hS hR => va_tlen hX.1 hX.2.1 ((qz_S hX.Z).1 t ht).2.2.2 hS (v := iZ (tLen t)) (by have h8 := (qLit_all t ht).2.1; exact Int32.toInt_inj.mp ((nI_toInt (n := qLen.getD t 0) (by omega)).trans (iZ_toInt (tLen_32 ht)).symm)) hd (k H locs la hh hW hS hR)
theorem qn_vald (hX : qOk X cc own nL ret Ts fr lo) {t : Nat} {i : Int} (ht : t < 12) (hi : 0 ≤ i ∧ i < tLen t) (hd : decode cc pc = .ok (.baload, 1)) (k : qN X nL (pc + 1) ls (.int (iZ (tCh t i.toNat)) :: st) μ) : qN X nL pc ls (.int (iZ i) :: .ref (gV (xG X) t) :: st) μ := by
  intro H locs la hh hW hS hR
  have h8 := (qLit_all t ht).2.1
  obtain ⟨h1, h2⟩ := vp_in_Z (i := i) (n := qLen.getD t 0) hi (by omega)
  refine va_tb hX.1 hX.2.1 ((qz_S hX.Z).1 t ht).2.2.2 hS h1 (v := .int (iZ (tCh t i.toNat))) ?_ hd (k H locs la hh hW hS hR)
  rw [h2]
  show Value.int _ = Value.int _
  congr 1
  exact (iZ_of _).symm
theorem qn_i2c (hX : qOk X cc own nL ret Ts fr lo) {a : Int} (ha : 0 ≤ a ∧ a < 128) (hd : decode cc pc = .ok (.i2c, 1)) (k : qN X nL (pc + 1) ls (.int (iZ a) :: st) μ) : qN X nL pc ls (.int (iZ a) :: st) μ :=
  fun H locs la hh hW hS hR => lv_i2c hX.1 hX.2.1 hd (by
    obtain ⟨n, rfl⟩ := Int.eq_ofNat_of_zero_le ha.1
    have e : iZ ((n : Nat) : Int) = nI n := Int32.toInt_inj.mp ((iZ_toInt ⟨by omega, by omega⟩).trans (nI_toInt (by omega)).symm)
    rw [e, pk_char, pk_tn (by omega)]
    congr 1
    omega) (k H locs la hh hW hS hR)
theorem qn_nret {ty : FieldType} (hX : qOk X cc own nL (some ty) Ts fr lo) {v r : Int} {ν : qM} (hd : decode cc pc = .ok (.ireturn, 1)) (hn : narrow ty (.int (iZ v)) = .int (iZ v)) (hE : xr X = some (.int (iZ r)) ∧ (in32 r → xΦ X) ∧ xμ X = ν) (hR0 : qR (xG X) μ) (hv : in32 v) (h : (v, μ) = (r, ν)) : qN X nL pc ls [.int (iZ v)] μ := by
  cases h
  intro H locs la hh hW hS hR
  refine W.zret hX.1 hX.2.1 hX.2.2.2.2.2.2.1 hn (fun t ht hWm => ⟨⟨by rw [hE.1], hE.2.1 hv, ?_⟩, hS.F ht⟩) hS.2.2 hd hX.2.2.2.2.2.1
  rw [hE.2.2]
  exact ⟨by rw [ht]; exact hW, va_K.moved hWm.alike hX.K, hR0, hX.Z.on hS ht hWm⟩
/-- a text is returned -/
theorem qn_sret (hX : qOk X cc own nL (some (.object "java/lang/String")) Ts fr lo) {v r : Nat} {ν : qM} (hd : decode cc pc = .ok (.areturn, 1)) (hE : xr X = some (.ref (gS (xG X) r)) ∧ (r < 12 → xΦ X) ∧ xμ X = ν) (hR0 : qR (xG X) μ) (hv : v < 12) (h : (v, μ) = (r, ν)) : qN X nL pc ls [.ref (gS (xG X) v)] μ := by
  cases h
  intro H locs la hh hW hS hR
  refine W.aret (rt := .object "java/lang/String") hX.1 hX.2.1 hX.2.2.2.2.2.2.1 (Or.inl ⟨_, rfl⟩) (Or.inr ⟨_, rfl⟩) (fun t ht hWm => ⟨⟨by rw [hE.1], hE.2.1 hv, ?_⟩, hS.F ht⟩) hS.2.2 hd hX.2.2.2.2.2.1
  rw [hE.2.2]
  exact ⟨by rw [ht]; exact hW, va_K.moved hWm.alike hX.K, hR0, hX.Z.on hS ht hWm⟩
theorem qn_callSs (hX : qOk X cc own nL ret Ts fr lo) {index : Nat} {y : MethodName} {ws ws' : List Cond} {bytes : ByteArray} {maxL : Nat} {ret' : Option FieldType} {fr' lo' : Nat} {Φ : Prop} {ν : qM} {r : Nat} (As As' : List Value) (n : Nat)
    (hd : decode cc pc = .ok (.invokestatic index, 3)) (hG : GoodIn Ts (va_wsS own index y ws)) (hw : ws = Cond.code y bytes maxL ret' :: ws')
    (hdd : y.cls ≠ "java/lang/invoke/MethodHandle" ∧ y.cls ≠ "java/lang/invoke/VarHandle" ∧ (parseMethodDescriptor y.desc).map (fun d => d.parameters.length) = some n) (hrm : Nat.ble (fr' + 1) fr = true ∧ Nat.ble (8 + (maxL + 11) + lo') lo = true)
    (hn : As.length = n) (hs : As' = As.reverse) (hst : Nat.ble ((st.map fun v => v.category).sum) 8 = true) (hR0 : qR (xG X) μ) (hM : qC (xl X) y ws fr' lo' (xG X) As μ (some (.ref (gS (xG X) r))) Φ ν) (kk : Φ → qR (xG X) ν → qN X nL (pc + 3) ls (.ref (gS (xG X) r) :: st) ν) : qN X nL pc ls (As' ++ st) μ :=
  qn_callS hX As As' n hd hG hw hdd hrm hn hs hst hR0 hM kk
/-- a call of a method of a text that answers an int -/
theorem qn_callT (hX : qOk X cc own nL ret Ts fr lo) {index : Nat} {y : MethodName} {ws ws' : List Cond} {bytes : ByteArray} {maxL : Nat} {ret' : Option FieldType} {fr' lo' : Nat} {Φ : Prop} {ν : qM} {r : Int} {t : Nat} (ht : t < 12) (As As' : List Value) (n : Nat)
    (hd : decode cc pc = .ok (.invokevirtual index, 3)) (hG : GoodIn Ts (wsV own index RJ0 y ws)) (hw : ws = Cond.code y bytes maxL ret' :: ws')
    (hdd : y.cls = RJ0 ∧ y.cls ≠ "java/lang/invoke/MethodHandle" ∧ y.cls ≠ "java/lang/invoke/VarHandle" ∧ (parseMethodDescriptor y.desc).map (fun d => d.parameters.length) = some n) (hrm : Nat.ble (fr' + 1) fr = true ∧ Nat.ble (8 + (maxL + 11) + lo') lo = true)
    (hn : As.length = n) (hs : As' = As.reverse) (hst : Nat.ble ((st.map fun v => v.category).sum) 8 = true) (hR0 : qR (xG X) μ) (hM : qC (xl X) y ws fr' lo' (xG X) (.ref (gS (xG X) t) :: As) μ (some (.int (iZ r))) Φ ν) (kk : Φ → qR (xG X) ν → qN X nL (pc + 3) ls (.int (iZ r) :: st) ν) : qN X nL pc ls (As' ++ .ref (gS (xG X) t) :: st) μ := by
  intro H locs la hh hW hS hR
  subst hs
  have hK := hX.K
  have hm := hM H.size
  refine qn_called (va_runV (As := As) (rest := st) ⟨hX.1, hX.2.1, hX.2.2.1, hX.2.2.2.1, hX.2.2.2.2.1⟩ hm (cwV n hX.2.2.2.2.1 hG hw rfl rfl hdd ⟨by rw [← hX.2.2.2.2.2.2.2.1]; exact Nat.le_of_ble_eq_true hrm.1, by rw [← hX.2.2.2.2.2.2.2.2.1]; exact Nat.le_of_ble_eq_true hrm.2⟩) ⟨qC_blind, vk_recv (qz_S hX.Z) ht hS, fun U hU hWm => ⟨rfl, by rw [hU], by rw [hU]; exact hW, va_K.moved hWm.alike hK, hR0, hX.Z.on hS hU hWm⟩⟩ rfl hn hh.1 rfl (lv_room (Nat.le_of_ble_eq_true hst)) hd ⟨Nat.zero_le _, Nat.zero_le _⟩) hS (fun hΦ H1 locs1 hW1 hS1 hR1 => ?_)
  exact kk hΦ hR1 H1 locs1 la hh hW1 hS1 hR1
end QN9
set_option maxRecDepth 20000 in
theorem k_J0_coder (l : Launch) {G : qG} (hT : qT G) {t : Nat} (ht : t < 12) {m0 : qM} : qC l yJ0_coder_7d493 wsJ0_coder_7d493 0 0 G [.ref (gS G t)] m0 (some (.int (iZ 0))) True m0 := by
  refine qn_start hT (by decide) rfl (Nat.le_of_ble_eq_true rfl) ?_
  intro X h1 h2 h3 h4 hX hR
  subst h4
  have hE : xr X = some (.int (iZ 0)) ∧ (in32 0 → xΦ X) ∧ xμ X = m0 := ⟨h1, fun _ => by rw [h2]; trivial, h3⟩
  refine qn_gets1 hX (pc := 0) (by decide +kernel) dJ0_coder_7d493_0 ?_
  refine qn_if_eq hX (pc := 3) (by decide) 13 dJ0_coder_7d493_3 (by decide) (fun c => absurd c (by decide)) (fun _ => ?_)
  refine qn_aload_n hX (pc := 6) dJ0_coder_7d493_6 0 rfl rfl ?_
  refine qn_scod hX (pc := 7) ht (by decide +kernel) dJ0_coder_7d493_7 ?_
  refine qn_goto hX (pc := 10) 14 dJ0_coder_7d493_10 (by decide) ?_
  exact qn_nret hX (pc := 14) dJ0_coder_7d493_14 rfl hE hR (by decide) rfl
theorem dd_J0_coder : yJ0_coder_7d493.cls = RJ0 ∧ yJ0_coder_7d493.cls ≠ "java/lang/invoke/MethodHandle" ∧ yJ0_coder_7d493.cls ≠ "java/lang/invoke/VarHandle" ∧ (parseMethodDescriptor yJ0_coder_7d493.desc).map (fun d => d.parameters.length) = some 0 := by decide +kernel
set_option maxRecDepth 20000 in
theorem k_J0_length (l : Launch) {G : qG} (hT : qT G) {t : Nat} (ht : t < 12) {m0 : qM} : qC l yJ0_length_8abf5 wsJ0_length_8abf5 1 20 G [.ref (gS G t)] m0 (some (.int (iZ (tLen t)))) True m0 := by
  refine qn_start hT (by decide) rfl (Nat.le_of_ble_eq_true rfl) ?_
  intro X h1 h2 h3 h4 hX hR
  subst h4
  have hE : xr X = some (.int (iZ (tLen t))) ∧ (in32 (tLen t) → xΦ X) ∧ xμ X = m0 := ⟨h1, fun _ => by rw [h2]; trivial, h3⟩
  refine qn_aload_n hX (pc := 0) dJ0_length_8abf5_0 0 rfl rfl ?_
  refine qn_sval hX (pc := 1) ht (by decide +kernel) dJ0_length_8abf5_1 ?_
  refine qn_vlen hX (pc := 4) ht dJ0_length_8abf5_4 ?_
  refine qn_aload_n hX (pc := 5) dJ0_length_8abf5_5 0 rfl rfl ?_
  refine qn_callT hX (pc := 6) ht [] [] 0 dJ0_length_8abf5_6 gJ0_length_8abf5_J0_coder_7d493 rfl dd_J0_coder ⟨rfl, rfl⟩ rfl rfl rfl hR (k_J0_coder (xl X) hX.T ht) (fun _ hR1 => ?_)
  refine qn_ishr hX (pc := 9) dJ0_length_8abf5_9 (v := tLen t) ?_ ?_
  · unfold iShr
    have e : iZ 0 &&& 31 = 0 := by decide
    have e2 : iZ (tLen t) = nI (qLen.getD t 0) := by
      have h8 := (qLit_all t ht).2.1
      exact Int32.toInt_inj.mp ((iZ_toInt (tLen_32 ht)).trans (nI_toInt (n := qLen.getD t 0) (by omega)).symm)
    have e3 : iZ (tLen t) >>> (0 : Int32) = iZ (tLen t) := by
      have h := sb_shr0 (iZ (tLen t))
      rwa [show ((0 : Int32) &&& 31) = 0 by decide] at h
    rw [e, e3, iZ_toInt (tLen_32 ht)]
  · exact qn_iret hX (pc := 10) dJ0_length_8abf5_10 hE hR1 (tLen_32 ht) rfl
set_option maxRecDepth 20000 in
theorem k_J0_isLatin1 (l : Launch) {G : qG} (hT : qT G) {t : Nat} (ht : t < 12) {m0 : qM} : qC l yJ0_isLatin1_aae02 wsJ0_isLatin1_aae02 0 0 G [.ref (gS G t)] m0 (some (.int (iZ 1))) True m0 := by
  refine qn_start hT (by decide) rfl (Nat.le_of_ble_eq_true rfl) ?_
  intro X h1 h2 h3 h4 hX hR
  subst h4
  have hE : xr X = some (.int (iZ 1)) ∧ (in01 1 → xΦ X) ∧ xμ X = m0 := ⟨h1, fun _ => by rw [h2]; trivial, h3⟩
  refine qn_gets1 hX (pc := 0) (by decide +kernel) dJ0_isLatin1_aae02_0 ?_
  refine qn_if_eq hX (pc := 3) (by decide) 17 dJ0_isLatin1_aae02_3 (by decide) (fun c => absurd c (by decide)) (fun _ => ?_)
  refine qn_aload_n hX (pc := 6) dJ0_isLatin1_aae02_6 0 rfl rfl ?_
  refine qn_scod hX (pc := 7) ht (by decide +kernel) dJ0_isLatin1_aae02_7 ?_
  refine qn_if_ne hX (pc := 10) (by decide) 17 dJ0_isLatin1_aae02_10 (by decide) (fun c => absurd rfl c) (fun _ => ?_)
  refine qn_iconst hX (pc := 13) dJ0_isLatin1_aae02_13 ?_
  refine qn_goto hX (pc := 14) 18 dJ0_isLatin1_aae02_14 (by decide) ?_
  exact qn_zret hX (pc := 18) dJ0_isLatin1_aae02_18 hE hR (Or.inr rfl) rfl
theorem dd_J0_isLatin1 : yJ0_isLatin1_aae02.cls = RJ0 ∧ yJ0_isLatin1_aae02.cls ≠ "java/lang/invoke/MethodHandle" ∧ yJ0_isLatin1_aae02.cls ≠ "java/lang/invoke/VarHandle" ∧ (parseMethodDescriptor yJ0_isLatin1_aae02.desc).map (fun d => d.parameters.length) = some 0 := by decide +kernel
set_option maxRecDepth 20000 in
theorem k_J3_checkIndex (l : Launch) {G : qG} (hT : qT G) {i n : Int} {f : Option Nat} (ri : in32 i) (rn : in32 n) (hi : 0 ≤ i ∧ i < n) {m0 : qM} : qC l yJ3_checkIndex_8e157 wsJ3_checkIndex_8e157 0 0 G [.int (iZ i), .int (iZ n), va_rf f] m0 (some (.int (iZ i))) True m0 := by
  rcases f with _ | f
  · refine qn_start hT (by decide) rfl (Nat.le_of_ble_eq_true rfl) ?_
    intro X h1 h2 h3 h4 hX hR
    subst h4
    have hE : xr X = some (.int (iZ i)) ∧ (in32 i → xΦ X) ∧ xμ X = m0 := ⟨h1, fun _ => by rw [h2]; trivial, h3⟩
    refine qn_iload_n hX (pc := 0) dJ3_checkIndex_8e157_0 0 rfl rfl ?_
    refine qn_if_lt hX (pc := 1) ri 9 dJ3_checkIndex_8e157_1 (by decide) (fun c => absurd c (by omega)) (fun _ => ?_)
    refine qn_iload_n hX (pc := 4) dJ3_checkIndex_8e157_4 0 rfl rfl ?_
    refine qn_iload_n hX (pc := 5) dJ3_checkIndex_8e157_5 1 rfl rfl ?_
    refine qn_icmp_lt hX (pc := 6) ri rn 16 dJ3_checkIndex_8e157_6 (by decide) (fun _ => ?_) (fun c => absurd hi.2 c)
    refine qn_iload_n hX (pc := 16) dJ3_checkIndex_8e157_16 0 rfl rfl ?_
    exact qn_iret hX (pc := 17) dJ3_checkIndex_8e157_17 hE hR ri rfl
  · refine qn_start hT (by decide) rfl (Nat.le_of_ble_eq_true rfl) ?_
    intro X h1 h2 h3 h4 hX hR
    subst h4
    have hE : xr X = some (.int (iZ i)) ∧ (in32 i → xΦ X) ∧ xμ X = m0 := ⟨h1, fun _ => by rw [h2]; trivial, h3⟩
    refine qn_iload_n hX (pc := 0) dJ3_checkIndex_8e157_0 0 rfl rfl ?_
    refine qn_if_lt hX (pc := 1) ri 9 dJ3_checkIndex_8e157_1 (by decide) (fun c => absurd c (by omega)) (fun _ => ?_)
    refine qn_iload_n hX (pc := 4) dJ3_checkIndex_8e157_4 0 rfl rfl ?_
    refine qn_iload_n hX (pc := 5) dJ3_checkIndex_8e157_5 1 rfl rfl ?_
    refine qn_icmp_lt hX (pc := 6) ri rn 16 dJ3_checkIndex_8e157_6 (by decide) (fun _ => ?_) (fun c => absurd hi.2 c)
    refine qn_iload_n hX (pc := 16) dJ3_checkIndex_8e157_16 0 rfl rfl ?_
    exact qn_iret hX (pc := 17) dJ3_checkIndex_8e157_17 hE hR ri rfl
theorem dd_J3_checkIndex : yJ3_checkIndex_8e157.cls ≠ "java/lang/invoke/MethodHandle" ∧ yJ3_checkIndex_8e157.cls ≠ "java/lang/invoke/VarHandle" ∧ (parseMethodDescriptor yJ3_checkIndex_8e157.desc).map (fun d => d.parameters.length) = some 3 := by decide +kernel
set_option maxRecDepth 20000 in
theorem k_J0_checkIndex (l : Launch) {G : qG} (hT : qT G) {i n : Int} (ri : in32 i) (rn : in32 n) (hi : 0 ≤ i ∧ i < n) {m0 : qM} : qC l yJ0_checkIndex_df160 wsJ0_checkIndex_df160 1 24 G [.int (iZ i), .int (iZ n)] m0 none True m0 := by
  refine qn_start hT (by decide) rfl (Nat.le_of_ble_eq_true rfl) ?_
  intro X h1 h2 h3 h4 hX hR
  subst h4
  have hE : xr X = none ∧ (True → xΦ X) ∧ xμ X = m0 := ⟨h1, fun _ => by rw [h2]; trivial, h3⟩
  refine qn_iload_n hX (pc := 0) dJ0_checkIndex_df160_0 0 rfl rfl ?_
  refine qn_iload_n hX (pc := 1) dJ0_checkIndex_df160_1 1 rfl rfl ?_
  refine qn_getsF hX (pc := 2) (by decide +kernel) dJ0_checkIndex_df160_2 (fun f => ?_)
  refine qn_callSi hX (pc := 5) [.int (iZ i), .int (iZ n), va_rf f] [va_rf f, .int (iZ n), .int (iZ i)] 3 dJ0_checkIndex_df160_5 gJ0_checkIndex_df160_J3_checkIndex_8e157 rfl dd_J3_checkIndex ⟨rfl, rfl⟩ rfl rfl rfl hR (k_J3_checkIndex (xl X) hX.T ri rn hi) (fun _ hR1 => ?_)
  refine qn_pop hX (pc := 8) dJ0_checkIndex_df160_8 rfl ?_
  exact qn_vret hX (pc := 9) dJ0_checkIndex_df160_9 hE hR1 rfl
theorem dd_J0_checkIndex : yJ0_checkIndex_df160.cls ≠ "java/lang/invoke/MethodHandle" ∧ yJ0_checkIndex_df160.cls ≠ "java/lang/invoke/VarHandle" ∧ (parseMethodDescriptor yJ0_checkIndex_df160.desc).map (fun d => d.parameters.length) = some 2 := by decide +kernel
theorem iAnd255 {z : Int} (h : 0 ≤ z ∧ z < 128) : iAnd z 255 = z := by
  obtain ⟨n, rfl⟩ := Int.eq_ofNat_of_zero_le h.1
  have e : iZ ((n : Nat) : Int) = nI n := Int32.toInt_inj.mp ((iZ_toInt ⟨by omega, by omega⟩).trans (nI_toInt (by omega)).symm)
  unfold iAnd
  rw [e, show iZ 255 = nI 255 by decide, pk_andN (n := n) (by omega) 8 (by decide), nI_toInt (by omega)]
  omega
set_option maxRecDepth 20000 in
theorem k_J1_charAt (l : Launch) {G : qG} (hT : qT G) {t : Nat} {i : Int} (ht : t < 12) (hi : 0 ≤ i ∧ i < tLen t) {m0 : qM} : qC l yJ1_charAt_3b067 wsJ1_charAt_3b067 2 60 G [.ref (gV G t), .int (iZ i)] m0 (some (.int (iZ (tCh t i.toNat)))) True m0 := by
  refine qn_start hT (by decide) rfl (Nat.le_of_ble_eq_true rfl) ?_
  intro X h1 h2 h3 h4 hX hR
  subst h4
  have h8 := tLen_in ht
  have ri : in32 i := ⟨by omega, by omega⟩
  have hE : xr X = some (.int (iZ (tCh t i.toNat))) ∧ (in32 (tCh t i.toNat) → xΦ X) ∧ xμ X = m0 := ⟨h1, fun _ => by rw [h2]; trivial, h3⟩
  refine qn_iload_n hX (pc := 0) dJ1_charAt_3b067_0 1 rfl rfl ?_
  refine qn_aload_n hX (pc := 1) dJ1_charAt_3b067_1 0 rfl rfl ?_
  refine qn_vlen hX (pc := 2) ht dJ1_charAt_3b067_2 ?_
  refine qn_callSv hX (pc := 3) [.int (iZ i), .int (iZ (tLen t))] [.int (iZ (tLen t)), .int (iZ i)] 2 dJ1_charAt_3b067_3 gJ1_charAt_3b067_J0_checkIndex_df160 rfl dd_J0_checkIndex ⟨rfl, rfl⟩ rfl rfl rfl hR (k_J0_checkIndex (xl X) hX.T ri (tLen_32 ht) hi) (fun _ hR1 => ?_)
  refine qn_aload_n hX (pc := 6) dJ1_charAt_3b067_6 0 rfl rfl ?_
  refine qn_iload_n hX (pc := 7) dJ1_charAt_3b067_7 1 rfl rfl ?_
  refine qn_vald hX (pc := 8) ht hi dJ1_charAt_3b067_8 ?_
  refine qn_sipush hX (pc := 9) dJ1_charAt_3b067_9 (by decide) ?_
  refine qn_iand hX (pc := 12) dJ1_charAt_3b067_12 (v := tCh t i.toNat) (iAnd255 (tCh_in ht)).symm ?_
  refine qn_i2c hX (pc := 13) (tCh_in ht) dJ1_charAt_3b067_13 ?_
  refine qn_nret hX (pc := 14) dJ1_charAt_3b067_14 ?_ hE hR1 (tCh_32 ht) rfl
  obtain ⟨n, hn⟩ := Int.eq_ofNat_of_zero_le (tCh_in (j := i.toNat) ht).1
  have hlt := (tCh_in (j := i.toNat) ht).2
  have e : iZ (tCh t i.toNat) = nI n := Int32.toInt_inj.mp ((iZ_toInt (tCh_32 ht)).trans (by rw [hn, nI_toInt (by omega)]))
  rw [e]
  exact (pk_charN (by omega)).1
theorem dd_J1_charAt : yJ1_charAt_3b067.cls ≠ "java/lang/invoke/MethodHandle" ∧ yJ1_charAt_3b067.cls ≠ "java/lang/invoke/VarHandle" ∧ (parseMethodDescriptor yJ1_charAt_3b067.desc).map (fun d => d.parameters.length) = some 2 := by decide +kernel
set_option maxRecDepth 20000 in
theorem k_J0_charAt (l : Launch) {G : qG} (hT : qT G) {t : Nat} {i : Int} (ht : t < 12) (hi : 0 ≤ i ∧ i < tLen t) {m0 : qM} : qC l yJ0_charAt_5068e wsJ0_charAt_5068e 3 90 G [.ref (gS G t), .int (iZ i)] m0 (some (.int (iZ (tCh t i.toNat)))) True m0 := by
  refine qn_start hT (by decide) rfl (Nat.le_of_ble_eq_true rfl) ?_
  intro X h1 h2 h3 h4 hX hR
  subst h4
  have hE : xr X = some (.int (iZ (tCh t i.toNat))) ∧ (in32 (tCh t i.toNat) → xΦ X) ∧ xμ X = m0 := ⟨h1, fun _ => by rw [h2]; trivial, h3⟩
  refine qn_aload_n hX (pc := 0) dJ0_charAt_5068e_0 0 rfl rfl ?_
  refine qn_callT hX (pc := 1) ht [] [] 0 dJ0_charAt_5068e_1 gJ0_charAt_5068e_J0_isLatin1_aae02 rfl dd_J0_isLatin1 ⟨rfl, rfl⟩ rfl rfl rfl hR (k_J0_isLatin1 (xl X) hX.T ht) (fun _ hR1 => ?_)
  refine qn_if_eq hX (pc := 4) (by decide) 16 dJ0_charAt_5068e_4 (by decide) (fun c => absurd c (by decide)) (fun _ => ?_)
  refine qn_aload_n hX (pc := 7) dJ0_charAt_5068e_7 0 rfl rfl ?_
  refine qn_sval hX (pc := 8) ht (by decide +kernel) dJ0_charAt_5068e_8 ?_
  refine qn_iload_n hX (pc := 11) dJ0_charAt_5068e_11 1 rfl rfl ?_
  refine qn_callSi hX (pc := 12) [.ref (gV (xG X) t), .int (iZ i)] [.int (iZ i), .ref (gV (xG X) t)] 2 dJ0_charAt_5068e_12 gJ0_charAt_5068e_J1_charAt_3b067 rfl dd_J1_charAt ⟨rfl, rfl⟩ rfl rfl rfl hR1 (k_J1_charAt (xl X) hX.T ht hi) (fun _ hR2 => ?_)
  refine qn_nret hX (pc := 15) dJ0_charAt_5068e_15 ?_ hE hR2 (tCh_32 ht) rfl
  obtain ⟨n, hn⟩ := Int.eq_ofNat_of_zero_le (tCh_in (j := i.toNat) ht).1
  have hlt := (tCh_in (j := i.toNat) ht).2
  have e : iZ (tCh t i.toNat) = nI n := Int32.toInt_inj.mp ((iZ_toInt (tCh_32 ht)).trans (by rw [hn, nI_toInt (by omega)]))
  rw [e]
  exact (pk_charN (by omega)).1
theorem dd_J0_length_8abf5 : yJ0_length_8abf5.cls = RJ0 ∧ yJ0_length_8abf5.cls ≠ "java/lang/invoke/MethodHandle" ∧ yJ0_length_8abf5.cls ≠ "java/lang/invoke/VarHandle" ∧ (parseMethodDescriptor yJ0_length_8abf5.desc).map (fun d => d.parameters.length) = some 0 := by decide +kernel
theorem dd_J0_charAt_5068e : yJ0_charAt_5068e.cls = RJ0 ∧ yJ0_charAt_5068e.cls ≠ "java/lang/invoke/MethodHandle" ∧ yJ0_charAt_5068e.cls ≠ "java/lang/invoke/VarHandle" ∧ (parseMethodDescriptor yJ0_charAt_5068e.desc).map (fun d => d.parameters.length) = some 1 := by decide +kernel
theorem qn_startF {l : Launch} {y : MethodName} {ws ws' : List Cond} {fr lo nL : Nat} {G : qG} {av : List Value} {μ ν : qM} {rv : Option Value} {Φ : Prop} {cc : ByteArray} {ret : Option FieldType} (hT : qT G)
    (hy : plainFor y = true) (hw : ws = Cond.code y cc nL ret :: ws') (hn : (lg_sl av).length ≤ nL)
    (k : ∀ X : qB, xr X = rv → xΦ X = Φ → xμ X = ν → xG X = G → qOk X cc y.cls nL ret ws fr lo → qR G μ → qN X nL 0 (lv_args 0 av) [] μ) : qC l y ws fr lo G av μ rv Φ ν := by
  intro sz
  refine va_MetF (cc := cc) (maxL := nL) (ret := ret) hy hw ?_
  intro p e s m args below meth c s₁ B hml hv
  obtain ⟨rfl, hsz, hW, hK, hR, hZ⟩ := hv
  have hl := lv_entry av (n := nL) hn
  rw [lg_entry_eq]
  subst hsz
  exact k (p, l, e, _, s, m, _, below, meth, c, G, rv, Φ, ν) rfl rfl rfl rfl
    ⟨B.exec, B.bytes, hml, findClass_of_methodNamed B.named, atoms_spec (ws := ws) B.pre, B.notSynchronized, B.returns, rfl, rfl, hK, hT, hZ⟩ hR _ _ _ hl hW va_S.rf hR
