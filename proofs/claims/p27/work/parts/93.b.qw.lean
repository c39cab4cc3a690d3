/-! MACHINE: calls and fields of a world, whatever the walk's end is, and whatever else lies in the heap -/
section QW
variable {X : qB} {cc : ByteArray} {own : String} {nL : Nat} {ret : Option FieldType} {Ts : List Cond} {fr lo : Nat} {pc : Nat} {la : Array Slot} {ls : List (Nat × Value)} {st : List Value} {μ : qM} {H : Heap} {locs : List Loc} {cells slots : Nat} {Q : State → Prop} {A0 : Nat → Prop}
theorem qw_called {ν : qM} {rv : Option Value} {Φ : Prop} {rest st0 : List Value} {a : Array Value}
    (hr : va_Run (xp X) (xl X) (xe X) (xR X) (xs X) (xm X) (xa X) (xb X) (xt X) (xc X) H locs cells slots 0 0 (F0 (xm X) pc la st0) rest (qPost (xG X) rv Φ ν H.size a) (qA (xG X) H.size)) (hS : va_S A0 (xs X).heap H locs) (hA : ∀ q, q ∈ gL (xG X) → A0 q) (hA2 : ∀ q : Nat, (xs X).heap.size ≤ q → A0 q)
    (kk : Φ → ∀ (H1 : Heap) (locs1 : List Loc), qW (xG X) ν H1 → H.size ≤ H1.size → (∀ q : Nat, q < H.size → q ∉ gL (xG X) → H1[q]? = H[q]?) → va_S A0 (xs X).heap H1 locs1 → qR (xG X) ν → W (xp X) (xl X) (xe X) (xR X) (xs X) (xm X) (xa X) (xb X) (xt X) (xc X) H1 locs1 cells slots Q (F0 (xm X) (pc + 3) la (rv.toList ++ rest))) : W (xp X) (xl X) (xe X) (xR X) (xs X) (xm X) (xa X) (xb X) (xt X) (xc X) H locs cells slots Q (F0 (xm X) pc la st0) := by
  intro T hT Y
  obtain ⟨v, st₀, t, T', L, h0, X', hL, e1, e2, ⟨⟨hv, hΦ, hW1, -, hR1, -⟩, hz, hk⟩, st⟩ := hr T hT Y
  cases hv
  rw [h0] at hz hk
  have hf : ∀ q, qA (xG X) H.size q → A0 q := fun q h => h.elim (hA q) (fun h => hA2 q (Nat.le_trans hS.1 h))
  obtain ⟨t2, a1, b1⟩ := kk hΦ T'.heap (locs ++ L) (by rw [e1]; exact hW1) (by rw [e1]; exact hz) (fun q h1 h2 => by rw [e1]; exact hk q h1 (fun z => z.elim h2 (fun z => absurd h1 (Nat.not_lt.mpr z))))
    ⟨Nat.le_trans hS.1 (by rw [e1]; exact hz), fun q h1 h2 => by rw [e1, hk q (Nat.lt_of_lt_of_le h1 hS.1) (fun z => h2 (hf q z))]; exact hS.2.1 q h1 h2, fun q hq => by
      rcases List.mem_append.mp hq with h | h
      · exact hS.2.2 q h
      · exact hf _ (hL q h)⟩ hR1 T' rfl X'
  exact ⟨t2, st t2 a1, b1⟩
theorem qw_callV (hX : qOk X cc own nL ret Ts fr lo) {index : Nat} {y : MethodName} {ws ws' : List Cond} {bytes : ByteArray} {maxL : Nat} {ret' : Option FieldType} {fr' lo' : Nat} {b ci : Nat} {C : String} {T : u_T} {N : Nat} (As As' : List Value) {rv : Option Value} {Φ : Prop} {ν : qM} (n : Nat)
    (hd : decode cc pc = .ok (.invokevirtual index, 3)) (hG : GoodIn Ts (wsV own index C y ws)) (hw : ws = Cond.code y bytes maxL ret' :: ws')
    (hdd : y.cls = C ∧ y.cls ≠ "java/lang/invoke/MethodHandle" ∧ y.cls ≠ "java/lang/invoke/VarHandle" ∧ (parseMethodDescriptor y.desc).map (fun d => d.parameters.length) = some n) (hrm : Nat.ble (fr' + 1) fr = true ∧ Nat.ble (8 + (maxL + 11) + lo') lo = true)
    (hn : As.length = n) (hc : vwCl[ci]? = some (C, T, N)) (hci : ci < 9) (hb : gK (xG X) b = ci + 1) (hs : As' = As.reverse) (hst : Nat.ble ((st.map fun v => v.category).sum) 8 = true) (hcl : cells ≤ (xR X).cells ∧ slots ≤ (xR X).slots) (hh : lv_has la nL ls) (hW : qW (xG X) μ H) (hS : va_S A0 (xs X).heap H locs) (hA : ∀ q, q ∈ gL (xG X) → A0 q) (hA2 : ∀ q : Nat, (xs X).heap.size ≤ q → A0 q) (hold : ∀ q : Nat, q < (xs X).heap.size → q ∉ gL (xG X) → H[q]? = (xs X).heap[q]?) (hR0 : qR (xG X) μ) (hM : qC (xl X) y ws fr' lo' (xG X) (.ref b :: As) μ rv Φ ν)
    (kk : Φ → ∀ (H1 : Heap) (locs1 : List Loc), qW (xG X) ν H1 → H.size ≤ H1.size → (∀ q : Nat, q < H.size → q ∉ gL (xG X) → H1[q]? = H[q]?) → va_S A0 (xs X).heap H1 locs1 → qR (xG X) ν → W (xp X) (xl X) (xe X) (xR X) (xs X) (xm X) (xa X) (xb X) (xt X) (xc X) H1 locs1 cells slots Q (F0 (xm X) (pc + 3) la (rv.toList ++ st))) : W (xp X) (xl X) (xe X) (xR X) (xs X) (xm X) (xa X) (xb X) (xt X) (xc X) H locs cells slots Q (F0 (xm X) pc la (As' ++ .ref b :: st)) := by
  subst hs
  have hK := hX.K
  have hT := hX.T
  obtain ⟨q, hq⟩ := qg_at (μ := μ) (hT.l hb (Nat.succ_ne_zero _))
  rw [qE_obj hb hci] at hq
  have hm := hM H.size
  exact qw_called (va_runV (As := As) (rest := st) ⟨hX.1, hX.2.1, hX.2.2.1, hX.2.2.2.1, hX.2.2.2.2.1⟩ hm (cwV n hX.2.2.2.2.1 hG hw rfl rfl hdd ⟨by rw [← hX.2.2.2.2.2.2.2.1]; exact Nat.le_of_ble_eq_true hrm.1, by rw [← hX.2.2.2.2.2.2.2.2.1]; exact Nat.le_of_ble_eq_true hrm.2⟩) ⟨qC_blind, va_recv hK hW.1 hc hq, fun U hU hWm => ⟨rfl, by rw [hU], by rw [hU]; exact hW, va_K.moved hWm.alike hK, hR0, hX.Z.keep hWm (fun q h1 h2 => by rw [hU]; exact hold q h1 h2)⟩⟩ rfl hn hh.1 rfl (lv_room (Nat.le_of_ble_eq_true hst)) hd hcl) hS hA hA2 kk
theorem qw_callS (hX : qOk X cc own nL ret Ts fr lo) {index : Nat} {y : MethodName} {ws ws' : List Cond} {bytes : ByteArray} {maxL : Nat} {ret' : Option FieldType} {fr' lo' : Nat} (As As' : List Value) {rv : Option Value} {Φ : Prop} {ν : qM} (n : Nat)
    (hd : decode cc pc = .ok (.invokestatic index, 3)) (hG : GoodIn Ts (va_wsS own index y ws)) (hw : ws = Cond.code y bytes maxL ret' :: ws')
    (hdd : y.cls ≠ "java/lang/invoke/MethodHandle" ∧ y.cls ≠ "java/lang/invoke/VarHandle" ∧ (parseMethodDescriptor y.desc).map (fun d => d.parameters.length) = some n) (hrm : Nat.ble (fr' + 1) fr = true ∧ Nat.ble (8 + (maxL + 11) + lo') lo = true)
    (hn : As.length = n) (hs : As' = As.reverse) (hst : Nat.ble ((st.map fun v => v.category).sum) 8 = true) (hcl : cells ≤ (xR X).cells ∧ slots ≤ (xR X).slots) (hh : lv_has la nL ls) (hW : qW (xG X) μ H) (hS : va_S A0 (xs X).heap H locs) (hA : ∀ q, q ∈ gL (xG X) → A0 q) (hA2 : ∀ q : Nat, (xs X).heap.size ≤ q → A0 q) (hold : ∀ q : Nat, q < (xs X).heap.size → q ∉ gL (xG X) → H[q]? = (xs X).heap[q]?) (hR0 : qR (xG X) μ) (hM : qC (xl X) y ws fr' lo' (xG X) As μ rv Φ ν)
    (kk : Φ → ∀ (H1 : Heap) (locs1 : List Loc), qW (xG X) ν H1 → H.size ≤ H1.size → (∀ q : Nat, q < H.size → q ∉ gL (xG X) → H1[q]? = H[q]?) → va_S A0 (xs X).heap H1 locs1 → qR (xG X) ν → W (xp X) (xl X) (xe X) (xR X) (xs X) (xm X) (xa X) (xb X) (xt X) (xc X) H1 locs1 cells slots Q (F0 (xm X) (pc + 3) la (rv.toList ++ st))) : W (xp X) (xl X) (xe X) (xR X) (xs X) (xm X) (xa X) (xb X) (xt X) (xc X) H locs cells slots Q (F0 (xm X) pc la (As' ++ st)) := by
  subst hs
  have hK := hX.K
  have hm := hM H.size
  exact qw_called (va_runS (As := As) (rest := st) ⟨hX.1, hX.2.1, hX.2.2.1, hX.2.2.2.1, hX.2.2.2.2.1⟩ hm (va_cwS n hX.2.2.2.2.1 hG hw rfl rfl hdd ⟨by rw [← hX.2.2.2.2.2.2.2.1]; exact Nat.le_of_ble_eq_true hrm.1, by rw [← hX.2.2.2.2.2.2.2.2.1]; exact Nat.le_of_ble_eq_true hrm.2⟩) ⟨qC_blind, fun U hU hWm => ⟨rfl, by rw [hU], by rw [hU]; exact hW, va_K.moved hWm.alike hK, hR0, hX.Z.keep hWm (fun q h1 h2 => by rw [hU]; exact hold q h1 h2)⟩⟩ rfl hn hh.1 rfl (lv_room (Nat.le_of_ble_eq_true hst)) hd hcl) hS hA hA2 kk
/-- a static method with a table of its own -/
theorem qw_callSW (hX : qOk X cc own nL ret Ts fr lo) {index : Nat} {y : MethodName} {ws ws' : List Cond} {bytes : ByteArray} {maxL : Nat} {ret' : Option FieldType} {hh9 : List (Nat × Nat × Nat × Nat)} {fr' lo' : Nat} (As As' : List Value) {rv : Option Value} {Φ : Prop} {ν : qM} (n : Nat)
    (hd : decode cc pc = .ok (.invokestatic index, 3)) (hG : GoodIn Ts (va_wsS own index y ws)) (hw : ws = Cond.codeWith y bytes maxL ret' hh9 :: ws')
    (hdd : y.cls ≠ "java/lang/invoke/MethodHandle" ∧ y.cls ≠ "java/lang/invoke/VarHandle" ∧ (parseMethodDescriptor y.desc).map (fun d => d.parameters.length) = some n) (hrm : Nat.ble (fr' + 1) fr = true ∧ Nat.ble (8 + (maxL + 11) + lo') lo = true)
    (hn : As.length = n) (hs : As' = As.reverse) (hst : Nat.ble ((st.map fun v => v.category).sum) 8 = true) (hcl : cells ≤ (xR X).cells ∧ slots ≤ (xR X).slots) (hh : lv_has la nL ls) (hW : qW (xG X) μ H) (hS : va_S A0 (xs X).heap H locs) (hA : ∀ q, q ∈ gL (xG X) → A0 q) (hA2 : ∀ q : Nat, (xs X).heap.size ≤ q → A0 q) (hold : ∀ q : Nat, q < (xs X).heap.size → q ∉ gL (xG X) → H[q]? = (xs X).heap[q]?) (hR0 : qR (xG X) μ) (hM : qC (xl X) y ws fr' lo' (xG X) As μ rv Φ ν)
    (kk : Φ → ∀ (H1 : Heap) (locs1 : List Loc), qW (xG X) ν H1 → H.size ≤ H1.size → (∀ q : Nat, q < H.size → q ∉ gL (xG X) → H1[q]? = H[q]?) → va_S A0 (xs X).heap H1 locs1 → qR (xG X) ν → W (xp X) (xl X) (xe X) (xR X) (xs X) (xm X) (xa X) (xb X) (xt X) (xc X) H1 locs1 cells slots Q (F0 (xm X) (pc + 3) la (rv.toList ++ st))) : W (xp X) (xl X) (xe X) (xR X) (xs X) (xm X) (xa X) (xb X) (xt X) (xc X) H locs cells slots Q (F0 (xm X) pc la (As' ++ st)) := by
  subst hs
  have hK := hX.K
  have hm := hM H.size
  exact qw_called (vx_runSW (As := As) (rest := st) ⟨hX.1, hX.2.1, hX.2.2.1, hX.2.2.2.1, hX.2.2.2.2.1⟩ hm (vx_cwSW n hX.2.2.2.2.1 hG hw rfl rfl hdd ⟨by rw [← hX.2.2.2.2.2.2.2.1]; exact Nat.le_of_ble_eq_true hrm.1, by rw [← hX.2.2.2.2.2.2.2.2.1]; exact Nat.le_of_ble_eq_true hrm.2⟩) ⟨qC_blind, fun U hU hWm => ⟨rfl, by rw [hU], by rw [hU]; exact hW, va_K.moved hWm.alike hK, hR0, hX.Z.keep hWm (fun q h1 h2 => by rw [hU]; exact hold q h1 h2)⟩⟩ rfl hn hh.1 rfl (lv_room (Nat.le_of_ble_eq_true hst)) hd hcl) hS hA hA2 kk
theorem qw_getR (hX : qOk X cc own nL ret Ts fr lo) {index ci k fid a : Nat} (hf : qFd own Ts index ci k 1 fid) (hd : decode cc pc = .ok (.getfield index, 3)) (ha : gK (xG X) a = ci + 1) (hW : qW (xG X) μ H) (kk : W (xp X) (xl X) (xe X) (xR X) (xs X) (xm X) (xa X) (xb X) (xt X) (xc X) H locs cells slots Q (F0 (xm X) (pc + 3) la (.ref (gR (xG X) fid a) :: st))) : W (xp X) (xl X) (xe X) (xR X) (xs X) (xm X) (xa X) (xb X) (xt X) (xc X) H locs cells slots Q (F0 (xm X) pc la (.ref a :: st)) := by
  obtain ⟨C, T, N, ref, h1, h2, h3, h4, h5, h6, h7⟩ := hf
  obtain ⟨q, hq⟩ := qg_at (μ := μ) (hX.T.l ha (Nat.succ_ne_zero _))
  rw [qE_obj ha h7] at hq
  exact va_get hX.1 hX.2.1 hX.2.2.2.2.1 h2 hX.2.2.2.1 hX.K hW.1 q hq h1 k h3 (hX.2.2.2.2.1 _ h4) (fun x h => by rw [← h5]; exact h) (v := .ref (gR (xG X) fid a)) (by rw [List.getElem?_map, h6]; rfl) hd kk
end QW
theorem qW.kept {G : qG} {μ : qM} {H H1 : Heap} (h : qW G μ H) (hq : ∀ q : Nat, q < H.size → q ∈ gL G → H1[q]? = H[q]?) : qW G μ H1 := by
  refine ⟨h.1.kept (fun k q hk => hq q.1 (h.1 k q hk).lt ?_), h.2⟩
  unfold va_pl at hk
  obtain ⟨a, ha, rfl⟩ := List.mem_map.mp (List.mem_of_getElem? hk)
  exact ha
