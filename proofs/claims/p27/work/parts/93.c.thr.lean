/-! MACHINE: of, position, money of the class where they throw; the law's helpers then -/
/-- what else a throw asks of a state -/
def xZ (G : qG) (sa : Nat × Nat × Nat) (U : State) : Prop := (va_Nw (.declares (Bundle.initS "java/lang/RuntimeException")) U ∧ va_Nw (.declares (Bundle.initS "java/lang/Exception")) U ∧ va_Nw (.declares (Bundle.initS Bundle.tN)) U ∧ va_Nw (.castable NSE NSE) U) ∧
  (vk_R RX7 142 "no such order rests" sa.1 U ∧ vk_R RX7 163 "what is 0 to 5" sa.2.1 U ∧ vk_R RX7 275 "traders are 0 to 9" sa.2.2 U) ∧
  vx_Zq Bundle.tN "UNASSIGNED_STACK" Bundle.steD (fun q => q ∈ gL G) U U.heap ∧ vx_Zq Bundle.tN "SUPPRESSED_SENTINEL" Bundle.listD (fun q => q ∈ gL G) U U.heap
theorem xZ.keep {G : qG} {sa : Nat × Nat × Nat} {s U : State} (h : xZ G sa s) (hW : s.WarmedH U.vm) (hq : ∀ q, q < s.heap.size → q ∉ gL G → U.heap[q]? = s.heap[q]?) : xZ G sa U := by
  obtain ⟨⟨a1, a2, a3, a4⟩, ⟨b1, b2, b3⟩, c1, c2⟩ := h
  exact ⟨⟨va_Nw.warmD hW a1, va_Nw.warmD hW a2, va_Nw.warmD hW a3, va_Nw.warmC hW a4⟩, ⟨b1.warm hW, b2.warm hW, b3.warm hW⟩, (c1.moved hW.alike).kept hq, (c2.moved hW.alike).kept hq⟩
theorem xZ.same {G : qG} {sa : Nat × Nat × Nat} {u U : State} (h : xZ G sa u) (hv : U.vm = u.vm) (hh : U.heap = u.heap) : xZ G sa U := by
  obtain ⟨⟨a1, a2, a3, a4⟩, ⟨b1, b2, b3⟩, c1, c2⟩ := h
  have ha : u.vm.Alike U.vm := by rw [hv]; exact Vm.Alike.refl u.vm
  exact ⟨⟨va_Nw.same rfl hv.symm a1, va_Nw.same rfl hv.symm a2, va_Nw.same rfl hv.symm a3, va_Nw.same rfl hv.symm a4⟩, ⟨b1.same hv, b2.same hv, b3.same hv⟩, by rw [hh]; exact c1.moved ha, by rw [hh]; exact c2.moved ha⟩
theorem va_Z.up {C n d : String} {v : Value} {G : qG} {U : State} {H : Heap} (h : va_Z C n d v (fun q => q ∈ gL G) U H) : va_Z C n d v (qA G H.size) U H := by
  obtain ⟨cf, kf, fi, f, a, cell, h1, h2, h3, h4, h5, h6, h7, h8⟩ := h
  exact ⟨cf, kf, fi, f, a, cell, h1, h2, h3, h4, h5, h6, h7, fun z => z.elim h8 (fun z => absurd (Array.getElem?_eq_some_iff.mp h5).1 (Nat.not_lt.mpr z))⟩
theorem vx_Zq.up {C n d : String} {G : qG} {U : State} {H : Heap} (h : vx_Zq C n d (fun q => q ∈ gL G) U H) : vx_Zq C n d (qA G H.size) U H := by
  refine ⟨?_, ?_⟩
  · rcases h.1 with h | ⟨t, h⟩
    · exact Or.inl h.up
    · exact Or.inr ⟨t, h.up⟩
  · obtain ⟨c, k, i, f, a, cell, h1, h2, h3, h4, h5, h6, h7, h8, h9, h10⟩ := h.2
    exact ⟨c, k, i, f, a, cell, h1, h2, h3, h4, h5, h6, h7, h8, h9, fun z => z.elim h10 (fun z => absurd (Array.getElem?_eq_some_iff.mp h5).1 (Nat.not_lt.mpr z))⟩
abbrev rmX : Room := { frames := 6, cells := 1, slots := 6, locals := 90 }
/-- a method's contract where it throws: the memory is as it was -/
def xC (l : Launch) (y : MethodName) (ws : List Cond) (G : qG) (av : List Value) (μ : qM) (sa : Nat × Nat × Nat) (Qc : Nat → Array Value → State → Outcome → State → Prop) : Prop :=
  ∀ sz : Nat, vx_Met l y ws rmX (va_Pc av (fun U => U.heap.size = sz ∧ qWs G μ U ∧ xZ G sa U)) (Qc sz) (vx_X (fun _ : Unit => True) (fun E _ t => E = NSE ∧ qW G μ t.heap) (qA G sz)) 1 6 (qA G sz)
abbrev xQi (G : qG) (sz : Nat) : Array Value → State → Outcome → State → Prop := va_Qi (fun _ (_ : Unit) => False) (fun _ _ => True) (qA G sz)
abbrev xQl (G : qG) (sz : Nat) : Array Value → State → Outcome → State → Prop := va_Ql (fun _ (_ : Unit) => False) (fun _ _ => True) (qA G sz)
theorem x_blind {G : qG} {μ : qM} {sa : Nat × Nat × Nat} {av : List Value} {sz : Nat} : FrameBlind (va_Pc av (fun U => U.heap.size = sz ∧ qWs G μ U ∧ xZ G sa U)) := by
  intro a U g mk q
  obtain ⟨q0, q1, ⟨qW0, qK, qR0, qZ0⟩, qx⟩ := q
  exact ⟨q0, q1, ⟨qW0, va_K.moved (u := U) (U := U.calling g mk a) (Vm.Alike.refl U.vm) qK, qR0, qZ0.same rfl rfl⟩, qx.same rfl rfl⟩
theorem x_hat {G : qG} {sa : Nat × Nat × Nat} {args : Array Value} {s : State} (h1 : ∀ w ∈ xGw, w.before args s = true) (hx : xZ G sa s) : ∀ w ∈ xAt, w.before args s = true := by
  refine vx_hat h1 x_ng ?_
  obtain ⟨⟨a1, a2, a3, a4⟩, -⟩ := hx
  exact vx_c (va_Nw.use rfl a1) (vx_c (va_Nw.use rfl a2) (vx_c (va_Nw.use rfl a3) (vx_c (va_Nw.use rfl a4) vx_n)))
/-- what a throw leaves -/
theorem x_left {G : qG} {μ : qM} {s : State} {H : Heap} {locs : List Loc} (hW : qW G μ H) (hS : va_S (qA G s.heap.size) s.heap H locs) : ∀ t : State, s.vm.Alike t.vm → H.size ≤ t.heap.size → (∀ q : Nat, q < H.size → t.heap[q]? = H[q]?) → vx_X (fun _ : Unit => True) (fun E _ t => E = NSE ∧ qW G μ t.heap) (qA G s.heap.size) NSE s t := by
  intro t _ hz hq
  exact ⟨(), trivial, ⟨rfl, hW.kept (fun q h _ => hq q h)⟩, Nat.le_trans hS.1 hz, fun q h1 h2 => (hq q (Nat.lt_of_lt_of_le h1 hS.1)).trans (hS.2.1 q h1 h2)⟩
set_option maxHeartbeats 8000000 in
set_option maxRecDepth 100000 in
theorem x_X7_position (l : Launch) (hl0 : l.stackTraces = false) {G : qG} (hT : qT G) {x0 : Nat} {x1 : Int} (k_x0 : gK G x0 = 8) (r_x1 : in32 x1) (h0 : ¬ (0 ≤ x1 ∧ x1 < 10)) {m0 : qM} {sa : Nat × Nat × Nat} : xC l yX7_position wsY_position G [.ref x0, .int (iZ x1)] m0 sa (xQi G) := by
  intro sz
  refine vx_ofW (cc := cX7_position) (maxL := 2) (ret := some .int) (by decide) rfl ?_
  intro p e s m args below meth c s₁ B hml htab hv
  obtain ⟨rfl, hsz, ⟨hW, hK, hR, hZ⟩, hx9⟩ := hv
  have hl := lv_entry ([.ref x0, .int (iZ x1)]) (n := 2) (Nat.le_of_ble_eq_true rfl)
  rw [lg_entry_eq]
  generalize (lg_sl ([.ref x0, .int (iZ x1)]) ++ List.replicate (2 - (lg_sl ([.ref x0, .int (iZ x1)])).length) Slot.unset).toArray = ls at hl ⊢
  have hl : lv_has ls 2 [(0, .ref x0), (1, .int (iZ x1))] := hl
  subst hsz
  obtain ⟨X, hXe⟩ : ∃ X : qB, X = (p, l, e, rmX, s, m, (([.ref x0, .int (iZ x1)] : List Value)).toArray, below, meth, c, G, none, True, m0) := ⟨_, rfl⟩
  have hts := atoms_spec (ws := wsY_position) B.pre
  have hX : qOk (p, l, e, rmX, s, m, (([.ref x0, .int (iZ x1)] : List Value)).toArray, below, meth, c, G, none, True, m0) cX7_position RX7 2 (some .int) wsY_position 6 90 := ⟨B.exec, B.bytes, hml, findClass_of_methodNamed B.named, hts, B.notSynchronized, B.returns, rfl, rfl, hK, hT, hZ⟩
  have hx := B.exec
  have hb := B.bytes
  have hS : va_S (qA G s.heap.size) s.heap s.heap [] := va_S.rf
  have hat := x_hat (G := G) (sa := sa) (fun w hw => hts w (List.mem_cons_of_mem _ (List.mem_append_right _ hw))) hx9
  have hA : ∀ q, q ∈ gL G → qA G s.heap.size q := fun _ h => Or.inl h
  have hA2 : ∀ q : Nat, s.heap.size ≤ q → qA G s.heap.size q := fun _ h => Or.inr h
  have e_m1 : f_X7_isTrader 0 G x1 m0 = some (0, m0) := by rw [z_isTrader7, b01_f (show aIn x1 0 9 = false from decide_eq_false (by omega))]
  refine lv_iload_n hx hb dX7_position_0 rfl (lv_at hl 1 rfl) ?_
  refine qw_callS hX [.int (iZ x1)] [.int (iZ x1)] 1 dX7_position_1 gY_position_X7_isTrader rfl dd_X7_isTrader ⟨rfl, rfl⟩ rfl rfl rfl ⟨Nat.zero_le _, Nat.zero_le _⟩ hl hW hS hA hA2 (fun _ _ _ => rfl) hR (k_X7_isTrader l hT r_x1 e_m1) (fun _ H locs hW _ _ hS hR => ?_)
  refine lv_if_ne (tgt := 18) hx hb dX7_position_4 (by decide) (fun c1 => absurd c1 (by decide)) (fun c1 => ?_)
  exact x_throwW hx hb hl0 hX.2.2.2.1 (hts (.classLink RX7 140 NSE) (by decide +kernel)) (hts (.initialized NSE) (by decide +kernel)) hx9.2.1.2.2 hat hx9.2.2.1.up hx9.2.2.2.up hS (hl.1.trans hml.symm) dX7_position_7 dX7_position_10 dX7_position_11 dX7_position_14 dX7_position_17 (fun x h => (htab x h).elim) (Nat.le_of_ble_eq_true rfl) (Nat.le_of_ble_eq_true rfl) (Nat.le_of_ble_eq_true rfl) (Nat.le_of_ble_eq_true rfl) B.notSynchronized (x_left hW hS) hS.2.2 (Nat.le_of_ble_eq_true rfl) (Nat.le_of_ble_eq_true rfl)
set_option maxHeartbeats 8000000 in
set_option maxRecDepth 100000 in
theorem x_X7_of (l : Launch) (hl0 : l.stackTraces = false) {G : qG} (hT : qT G) {N : Nat} {x0 : Nat} {x1 x2 : Int} (k_x0 : gK G x0 = 8) (r_x1 : in32 x1) (r_x2 : in32 x2) {m0 : qM} {f : Option Nat} (e_m1 : f_X0_find N G (gR G 200 (gR G 700 x0)) x1 m0 = some (f, m0)) (h0 : f = none ∨ x2 < 0 ∨ 5 < x2) {sa : Nat × Nat × Nat} : xC l yX7_of wsY_of G [.ref x0, .int (iZ x1), .int (iZ x2)] m0 sa (xQi G) := by
  intro sz
  refine vx_ofW (cc := cX7_of) (maxL := 4) (ret := some .int) (by decide) rfl ?_
  intro p e s m args below meth c s₁ B hml htab hv
  obtain ⟨rfl, hsz, ⟨hW, hK, hR, hZ⟩, hx9⟩ := hv
  have hl := lv_entry ([.ref x0, .int (iZ x1), .int (iZ x2)]) (n := 4) (Nat.le_of_ble_eq_true rfl)
  rw [lg_entry_eq]
  generalize (lg_sl ([.ref x0, .int (iZ x1), .int (iZ x2)]) ++ List.replicate (4 - (lg_sl ([.ref x0, .int (iZ x1), .int (iZ x2)])).length) Slot.unset).toArray = ls at hl ⊢
  have hl : lv_has ls 4 [(0, .ref x0), (1, .int (iZ x1)), (2, .int (iZ x2))] := hl
  subst hsz
  obtain ⟨X, hXe⟩ : ∃ X : qB, X = (p, l, e, rmX, s, m, (([.ref x0, .int (iZ x1), .int (iZ x2)] : List Value)).toArray, below, meth, c, G, none, True, m0) := ⟨_, rfl⟩
  have hts := atoms_spec (ws := wsY_of) B.pre
  have hX : qOk (p, l, e, rmX, s, m, (([.ref x0, .int (iZ x1), .int (iZ x2)] : List Value)).toArray, below, meth, c, G, none, True, m0) cX7_of RX7 4 (some .int) wsY_of 6 90 := ⟨B.exec, B.bytes, hml, findClass_of_methodNamed B.named, hts, B.notSynchronized, B.returns, rfl, rfl, hK, hT, hZ⟩
  have hx := B.exec
  have hb := B.bytes
  have hS : va_S (qA G s.heap.size) s.heap s.heap [] := va_S.rf
  have hat := x_hat (G := G) (sa := sa) (fun w hw => hts w (List.mem_cons_of_mem _ (List.mem_append_right _ hw))) hx9
  have hA : ∀ q, q ∈ gL G → qA G s.heap.size q := fun _ h => Or.inl h
  have hA2 : ∀ q : Nat, s.heap.size ≤ q → qA G s.heap.size q := fun _ h => Or.inr h
  refine lv_aload_n hx hb dX7_of_0 rfl (lv_at hl 0 rfl) ?_
  refine qw_getR hX fd_X7_of_10 dX7_of_1 k_x0 hW ?_
  refine qw_getR hX fd_X7_of_105 dX7_of_4 (qr_700 hT k_x0) hW ?_
  refine lv_iload_n hx hb dX7_of_7 rfl (lv_at hl 1 rfl) ?_
  refine qw_callV hX [.int (iZ x1)] [.int (iZ x1)] 1 dX7_of_8 gY_of_X0_find rfl dd_X0_find ⟨rfl, rfl⟩ rfl rfl (by decide) (qr_200 hT (qr_700 hT k_x0)) rfl rfl ⟨Nat.zero_le _, Nat.zero_le _⟩ hl hW hS hA hA2 (fun _ _ _ => rfl) hR (k_X0_find l hT (qr_200 hT (qr_700 hT k_x0)) r_x1 e_m1) (fun r_v2 H locs hW _ _ hS hR => ?_)
  rcases f with _ | o3
  · refine lv_astore_nN (lv' := [(3, .null), (0, .ref x0), (1, .int (iZ x1)), (2, .int (iZ x2))]) hx hb dX7_of_11 rfl hl (by decide) rfl (fun ls hl => ?_)
    refine lv_aload_nN hx hb dX7_of_12 rfl (lv_at hl 0 rfl) ?_
    refine lv_ifnonnullN hx hb dX7_of_13 ?_
    exact x_throw hx hb hl0 hX.2.2.2.1 (hts (.classLink RX7 140 NSE) (by decide +kernel)) (hts (.initialized NSE) (by decide +kernel)) hx9.2.1.1 hat hx9.2.2.1.up hx9.2.2.2.up hS (hl.1.trans hml.symm) dX7_of_16 dX7_of_19 dX7_of_20 dX7_of_22 dX7_of_25 (fun x h => (htab x h).elim) (Nat.le_of_ble_eq_true rfl) (Nat.le_of_ble_eq_true rfl) (Nat.le_of_ble_eq_true rfl) (Nat.le_of_ble_eq_true rfl) B.notSynchronized (x_left hW hS) hS.2.2 (Nat.le_of_ble_eq_true rfl) (Nat.le_of_ble_eq_true rfl)
  · refine lv_astore_n (lv' := [(3, .ref o3), (0, .ref x0), (1, .int (iZ x1)), (2, .int (iZ x2))]) hx hb dX7_of_11 rfl hl (by decide) rfl (fun ls hl => ?_)
    refine lv_aload_n hx hb dX7_of_12 rfl (lv_at hl 0 rfl) ?_
    refine lv_ifnonnull (tgt := 26) hx hb dX7_of_13 (by decide) ?_
    refine lv_iload_n hx hb dX7_of_26 rfl (lv_at hl 3 rfl) ?_
    refine lv_tableOut (tgt := 101) hx hb dX7_of_27 (by rw [iZ_toInt r_x2]; exact h0.elim (fun h => by cases h) id) (by decide) ?_
    exact x_throw hx hb hl0 hX.2.2.2.1 (hts (.classLink RX7 140 NSE) (by decide +kernel)) (hts (.initialized NSE) (by decide +kernel)) hx9.2.1.2.1 hat hx9.2.2.1.up hx9.2.2.2.up hS (hl.1.trans hml.symm) dX7_of_101 dX7_of_104 dX7_of_105 dX7_of_107 dX7_of_110 (fun x h => (htab x h).elim) (Nat.le_of_ble_eq_true rfl) (Nat.le_of_ble_eq_true rfl) (Nat.le_of_ble_eq_true rfl) (Nat.le_of_ble_eq_true rfl) B.notSynchronized (x_left hW hS) hS.2.2 (Nat.le_of_ble_eq_true rfl) (Nat.le_of_ble_eq_true rfl)
/-- the law's helper where the class throws: 0, and the memory is as it was -/
def xL (l : Launch) (y : MethodName) (ws : List Cond) (G : qG) (av : List Value) (μ : qM) (sa : Nat × Nat × Nat) : Prop :=
  ∀ sz : Nat, Met l y ws { frames := 7, cells := 1, slots := 6, locals := 115 } (va_Pc av (fun U => U.heap.size = sz ∧ qWs G μ U ∧ xZ G sa U)) (va_Qi (fun r (_ : Unit) => r = 0) (fun _ t => qW G μ t.heap) (qA G sz)) 1 6 (qA G sz)

set_option maxHeartbeats 8000000 in
set_option maxRecDepth 100000 in
theorem x_L_size (l : Launch) {G : qG} (hT : qT G) {x0 : Nat} {x1 : Int} (k_x0 : gK G x0 = 8) {m0 : qM} {sa : Nat × Nat × Nat} (h : ∀ l : Launch, l.stackTraces = false → xC l yX7_of wsY_of G [.ref x0, .int (iZ x1), .int (iZ 3)] m0 sa (xQi G)) (hl0 : l.stackTraces = false) : xL l yL_size wsM_size G [.ref x0, .int (iZ x1)] m0 sa := by
  intro sz
  refine va_MetW (cc := cL_size) (maxL := 3) (ret := some .int) (by decide) rfl ?_
  intro p e s m args below meth c s₁ B hml hv
  obtain ⟨rfl, hsz, ⟨hW, hK, hR, hZ⟩, hx9⟩ := hv
  have hl := lv_entry ([.ref x0, .int (iZ x1)]) (n := 3) (Nat.le_of_ble_eq_true rfl)
  rw [lg_entry_eq]
  generalize (lg_sl ([.ref x0, .int (iZ x1)]) ++ List.replicate (3 - (lg_sl ([.ref x0, .int (iZ x1)])).length) Slot.unset).toArray = ls at hl ⊢
  have hl : lv_has ls 3 [(0, .ref x0), (1, .int (iZ x1))] := hl
  subst hsz
  have hts := atoms_spec (ws := wsM_size) B.pre
  have hx := B.exec
  have hb := B.bytes
  have hown : s.vm.findClass RL = some m.cls := findClass_of_methodNamed B.named
  have htb : c.exceptionTable.toList = tableOf [(0, 6, 7, 64)] := vx_table (x := yL_size) B (hts _ List.mem_cons_self)
  have hS : va_S (qA G s.heap.size) s.heap s.heap [] := va_S.rf
  obtain ⟨q, hq⟩ := qg_at (μ := m0) (hT.l k_x0 (Nat.succ_ne_zero _))
  rw [qE_obj k_x0 (by decide)] at hq
  refine lv_aload_n hx hb dL_size_0 rfl (lv_at hl 0 rfl) ?_
  refine lv_iload_n hx hb dL_size_1 rfl (lv_at hl 1 rfl) ?_
  refine lv_iconst (v := iZ 3) hx hb dL_size_2 (by decide) ?_
  refine vx_calli (vx_runV (As := [.int (iZ x1), .int (iZ 3)]) (rest := []) ⟨hx, hb, hml, hown, hts⟩ (h l hl0 s.heap.size) (cwV 2 hts gM_size_Y_of rfl rfl rfl dd_X7_of ⟨Nat.le_of_ble_eq_true rfl, Nat.le_of_ble_eq_true rfl⟩) ⟨x_blind, va_recv hK hW.1 (ci := 7) rfl hq, fun U hU hWm => ⟨rfl, by rw [hU], ⟨by rw [hU]; exact hW, va_K.moved hWm.alike hK, hR, hZ.keep hWm (fun q _ _ => by rw [hU])⟩, hx9.keep hWm (fun q _ _ => by rw [hU])⟩⟩ rfl rfl hl.1 rfl (lv_room (Nat.le_of_ble_eq_true rfl)) dL_size_3 ⟨by decide, by decide⟩) hS (fun q _ h => h) (fun q h => h) (fun q _ h => h) (fun E ce q9 u t H locs ht hvm hp hB hz hk hS hc1 hc2 hc3 => ?_) (fun _ _ _ _ _ _ _ hp => hp.elim)
  obtain ⟨rfl, hW1⟩ := hB
  rw [ht] at hW1
  refine vx_catch (own := RL) (name := NSE) (E := NSE) hown [] ⟨0, 6, 7, 64⟩ [] htb (fun z h => absurd h List.not_mem_nil) (by decide) (by decide) (hts (.classLink RL 64 NSE) (by decide +kernel)) (va_Nw.use rfl hx9.1.2.2.2) hc1 hc2 hc3 ?_
  refine lv_astore_n (lv' := [(2, .ref q9), (0, .ref x0), (1, .int (iZ x1))]) hx hb dL_size_7 rfl hl (by decide) rfl (fun ls hl => ?_)
  refine lv_iconst (v := 0) hx hb dL_size_8 (by decide) ?_
  exact W.iret hx hb B.returns (fun t2 ht2 hWm => ⟨⟨0, (), rfl, rfl, by show qW G m0 t2.heap; rw [ht2]; exact hW1⟩, hS.F ht2⟩) hS.2.2 dL_size_9 B.notSynchronized
