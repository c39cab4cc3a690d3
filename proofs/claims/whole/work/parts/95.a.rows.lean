/-! MACHINE: the law's walk: rows (the first of them out of the kit's skeleton) -/
def R_law : String := "ProRataMarketLaw"
def lw_P (b : Addr) (xs : List Int32) (args : Array Value) (s : State) : Prop := args = #[.ref b] ∧ s.IntsAt b xs ∧ xs.length ≤ 3584 ∧ (Jvm.Cond.and given_1 narrow_1).before args s = true
def lw_Q (_ : Array Value) (s : State) (o : Outcome) (t : State) : Prop := o = .returned (some (.int 1)) ∧ Framed s o t [] 601024 7293034
def lw_Z (below : List Frame) (a : Array Value) (s : State) : State → Prop := fun t => ∃ o, t.status = .running ∧ Ended t below o ∧ lw_Q a s o t
/-- the law's own end, with 1 on the stack, nothing written that was there before, its room as the claim has it -/
theorem lw_ret {p : Program} {l : Launch} {e : Env} {s : State} {m : MethodId} {below : List Frame} {meth : Method} {c : Code} {b : Nat} (hx : p.tables.exec = Jvm.exec) (hb : c.code = code) (hr : meth.sig.returnType = ret) (hlocks : meth.locks = false) {pc : Nat} {H : Heap} {ls : Array Slot} (hdg : decode code pc = .ok (.ireturn, 1)) : W p l e room_1 s m #[Value.ref b] below meth c H [] 601024 7293034 (lw_Z below #[Value.ref b] s) (F0 m pc ls [.int 1]) := by
  intro T hT X
  obtain ⟨fs, hret, hrun, hended, hW, hframe⟩ := X.leave (v := some (.int 1)) (hlocks := hlocks) (fun h => by rw [hr] at h; cases h)
  have hmeth' : T.vm.method? m = some meth := X.method'
  refine ⟨T.setFrames fs, ?_, .returned (some (.int 1)), hrun, hended, rfl, ⟨_, rfl⟩, hW, hframe⟩
  jvm_step X.here [X.here.top, hx, hb, hdg, hmeth', hr, ret, narrow_b1]
  (try refine ⟨rfl, ?_⟩); (try refine ⟨rfl, ?_⟩)
  first | (intro acts; rw [hret _ acts rfl rfl rfl]) | rw [hret _ _ rfl rfl rfl]
  exact Steps.refl _
/-- what holds at the law's entry: the machine, the code, the tables' words (any of lw_tbl by 'hts w (by decide +kernel)'), the script of L ints xs at the cell b, what the Statement gives of the start (any of its parts by flat_of_before) -/
def lw_At (p : Program) (s : State) (m : MethodId) (meth : Method) (c : Code) (b L : Nat) (xs : Nat → Int32) : Prop :=
  p.tables.exec = Jvm.exec ∧ c.code = code ∧ meth.sig.returnType = ret ∧ c.maxLocals = 8 ∧ s.vm.findClass R_law = some m.cls ∧ (∀ w ∈ lw_tbl, w.before #[Value.ref b] s = true) ∧ va_X b L xs s s.heap ∧ b < s.heap.size ∧ meth.locks = false ∧ (Jvm.Cond.and given_1 narrow_1).before #[Value.ref b] s = true

abbrev lB : Type := Program × Launch × Env × State × MethodId × List Frame × Method × Code × Nat × qG × qG
abbrev yp (Y : lB) : Program := Y.1
abbrev yl (Y : lB) : Launch := Y.2.1
abbrev ye (Y : lB) : Env := Y.2.2.1
abbrev ys (Y : lB) : State := Y.2.2.2.1
abbrev ym (Y : lB) : MethodId := Y.2.2.2.2.1
abbrev yb (Y : lB) : List Frame := Y.2.2.2.2.2.1
abbrev yt (Y : lB) : Method := Y.2.2.2.2.2.2.1
abbrev yc (Y : lB) : Code := Y.2.2.2.2.2.2.2.1
abbrev ya (Y : lB) : Nat := Y.2.2.2.2.2.2.2.2.1
abbrev y7 (Y : lB) : qG := Y.2.2.2.2.2.2.2.2.2.1
abbrev y8 (Y : lB) : qG := Y.2.2.2.2.2.2.2.2.2.2
abbrev qM0 : qM := (fun _ _ => 0, fun _ _ => 0, fun _ _ => none)
/-- one side's world in the law's walk -/
abbrev lX (Y : lB) (G : qG) : qB := (yp Y, yl Y, ye Y, room_1, ys Y, ym Y, #[Value.ref (ya Y)], yb Y, yt Y, yc Y, G, none, True, qM0)
/-- what is fixed in the law's walk -/
def lFx (Y : lB) (L : Nat) (xs : Nat → Int32) (ρ : Nat → Nat × Nat) (x mm o : Nat) (sa : Nat × Nat × Nat) : Prop :=
  lw_At (yp Y) (ys Y) (ym Y) (yt Y) (yc Y) (ya Y) L xs ∧ L ≤ 3584 ∧ (yl Y).stackTraces = false ∧ qOk (lX Y (y7 Y)) cL_law RL 8 ret wsM_law 11 450 ∧ qOk (lX Y (y8 Y)) cL_law RL 8 ret wsM_law 11 450 ∧
  (cLY (y7 Y) ρ x ∧ gK (y7 Y) x = 8 ∧ gK (y7 Y) o = 3001 ∧ ((ρ o).1 = o ∧ o ≠ gR (y7 Y) 700 x ∧ o ≠ gR (y7 Y) 701 x ∧ o ≠ x) ∧ xZ (y7 Y) sa (ys Y)) ∧ (mL (y8 Y) mm ∧ gK (y8 Y) mm = 9) ∧
  (∀ q, q ∈ gL (y7 Y) → (ys Y).heap.size ≤ q ∧ q ∉ gL (y8 Y)) ∧ ∀ q, q ∈ gL (y8 Y) → (ys Y).heap.size ≤ q
def lNx (Y : lB) (cells slots pc : Nat) (ls : List (Nat × Value)) (st : List Value) (μ7 μ8 : qM) : Prop :=
  ∀ (H : Heap) (locs : List Loc) (la : Array Slot), lv_has la 8 ls → qW (y7 Y) μ7 H → qW (y8 Y) μ8 H → va_S (fun q => (ys Y).heap.size ≤ q) (ys Y).heap H locs → qR (y7 Y) μ7 → qR (y8 Y) μ8 →
    W (yp Y) (yl Y) (ye Y) room_1 (ys Y) (ym Y) #[Value.ref (ya Y)] (yb Y) (yt Y) (yc Y) H locs cells slots (lw_Z (yb Y) #[Value.ref (ya Y)] (ys Y)) (F0 (ym Y) pc la st)
/-- an int of the script -/
def lA (xs : Nat → Int32) (i k : Nat) : Int := (xs (i + k)).toInt
theorem lA_in {xs : Nat → Int32} {i k : Nat} : in32 (lA xs i k) := in32_of _
section LROWS
variable {Y : lB} {L : Nat} {xs : Nat → Int32} {ρ : Nat → Nat × Nat} {x mm o : Nat} {sa : Nat × Nat × Nat} {cells slots pc : Nat} {ls ls' : List (Nat × Value)} {st : List Value} {μ7 μ8 : qM}
theorem lFx.e (h : lFx Y L xs ρ x mm o sa) : (yp Y).tables.exec = Jvm.exec := h.1.1
theorem lFx.b (h : lFx Y L xs ρ x mm o sa) : (yc Y).code = cL_law := h.1.2.1
theorem lFx.X7 (h : lFx Y L xs ρ x mm o sa) : qOk (lX Y (y7 Y)) cL_law RL 8 ret wsM_law 11 450 := h.2.2.2.1
theorem lFx.X8 (h : lFx Y L xs ρ x mm o sa) : qOk (lX Y (y8 Y)) cL_law RL 8 ret wsM_law 11 450 := h.2.2.2.2.1
theorem lFx.T7 (h : lFx Y L xs ρ x mm o sa) : qT (y7 Y) := h.X7.T
theorem lFx.T8 (h : lFx Y L xs ρ x mm o sa) : qT (y8 Y) := h.X8.T
theorem lFx.ly (h : lFx Y L xs ρ x mm o sa) : cLY (y7 Y) ρ x := h.2.2.2.2.2.1.1
theorem lFx.k7 (h : lFx Y L xs ρ x mm o sa) : gK (y7 Y) x = 8 := h.2.2.2.2.2.1.2.1
theorem lFx.ko (h : lFx Y L xs ρ x mm o sa) : gK (y7 Y) o = 3001 := h.2.2.2.2.2.1.2.2.1
theorem lFx.ho (h : lFx Y L xs ρ x mm o sa) : (ρ o).1 = o ∧ o ≠ gR (y7 Y) 700 x ∧ o ≠ gR (y7 Y) 701 x ∧ o ≠ x := h.2.2.2.2.2.1.2.2.2.1
theorem lFx.xz (h : lFx Y L xs ρ x mm o sa) : xZ (y7 Y) sa (ys Y) := h.2.2.2.2.2.1.2.2.2.2
theorem lFx.mL (h : lFx Y L xs ρ x mm o sa) : mL (y8 Y) mm := h.2.2.2.2.2.2.1.1
theorem lFx.k8 (h : lFx Y L xs ρ x mm o sa) : gK (y8 Y) mm = 9 := h.2.2.2.2.2.2.1.2
theorem lFx.d7 (h : lFx Y L xs ρ x mm o sa) : ∀ q, q ∈ gL (y7 Y) → (ys Y).heap.size ≤ q ∧ q ∉ gL (y8 Y) := h.2.2.2.2.2.2.2.1
theorem lFx.d8 (h : lFx Y L xs ρ x mm o sa) : ∀ q, q ∈ gL (y8 Y) → (ys Y).heap.size ≤ q := h.2.2.2.2.2.2.2.2
theorem l_qr (k : qR (y7 Y) μ7 → qR (y8 Y) μ8 → lNx Y cells slots pc ls st μ7 μ8) : lNx Y cells slots pc ls st μ7 μ8 := fun H locs la hh h7 h8 hS r7 r8 => k r7 r8 H locs la hh h7 h8 hS r7 r8
theorem l_widen {k n : Nat} (h1 : cells ≤ k) (h2 : slots ≤ n) (kk : lNx Y k n pc ls st μ7 μ8) : lNx Y cells slots pc ls st μ7 μ8 := fun H locs la hh h7 h8 hS r7 r8 => W.widen h1 h2 (kk H locs la hh h7 h8 hS r7 r8)
theorem l_sub (ks : List Nat) (hl : lv_pick ls ks = ls') (k : lNx Y cells slots pc ls' st μ7 μ8) : lNx Y cells slots pc ls st μ7 μ8 := fun H locs la hh h7 h8 hS r7 r8 => k H locs la (lv_sub hh ks hl) h7 h8 hS r7 r8
theorem l_aload_n (hF : lFx Y L xs ρ x mm o sa) {n : Fin 4} {i a : Nat} (hd : decode cL_law pc = .ok (.aload_n n, 1)) (j : Nat) (hl : ls[j]? = some (i, .ref a)) (hi : (n : Nat) = i) (k : lNx Y cells slots (pc + 1) ls (.ref a :: st) μ7 μ8) : lNx Y cells slots pc ls st μ7 μ8 :=
  fun H locs la hh h7 h8 hS r7 r8 => lv_aload_n hF.e hF.b hd hi (lv_at hh j hl) (k H locs la hh h7 h8 hS r7 r8)
theorem l_iload (hF : lFx Y L xs ρ x mm o sa) {i : Nat} {v : Int32} (hd : decode cL_law pc = .ok (.iload i, 2)) (j : Nat) (hl : ls[j]? = some (i, .int v)) (k : lNx Y cells slots (pc + 2) ls (.int v :: st) μ7 μ8) : lNx Y cells slots pc ls st μ7 μ8 :=
  fun H locs la hh h7 h8 hS r7 r8 => lv_iload hF.e hF.b hd (lv_at hh j hl) (k H locs la hh h7 h8 hS r7 r8)
theorem l_lload (hF : lFx Y L xs ρ x mm o sa) {i : Nat} {v : Int64} (hd : decode cL_law pc = .ok (.lload i, 2)) (j : Nat) (hl : ls[j]? = some (i, .long v)) (k : lNx Y cells slots (pc + 2) ls (.long v :: st) μ7 μ8) : lNx Y cells slots pc ls st μ7 μ8 :=
  fun H locs la hh h7 h8 hS r7 r8 => lv_lload hF.e hF.b hd (lv_at hh j hl) (k H locs la hh h7 h8 hS r7 r8)
theorem l_istore (hF : lFx Y L xs ρ x mm o sa) {i : Nat} {v : Int32} (hd : decode cL_law pc = .ok (.istore i, 2)) (hn : Nat.ble (i + 1) 8 = true) (hq : (i, Value.int v) :: ls.filter (fun q => !(q.1 == i) && !(q.1 + 1 == i && q.2.category == 2)) = ls') (k : lNx Y cells slots (pc + 2) ls' st μ7 μ8) : lNx Y cells slots pc ls (.int v :: st) μ7 μ8 :=
  fun H locs la hh h7 h8 hS r7 r8 => lv_istore hF.e hF.b hd hh (Nat.le_of_ble_eq_true hn) hq (fun la' hl => k H locs la' hl h7 h8 hS r7 r8)
theorem l_lstore (hF : lFx Y L xs ρ x mm o sa) {i : Nat} {v : Int64} (hd : decode cL_law pc = .ok (.lstore i, 2)) (hn : Nat.ble (i + 2) 8 = true) (hq : (i, Value.long v) :: ls.filter (fun q => !(q.1 == i) && (!(q.1 == i + 1) && !(q.1 + 1 == i && q.2.category == 2))) = ls') (k : lNx Y cells slots (pc + 2) ls' st μ7 μ8) : lNx Y cells slots pc ls (.long v :: st) μ7 μ8 :=
  fun H locs la hh h7 h8 hS r7 r8 => lv_lstore hF.e hF.b hd hh (Nat.le_of_ble_eq_true hn) hq (fun la' hl => k H locs la' hl h7 h8 hS r7 r8)
theorem l_iconst (hF : lFx Y L xs ρ x mm o sa) {n : Int} (hd : decode cL_law pc = .ok (.iconst n, 1)) (k : lNx Y cells slots (pc + 1) ls (.int (iZ n) :: st) μ7 μ8) : lNx Y cells slots pc ls st μ7 μ8 :=
  fun H locs la hh h7 h8 hS r7 r8 => lv_iconst hF.e hF.b hd rfl (k H locs la hh h7 h8 hS r7 r8)
theorem l_goto (hF : lFx Y L xs ρ x mm o sa) {off : Int} (tgt : Nat) (hd : decode cL_law pc = .ok (.goto off, 3)) (ht : (pc : Int) + off = (tgt : Int)) (k : lNx Y cells slots tgt ls st μ7 μ8) : lNx Y cells slots pc ls st μ7 μ8 :=
  fun H locs la hh h7 h8 hS r7 r8 => lv_goto hF.e hF.b hd ht (k H locs la hh h7 h8 hS r7 r8)
theorem l_same (hF : lFx Y L xs ρ x mm o sa) {v : Int32} {off : Int} (tgt : Nat) (hd : decode cL_law pc = .ok (.if_icmp .eq off, 3)) (ht : (pc : Int) + off = (tgt : Int)) (k : lNx Y cells slots tgt ls st μ7 μ8) : lNx Y cells slots pc ls (.int v :: .int v :: st) μ7 μ8 :=
  fun H locs la hh h7 h8 hS r7 r8 => lv_icmp_eq hF.e hF.b hd ht (fun _ => k H locs la hh h7 h8 hS r7 r8) (fun q => absurd rfl q)
theorem l_zero (hF : lFx Y L xs ρ x mm o sa) {v : Int32} (hv : v = 0) {off : Int} (tgt : Nat) (hd : decode cL_law pc = .ok (.ifCond .eq off, 3)) (ht : (pc : Int) + off = (tgt : Int)) (k : lNx Y cells slots tgt ls st μ7 μ8) : lNx Y cells slots pc ls (.int v :: st) μ7 μ8 :=
  fun H locs la hh h7 h8 hS r7 r8 => lv_if_eq hF.e hF.b hd ht (fun _ => k H locs la hh h7 h8 hS r7 r8) (fun q => absurd hv q)
theorem l_nez (hF : lFx Y L xs ρ x mm o sa) {v : Int32} (hv : v = 0) {off : Int} (tgt : Nat) (hd : decode cL_law pc = .ok (.ifCond .ne off, 3)) (ht : (pc : Int) + off = (tgt : Int)) (k : lNx Y cells slots (pc + 3) ls st μ7 μ8) : lNx Y cells slots pc ls (.int v :: st) μ7 μ8 :=
  fun H locs la hh h7 h8 hS r7 r8 => lv_if_ne hF.e hF.b hd ht (fun q => absurd hv q) (fun _ => k H locs la hh h7 h8 hS r7 r8)
theorem l_nen (hF : lFx Y L xs ρ x mm o sa) {v : Int32} (hv : ¬ v = 0) {off : Int} (tgt : Nat) (hd : decode cL_law pc = .ok (.ifCond .ne off, 3)) (ht : (pc : Int) + off = (tgt : Int)) (k : lNx Y cells slots tgt ls st μ7 μ8) : lNx Y cells slots pc ls (.int v :: st) μ7 μ8 :=
  fun H locs la hh h7 h8 hS r7 r8 => lv_if_ne hF.e hF.b hd ht (fun _ => k H locs la hh h7 h8 hS r7 r8) (fun q => absurd q hv)
theorem l_i2l (hF : lFx Y L xs ρ x mm o sa) {a : Int} (ra : in32 a) (hd : decode cL_law pc = .ok (.i2l, 1)) (k : lNx Y cells slots (pc + 1) ls (.long (lZ a) :: st) μ7 μ8) : lNx Y cells slots pc ls (.int (iZ a) :: st) μ7 μ8 :=
  fun H locs la hh h7 h8 hS r7 r8 => lv_i2l hF.e hF.b hd (iZ_i2l ra) (k H locs la hh h7 h8 hS r7 r8)
theorem l_lsame (hF : lFx Y L xs ρ x mm o sa) {v : Int64} (hd : decode cL_law pc = .ok (.lcmp, 1)) (k : lNx Y cells slots (pc + 1) ls (.int 0 :: st) μ7 μ8) : lNx Y cells slots pc ls (.long v :: .long v :: st) μ7 μ8 := by
  intro H locs la hh h7 h8 hS r7 r8
  refine W.lcmp hF.e hF.b hd ?_
  have e : lg_cmp v v = 0 := by
    unfold lg_cmp
    rw [if_neg (by show ¬ v < v; exact Int64.lt_irrefl), if_pos rfl]
  rw [e]
  exact k H locs la hh h7 h8 hS r7 r8
/-- an argument: script[i + k] -/
theorem l_arg (hF : lFx Y L xs ρ x mm o sa) {i k : Nat} {kz : Int} (hi : i + 7 ≤ L) (hk : k ≤ 6) (hv : Int32.ofInt kz = nI k) (j0 j4 : Nat) (d0 : decode cL_law pc = .ok (.aload_n 0, 1)) (d1 : decode cL_law (pc + 1) = .ok (.iload 4, 2)) (d2 : decode cL_law (pc + 3) = .ok (.iconst kz, 1)) (d3 : decode cL_law (pc + 4) = .ok (.iadd, 1)) (d4 : decode cL_law (pc + 5) = .ok (.iaload, 1)) (hl0 : ls[j0]? = some (0, .ref (ya Y))) (hl4 : ls[j4]? = some (4, .int (nI i)))
    (kk : lNx Y cells slots (pc + 6) ls (.int (iZ (lA xs i k)) :: st) μ7 μ8) : lNx Y cells slots pc ls st μ7 μ8 := by
  intro H locs la hh h7 h8 hS r7 r8
  have hL := hF.2.1
  obtain ⟨hx, hb, -, -, -, -, hX, hbl, -, -⟩ := id hF.1
  refine lv_aload_n hx hb d0 rfl (lv_at hh j0 hl0) ?_
  refine lv_iload hx hb d1 (lv_at hh j4 hl4) ?_
  refine lv_iconst (v := nI k) hx hb d2 hv ?_
  refine lv_iadd hx hb d3 ?_
  rw [nI_add]
  refine va_sld hx hb hX hbl (Nat.not_le.mpr hbl) hS (vp_in_nI (by omega) (by omega)) d4 ?_
  rw [nI_clamp (show i + k < 2 ^ 31 by omega), ← iZ_of (xs (i + k))]
  exact kk H locs la hh h7 h8 hS r7 r8
theorem l_arg6 (hF : lFx Y L xs ρ x mm o sa) {i k : Nat} {kz : Int} (hi : i + 7 ≤ L) (hk : k ≤ 6) (hv : (Int8.ofInt kz).toInt32 = nI k) (j0 j4 : Nat) (d0 : decode cL_law pc = .ok (.aload_n 0, 1)) (d1 : decode cL_law (pc + 1) = .ok (.iload 4, 2)) (d2 : decode cL_law (pc + 3) = .ok (.bipush kz, 2)) (d3 : decode cL_law (pc + 5) = .ok (.iadd, 1)) (d4 : decode cL_law (pc + 6) = .ok (.iaload, 1)) (hl0 : ls[j0]? = some (0, .ref (ya Y))) (hl4 : ls[j4]? = some (4, .int (nI i)))
    (kk : lNx Y cells slots (pc + 7) ls (.int (iZ (lA xs i k)) :: st) μ7 μ8) : lNx Y cells slots pc ls st μ7 μ8 := by
  intro H locs la hh h7 h8 hS r7 r8
  have hL := hF.2.1
  obtain ⟨hx, hb, -, -, -, -, hX, hbl, -, -⟩ := id hF.1
  refine lv_aload_n hx hb d0 rfl (lv_at hh j0 hl0) ?_
  refine lv_iload hx hb d1 (lv_at hh j4 hl4) ?_
  refine lv_bipush (v := nI k) hx hb d2 hv ?_
  refine lv_iadd hx hb d3 ?_
  rw [nI_add]
  refine va_sld hx hb hX hbl (Nat.not_le.mpr hbl) hS (vp_in_nI (by omega) (by omega)) d4 ?_
  rw [nI_clamp (show i + k < 2 ^ 31 by omega), ← iZ_of (xs (i + k))]
  exact kk H locs la hh h7 h8 hS r7 r8
theorem l_hold {H : Heap} {locs : List Loc} (hS : va_S (fun q => (ys Y).heap.size ≤ q) (ys Y).heap H locs) {G : qG} : ∀ q : Nat, q < (ys Y).heap.size → q ∉ gL G → H[q]? = (ys Y).heap[q]? := fun q h _ => hS.2.1 q h (Nat.not_le.mpr h)
/-- a call of the class -/
theorem l_call7 (hF : lFx Y L xs ρ x mm o sa) {index : Nat} {y : MethodName} {ws ws' : List Cond} {bytes : ByteArray} {maxL : Nat} {ret' : Option FieldType} {fr' lo' : Nat} (As As' : List Value) {rv : Option Value} {Φ : Prop} {ν : qM} (n : Nat)
    (hd : decode cL_law pc = .ok (.invokevirtual index, 3)) (hG : GoodIn wsM_law (wsV RL index RX7 y ws)) (hw : ws = Cond.code y bytes maxL ret' :: ws')
    (hdd : y.cls = RX7 ∧ y.cls ≠ "java/lang/invoke/MethodHandle" ∧ y.cls ≠ "java/lang/invoke/VarHandle" ∧ (parseMethodDescriptor y.desc).map (fun d => d.parameters.length) = some n) (hrm : Nat.ble (fr' + 1) 11 = true ∧ Nat.ble (8 + (maxL + 11) + lo') 450 = true)
    (hn : As.length = n) (hs : As' = As.reverse) (hst : Nat.ble ((st.map fun v => v.category).sum) 8 = true) (hcl : cells ≤ 601024 ∧ slots ≤ 7293034) (hM : qC (yl Y) y ws fr' lo' (y7 Y) (.ref x :: As) μ7 rv Φ ν)
    (k : Φ → lNx Y cells slots (pc + 3) ls (rv.toList ++ st) ν μ8) : lNx Y cells slots pc ls (As' ++ .ref x :: st) μ7 μ8 := by
  intro H locs la hh h7 h8 hS r7 r8
  exact qw_callV (X := lX Y (y7 Y)) hF.X7 As As' n hd hG hw hdd hrm hn (ci := 7) rfl (by decide) hF.k7 hs hst hcl hh h7 hS (fun q h => (hF.d7 q h).1) (fun q h => h) (l_hold hS) r7 hM (fun hΦ H1 locs1 hW1 _ hk hS1 hR1 => k hΦ H1 locs1 la hh hW1 (h8.kept (fun q hq hm => hk q hq (fun z => (hF.d7 q z).2 hm))) hS1 hR1 r8)
/-- a call of the reference -/
theorem l_call8 (hF : lFx Y L xs ρ x mm o sa) {index : Nat} {y : MethodName} {ws ws' : List Cond} {bytes : ByteArray} {maxL : Nat} {ret' : Option FieldType} {fr' lo' : Nat} (As As' : List Value) {rv : Option Value} {Φ : Prop} {ν : qM} (n : Nat)
    (hd : decode cL_law pc = .ok (.invokevirtual index, 3)) (hG : GoodIn wsM_law (wsV RL index RX8 y ws)) (hw : ws = Cond.code y bytes maxL ret' :: ws')
    (hdd : y.cls = RX8 ∧ y.cls ≠ "java/lang/invoke/MethodHandle" ∧ y.cls ≠ "java/lang/invoke/VarHandle" ∧ (parseMethodDescriptor y.desc).map (fun d => d.parameters.length) = some n) (hrm : Nat.ble (fr' + 1) 11 = true ∧ Nat.ble (8 + (maxL + 11) + lo') 450 = true)
    (hn : As.length = n) (hs : As' = As.reverse) (hst : Nat.ble ((st.map fun v => v.category).sum) 8 = true) (hcl : cells ≤ 601024 ∧ slots ≤ 7293034) (hM : qC (yl Y) y ws fr' lo' (y8 Y) (.ref mm :: As) μ8 rv Φ ν)
    (k : Φ → lNx Y cells slots (pc + 3) ls (rv.toList ++ st) μ7 ν) : lNx Y cells slots pc ls (As' ++ .ref mm :: st) μ7 μ8 := by
  intro H locs la hh h7 h8 hS r7 r8
  exact qw_callV (X := lX Y (y8 Y)) hF.X8 As As' n hd hG hw hdd hrm hn (ci := 8) rfl (by decide) hF.k8 hs hst hcl hh h8 hS (fun q h => hF.d8 q h) (fun q h => h) (l_hold hS) r8 hM (fun hΦ H1 locs1 hW1 _ hk hS1 hR1 => k hΦ H1 locs1 la hh (h7.kept (fun q hq hm => hk q hq (fun z => (hF.d7 q hm).2 z))) hW1 hS1 r7 hR1)
/-- a call of the law's helper, where the class answers -/
theorem l_callL (hF : lFx Y L xs ρ x mm o sa) {index : Nat} {y : MethodName} {ws ws' : List Cond} {bytes : ByteArray} {maxL : Nat} {ret' : Option FieldType} {hh9 : List (Nat × Nat × Nat × Nat)} {fr' lo' : Nat} (As As' : List Value) {rv : Option Value} {Φ : Prop} {ν : qM} (n : Nat)
    (hd : decode cL_law pc = .ok (.invokestatic index, 3)) (hG : GoodIn wsM_law (va_wsS RL index y ws)) (hw : ws = Cond.codeWith y bytes maxL ret' hh9 :: ws')
    (hdd : y.cls ≠ "java/lang/invoke/MethodHandle" ∧ y.cls ≠ "java/lang/invoke/VarHandle" ∧ (parseMethodDescriptor y.desc).map (fun d => d.parameters.length) = some n) (hrm : Nat.ble (fr' + 1) 11 = true ∧ Nat.ble (8 + (maxL + 11) + lo') 450 = true)
    (hn : As.length = n) (hs : As' = As.reverse) (hst : Nat.ble ((st.map fun v => v.category).sum) 8 = true) (hcl : cells ≤ 601024 ∧ slots ≤ 7293034) (hM : qC (yl Y) y ws fr' lo' (y7 Y) As μ7 rv Φ ν)
    (k : Φ → lNx Y cells slots (pc + 3) ls (rv.toList ++ st) ν μ8) : lNx Y cells slots pc ls (As' ++ st) μ7 μ8 := by
  intro H locs la hh h7 h8 hS r7 r8
  exact qw_callSW (X := lX Y (y7 Y)) hF.X7 As As' n hd hG hw hdd hrm hn hs hst hcl hh h7 hS (fun q h => (hF.d7 q h).1) (fun q h => h) (l_hold hS) r7 hM (fun hΦ H1 locs1 hW1 _ hk hS1 hR1 => k hΦ H1 locs1 la hh hW1 (h8.kept (fun q hq hm => hk q hq (fun z => (hF.d7 q z).2 hm))) hS1 hR1 r8)
/-- and where it throws -/
theorem l_callX (hF : lFx Y L xs ρ x mm o sa) {index : Nat} {y : MethodName} {ws ws' : List Cond} {bytes : ByteArray} {maxL : Nat} {ret' : Option FieldType} {hh9 : List (Nat × Nat × Nat × Nat)} (As As' : List Value) (n : Nat)
    (hd : decode cL_law pc = .ok (.invokestatic index, 3)) (hG : GoodIn wsM_law (va_wsS RL index y ws)) (hw : ws = Cond.codeWith y bytes maxL ret' hh9 :: ws')
    (hdd : y.cls ≠ "java/lang/invoke/MethodHandle" ∧ y.cls ≠ "java/lang/invoke/VarHandle" ∧ (parseMethodDescriptor y.desc).map (fun d => d.parameters.length) = some n) (hrm : Nat.ble (8 + (maxL + 11) + 115) 450 = true)
    (hn : As.length = n) (hs : As' = As.reverse) (hst : Nat.ble ((st.map fun v => v.category).sum) 8 = true) (hcl : cells + 1 ≤ 601024 ∧ slots + 6 ≤ 7293034) (hM : xL (yl Y) y ws (y7 Y) As μ7 sa)
    (k : lNx Y (cells + 1) (slots + 6) (pc + 3) ls (.int 1 :: st) μ7 μ8) : lNx Y cells slots pc ls (As' ++ st) μ7 μ8 := by
  subst hs
  intro H locs la hh h7 h8 hS r7 r8
  have hX := hF.X7
  have hA' : ∀ q, qA (y7 Y) H.size q → (ys Y).heap.size ≤ q := fun q h => h.elim (fun h => (hF.d7 q h).1) (fun h => Nat.le_trans hS.1 h)
  refine va_calli (vx_runSW (As := As) (rest := st) ⟨hX.1, hX.2.1, hX.2.2.1, hX.2.2.2.1, hX.2.2.2.2.1⟩ (hM H.size) (vx_cwSW n hX.2.2.2.2.1 hG hw rfl rfl hdd ⟨by show 7 + 1 ≤ 11; decide, Nat.le_of_ble_eq_true hrm⟩) ⟨x_blind, fun U hU hWm => ⟨rfl, by rw [hU], ⟨by rw [hU]; exact h7, va_K.moved hWm.alike hX.K, r7, hX.Z.keep hWm (fun q h1 h2 => by rw [hU]; exact l_hold hS q h1 h2)⟩, hF.xz.keep hWm (fun q h1 h2 => by rw [hU]; exact l_hold hS q h1 h2)⟩⟩ rfl hn hh.1 rfl (lv_room (Nat.le_of_ble_eq_true hst)) hd hcl) hS (fun q _ h => hA' q h) (fun q h => hA' q h) (fun r u t H1 locs1 ht hvm hw1 hB hz hk hS1 => ?_)
  rw [ht] at hB
  have hw1 : r = 1 := hw1
  subst hw1
  exact k H1 locs1 la hh hB (h8.kept (fun q hq hm => hk q hq (fun z => z.elim (fun z => (hF.d7 q z).2 hm) (fun z => absurd hq (Nat.not_lt.mpr z))))) hS1 r7 r8
/-- the law's own cell read -/
theorem l_lald (hF : lFx Y L xs ρ x mm o sa) (hd : decode cL_law pc = .ok (.laload, 1)) (k : lNx Y cells slots (pc + 1) ls (.long (lZ (gA μ7 o 0)) :: st) μ7 μ8) : lNx Y cells slots pc ls (.int (iZ 0) :: .ref o :: st) μ7 μ8 := by
  intro H locs la hh h7 h8 hS r7 r8
  obtain ⟨q, hq⟩ := qg_at (μ := μ7) (hF.T7.l hF.ko (by decide))
  rw [qE_long (n := 1) hF.ko (by decide)] at hq
  obtain ⟨h1, h2⟩ := vp_in_Z (i := 0) (n := 1) ⟨by decide, by decide⟩ (by decide)
  refine va_lald hF.e hF.b hF.X7.K h7.1 q 2 hq rfl h1 hd ?_
  rw [h2]
  exact k H locs la hh h7 h8 hS r7 r8
end LROWS
/-- the locals at the loop's head -/
abbrev lsv (Y : lB) (x mm o i : Nat) : List (Nat × Value) := [(0, .ref (ya Y)), (1, .ref x), (2, .ref mm), (3, .ref o), (4, .int (nI i))]
