/-! MACHINE: the law's walk: rows (the first of them out of the kit's skeleton) -/
def R_law : String := "ProRataMarketLaw"
def lw_P (b : Addr) (xs : List Int32) (args : Array Value) (s : State) : Prop := args = #[.ref b] ∧ s.IntsAt b xs ∧ xs.length ≤ 260 ∧ (Jvm.Cond.and given_1 narrow_1).before args s = true
def lw_Q (_ : Array Value) (s : State) (o : Outcome) (t : State) : Prop := o = .returned (some (.int 1)) ∧ Framed s o t [] 600074 7301550
def lw_Z (below : List Frame) (a : Array Value) (s : State) : State → Prop := fun t => ∃ o, t.status = .running ∧ Ended t below o ∧ lw_Q a s o t
/-- the law's own end, with 1 on the stack, nothing written that was there before, its room as the claim has it -/
theorem lw_ret {p : Program} {l : Launch} {e : Env} {s : State} {m : MethodId} {below : List Frame} {meth : Method} {c : Code} {b : Nat} (hx : p.tables.exec = Jvm.exec) (hb : c.code = code) (hr : meth.sig.returnType = ret) (hlocks : meth.locks = false) {pc : Nat} {H : Heap} {ls : Array Slot} (hdg : decode code pc = .ok (.ireturn, 1)) : W p l e room_1 s m #[Value.ref b] below meth c H [] 600074 7301550 (lw_Z below #[Value.ref b] s) (F0 m pc ls [.int 1]) := by
  intro T hT X
  obtain ⟨fs, hret, hrun, hended, hW, hframe⟩ := X.leave (v := some (.int 1)) (hlocks := hlocks) (fun h => by rw [hr] at h; cases h)
  have hmeth' : T.vm.method? m = some meth := X.method'
  refine ⟨T.setFrames fs, ?_, .returned (some (.int 1)), hrun, hended, rfl, ⟨_, rfl⟩, hW, hframe⟩
  jvm_step X.here [X.here.top, hx, hb, hdg, hmeth', hr, ret, narrow_b1]
  (try refine ⟨rfl, ?_⟩); (try refine ⟨rfl, ?_⟩)
  first | (intro acts; rw [hret _ acts rfl rfl rfl]) | rw [hret _ _ rfl rfl rfl]
  exact Steps.refl _
/-- what holds at the law's entry: the machine, the code, the tables' words (any of lw_tbl by 'hts w (by decide +kernel)'), the script of L ints xs at the cell b, what the Statement gives of the start (any of its parts by flat_of_before) -/
def lw_At (p : Program) (s : State) (m : MethodId) (meth : Method) (c : Code) (b L : Nat) (xs : Nat → Int32) : Prop :=
  p.tables.exec = Jvm.exec ∧ c.code = code ∧ meth.sig.returnType = ret ∧ c.maxLocals = 21 ∧ s.vm.findClass R_law = some m.cls ∧ (∀ w ∈ lw_tbl, w.before #[Value.ref b] s = true) ∧ va_X b L xs s s.heap ∧ b < s.heap.size ∧ meth.locks = false ∧ (Jvm.Cond.and given_1 narrow_1).before #[Value.ref b] s = true

abbrev lB : Type := Program × Launch × Env × State × MethodId × List Frame × Method × Code × Nat × qG × qG
abbrev yp (Y : lB) : Program := Y.1
abbrev yl (Y : lB) : Launch := Y.2.1
abbrev ye (Y : lB) : Env := Y.2.2.1
abbrev ys (Y : lB) : State := Y.2.2.2.1
abbrev ym (Y : lB) : MethodId := Y.2.2.2.2.1
abbrev yb (Y : lB) : List Frame := Y.2.2.2.2.2.1
abbrev yt (Y : lB) : Method := Y.2.2.2.2.2.2.1
abbrev yc (Y : lB) : Code := Y.2.2.2.2.2.2.2.1
abbrev ya (Y : lB) : Nat := Y.2.2.2.2.2.2.2.2.1
abbrev y7 (Y : lB) : qG := Y.2.2.2.2.2.2.2.2.2.1
abbrev y8 (Y : lB) : qG := Y.2.2.2.2.2.2.2.2.2.2
abbrev qM0 : qM := (fun _ _ => 0, fun _ _ => 0, fun _ _ => none)
/-- one world in the law's walk: 7 the class's, 8 the law's own arrays -/
abbrev lX (Y : lB) (G : qG) : qB := (yp Y, yl Y, ye Y, room_1, ys Y, ym Y, #[Value.ref (ya Y)], yb Y, yt Y, yc Y, G, none, True, qM0)
/-- what is fixed in the law's walk -/
def yF (Y : lB) (L : Nat) (xs : Nat → Int32) (ρ : Nat → Nat × Nat) (x : Nat) (sa : Nat × Nat × Nat) : Prop :=
  lw_At (yp Y) (ys Y) (ym Y) (yt Y) (yc Y) (ya Y) L xs ∧ L ≤ 260 ∧ (yl Y).stackTraces = false ∧ qOk (lX Y (y7 Y)) cL_law RL 21 ret wsM_law 10 340 ∧ qOk (lX Y (y8 Y)) cL_law RL 21 ret wsM_law 10 340 ∧
  (cLY (y7 Y) ρ x ∧ gK (y7 Y) x = 8 ∧ xZ (y7 Y) sa (ys Y)) ∧ (∀ q, q ∈ gL (y7 Y) → (ys Y).heap.size ≤ q ∧ q ∉ gL (y8 Y)) ∧ (∀ q, q ∈ gL (y8 Y) → (ys Y).heap.size ≤ q) ∧ gD (y7 Y) = gD (y8 Y)
/-- the walk's state: cn throws so far -/
def yN (Y : lB) (cn pc : Nat) (ls : List (Nat × Value)) (st : List Value) (m7 m8 : qM) : Prop :=
  cn ≤ 1000 → ∀ (H : Heap) (locs : List Loc) (la : Array Slot), lv_has la 21 ls → qW (y8 Y) m8 H → va_S (fun q => (ys Y).heap.size ≤ q) (ys Y).heap H locs → qR (y8 Y) m8 → qW (y7 Y) m7 H → qR (y7 Y) m7 →
    W (yp Y) (yl Y) (ye Y) room_1 (ys Y) (ym Y) #[Value.ref (ya Y)] (yb Y) (yt Y) (yc Y) H locs (1000 + cn) (60000 + 6 * cn) (lw_Z (yb Y) #[Value.ref (ya Y)] (ys Y)) (F0 (ym Y) pc la st)
section PROWS
variable {Y : lB} {L : Nat} {xs : Nat → Int32} {ρ : Nat → Nat × Nat} {x : Nat} {sa : Nat × Nat × Nat} {cn pc : Nat} {ls ls' : List (Nat × Value)} {st : List Value} {m7 m8 : qM}
theorem yF.e (h : yF Y L xs ρ x sa) : (yp Y).tables.exec = Jvm.exec := h.1.1
theorem yF.b (h : yF Y L xs ρ x sa) : (yc Y).code = cL_law := h.1.2.1
theorem yF.X7 (h : yF Y L xs ρ x sa) : qOk (lX Y (y7 Y)) cL_law RL 21 ret wsM_law 10 340 := h.2.2.2.1
theorem yF.X8 (h : yF Y L xs ρ x sa) : qOk (lX Y (y8 Y)) cL_law RL 21 ret wsM_law 10 340 := h.2.2.2.2.1
theorem yF.T7 (h : yF Y L xs ρ x sa) : qT (y7 Y) := h.X7.T
theorem yF.T8 (h : yF Y L xs ρ x sa) : qT (y8 Y) := h.X8.T
theorem yF.ly (h : yF Y L xs ρ x sa) : cLY (y7 Y) ρ x := h.2.2.2.2.2.1.1
theorem yF.k7 (h : yF Y L xs ρ x sa) : gK (y7 Y) x = 8 := h.2.2.2.2.2.1.2.1
theorem yF.xz (h : yF Y L xs ρ x sa) : xZ (y7 Y) sa (ys Y) := h.2.2.2.2.2.1.2.2
theorem yF.d7 (h : yF Y L xs ρ x sa) : ∀ q, q ∈ gL (y7 Y) → (ys Y).heap.size ≤ q ∧ q ∉ gL (y8 Y) := h.2.2.2.2.2.2.1
theorem yF.d8 (h : yF Y L xs ρ x sa) : ∀ q, q ∈ gL (y8 Y) → (ys Y).heap.size ≤ q := h.2.2.2.2.2.2.2.1
theorem yF.D (h : yF Y L xs ρ x sa) : gD (y7 Y) = gD (y8 Y) := h.2.2.2.2.2.2.2.2
theorem p_cl {cn : Nat} (h : cn ≤ 1000) : 1000 + cn ≤ (600074 : Nat) ∧ 60000 + 6 * cn ≤ (7301550 : Nat) := ⟨by omega, by omega⟩
theorem l_hold {H : Heap} {locs : List Loc} (hS : va_S (fun q => (ys Y).heap.size ≤ q) (ys Y).heap H locs) {G : qG} : ∀ q : Nat, q < (ys Y).heap.size → q ∉ gL G → H[q]? = (ys Y).heap[q]? := fun q h _ => hS.2.1 q h (Nat.not_le.mpr h)
theorem p_sub (ks : List Nat) (hl : lv_pick ls ks = ls') (k : yN Y cn pc ls' st m7 m8) : yN Y cn pc ls st m7 m8 := fun hc H locs la hh hW hS hR h7 r7 => k hc H locs la (lv_sub hh ks hl) hW hS hR h7 r7
theorem p_qr (k : qR (y7 Y) m7 → qR (y8 Y) m8 → yN Y cn pc ls st m7 m8) : yN Y cn pc ls st m7 m8 := fun hc H locs la hh hW hS hR h7 r7 => k r7 hR hc H locs la hh hW hS hR h7 r7
theorem p_iconst (hF : yF Y L xs ρ x sa) {n : Int} (hd : decode cL_law pc = .ok (.iconst n, 1)) (k : yN Y cn (pc + 1) ls (.int (iZ n) :: st) m7 m8) : yN Y cn pc ls st m7 m8 :=
  fun hc H locs la hl hW hS hR h7 r7 => lv_iconst hF.e hF.b hd rfl (k hc H locs la hl hW hS hR h7 r7)
theorem p_bipush (hF : yF Y L xs ρ x sa) {n : Int} (hd : decode cL_law pc = .ok (.bipush n, 2)) (hv : (Int8.ofInt n).toInt32 = iZ n) (k : yN Y cn (pc + 2) ls (.int (iZ n) :: st) m7 m8) : yN Y cn pc ls st m7 m8 :=
  fun hc H locs la hl hW hS hR h7 r7 => lv_bipush hF.e hF.b hd hv (k hc H locs la hl hW hS hR h7 r7)
theorem p_sipush (hF : yF Y L xs ρ x sa) {n : Int} (hd : decode cL_law pc = .ok (.sipush n, 3)) (hv : (Int16.ofInt n).toInt32 = iZ n) (k : yN Y cn (pc + 3) ls (.int (iZ n) :: st) m7 m8) : yN Y cn pc ls st m7 m8 :=
  fun hc H locs la hl hW hS hR h7 r7 => lv_sipush hF.e hF.b hd hv (k hc H locs la hl hW hS hR h7 r7)
theorem p_iload_n (hF : yF Y L xs ρ x sa) {n : Fin 4} {i : Nat} {x : Int32} (hd : decode cL_law pc = .ok (.iload_n n, 1)) (j : Nat) (hl : ls[j]? = some (i, .int x)) (hi : (n : Nat) = i) (k : yN Y cn (pc + 1) ls (.int x :: st) m7 m8) : yN Y cn pc ls st m7 m8 :=
  fun hc H locs la hh hW hS hR h7 r7 => lv_iload_n hF.e hF.b hd hi (lv_at hh j hl) (k hc H locs la hh hW hS hR h7 r7)
theorem p_iload (hF : yF Y L xs ρ x sa) {i : Nat} {x : Int32} (hd : decode cL_law pc = .ok (.iload i, 2)) (j : Nat) (hl : ls[j]? = some (i, .int x)) (k : yN Y cn (pc + 2) ls (.int x :: st) m7 m8) : yN Y cn pc ls st m7 m8 :=
  fun hc H locs la hh hW hS hR h7 r7 => lv_iload hF.e hF.b hd (lv_at hh j hl) (k hc H locs la hh hW hS hR h7 r7)
theorem p_aload_n (hF : yF Y L xs ρ x sa) {n : Fin 4} {i x : Nat} (hd : decode cL_law pc = .ok (.aload_n n, 1)) (j : Nat) (hl : ls[j]? = some (i, .ref x)) (hi : (n : Nat) = i) (k : yN Y cn (pc + 1) ls (.ref x :: st) m7 m8) : yN Y cn pc ls st m7 m8 :=
  fun hc H locs la hh hW hS hR h7 r7 => lv_aload_n hF.e hF.b hd hi (lv_at hh j hl) (k hc H locs la hh hW hS hR h7 r7)
theorem p_aload (hF : yF Y L xs ρ x sa) {i x : Nat} (hd : decode cL_law pc = .ok (.aload i, 2)) (j : Nat) (hl : ls[j]? = some (i, .ref x)) (k : yN Y cn (pc + 2) ls (.ref x :: st) m7 m8) : yN Y cn pc ls st m7 m8 :=
  fun hc H locs la hh hW hS hR h7 r7 => lv_aload hF.e hF.b hd (lv_at hh j hl) (k hc H locs la hh hW hS hR h7 r7)
theorem p_istore_n (hF : yF Y L xs ρ x sa) {n : Fin 4} {i : Nat} {x : Int32} (hd : decode cL_law pc = .ok (.istore_n n, 1)) (hi : (n : Nat) = i) (hn : Nat.ble (i + 1) 21 = true) (hq : (i, Value.int x) :: ls.filter (fun q => !(q.1 == i) && !(q.1 + 1 == i && q.2.category == 2)) = ls') (k : yN Y cn (pc + 1) ls' st m7 m8) : yN Y cn pc ls (.int x :: st) m7 m8 :=
  fun hc H locs la hh hW hS hR h7 r7 => lv_istore_n hF.e hF.b hd hi hh (Nat.le_of_ble_eq_true hn) hq (fun la' hl => k hc H locs la' hl hW hS hR h7 r7)
theorem p_istore (hF : yF Y L xs ρ x sa) {i : Nat} {x : Int32} (hd : decode cL_law pc = .ok (.istore i, 2)) (hn : Nat.ble (i + 1) 21 = true) (hq : (i, Value.int x) :: ls.filter (fun q => !(q.1 == i) && !(q.1 + 1 == i && q.2.category == 2)) = ls') (k : yN Y cn (pc + 2) ls' st m7 m8) : yN Y cn pc ls (.int x :: st) m7 m8 :=
  fun hc H locs la hh hW hS hR h7 r7 => lv_istore hF.e hF.b hd hh (Nat.le_of_ble_eq_true hn) hq (fun la' hl => k hc H locs la' hl hW hS hR h7 r7)
theorem p_astore_n (hF : yF Y L xs ρ x sa) {n : Fin 4} {i x : Nat} (hd : decode cL_law pc = .ok (.astore_n n, 1)) (hi : (n : Nat) = i) (hn : Nat.ble (i + 1) 21 = true) (hq : (i, Value.ref x) :: ls.filter (fun q => !(q.1 == i) && !(q.1 + 1 == i && q.2.category == 2)) = ls') (k : yN Y cn (pc + 1) ls' st m7 m8) : yN Y cn pc ls (.ref x :: st) m7 m8 :=
  fun hc H locs la hh hW hS hR h7 r7 => lv_astore_n hF.e hF.b hd hi hh (Nat.le_of_ble_eq_true hn) hq (fun la' hl => k hc H locs la' hl hW hS hR h7 r7)
theorem p_astore (hF : yF Y L xs ρ x sa) {i x : Nat} (hd : decode cL_law pc = .ok (.astore i, 2)) (hn : Nat.ble (i + 1) 21 = true) (hq : (i, Value.ref x) :: ls.filter (fun q => !(q.1 == i) && !(q.1 + 1 == i && q.2.category == 2)) = ls') (k : yN Y cn (pc + 2) ls' st m7 m8) : yN Y cn pc ls (.ref x :: st) m7 m8 :=
  fun hc H locs la hh hW hS hR h7 r7 => lv_astore hF.e hF.b hd hh (Nat.le_of_ble_eq_true hn) hq (fun la' hl => k hc H locs la' hl hW hS hR h7 r7)
theorem p_iinc (hF : yF Y L xs ρ x sa) {i : Nat} {n x v : Int} (hd : decode cL_law pc = .ok (.iinc i n, 3)) (j : Nat) (hl : ls[j]? = some (i, .int (iZ x))) (hv : v = x + n) (hn : Nat.ble (i + 1) 21 = true) (hq : (i, Value.int (iZ v)) :: ls.filter (fun q => !(q.1 == i) && !(q.1 + 1 == i && q.2.category == 2)) = ls') (k : yN Y cn (pc + 3) ls' st m7 m8) : yN Y cn pc ls st m7 m8 :=
  fun hc H locs la hh hW hS hR h7 r7 => lv_iinc hF.e hF.b hd hh hl (by rw [hv]; exact iZ_add x n) (Nat.le_of_ble_eq_true hn) hq (fun la' hl => k hc H locs la' hl hW hS hR h7 r7)
theorem p_iadd (hF : yF Y L xs ρ x sa) {a b v : Int} (hd : decode cL_law pc = .ok (.iadd, 1)) (hv : v = a + b) (k : yN Y cn (pc + 1) ls (.int (iZ v) :: st) m7 m8) : yN Y cn pc ls (.int (iZ b) :: .int (iZ a) :: st) m7 m8 :=
  fun hc H locs la hh hW hS hR h7 r7 => lv_iadd hF.e hF.b hd (by rw [iZ_add, ← hv]; exact k hc H locs la hh hW hS hR h7 r7)
theorem p_isub (hF : yF Y L xs ρ x sa) {a b v : Int} (hd : decode cL_law pc = .ok (.isub, 1)) (hv : v = a - b) (k : yN Y cn (pc + 1) ls (.int (iZ v) :: st) m7 m8) : yN Y cn pc ls (.int (iZ b) :: .int (iZ a) :: st) m7 m8 :=
  fun hc H locs la hh hW hS hR h7 r7 => lv_isub hF.e hF.b hd (by rw [iZ_sub, ← hv]; exact k hc H locs la hh hW hS hR h7 r7)
theorem p_ineg (hF : yF Y L xs ρ x sa) {a v : Int} (hd : decode cL_law pc = .ok (.ineg, 1)) (hv : v = -a) (k : yN Y cn (pc + 1) ls (.int (iZ v) :: st) m7 m8) : yN Y cn pc ls (.int (iZ a) :: st) m7 m8 :=
  fun hc H locs la hh hW hS hR h7 r7 => lv_ineg hF.e hF.b hd (by have h := iZ_neg a; rw [← hv] at h; first | (rw [h]; exact k hc H locs la hh hW hS hR h7 r7) | (have h2 : (0 : Int32) - iZ a = iZ v := by (rw [← h]; simp); rw [h2]; exact k hc H locs la hh hW hS hR h7 r7))
theorem p_i2l (hF : yF Y L xs ρ x sa) {a : Int} (ra : in32 a) (hd : decode cL_law pc = .ok (.i2l, 1)) (k : yN Y cn (pc + 1) ls (.long (lZ a) :: st) m7 m8) : yN Y cn pc ls (.int (iZ a) :: st) m7 m8 :=
  fun hc H locs la hh hW hS hR h7 r7 => lv_i2l hF.e hF.b hd (iZ_i2l ra) (k hc H locs la hh hW hS hR h7 r7)
theorem p_l2i (hF : yF Y L xs ρ x sa) {a : Int} (hd : decode cL_law pc = .ok (.l2i, 1)) (k : yN Y cn (pc + 1) ls (.int (iZ a) :: st) m7 m8) : yN Y cn pc ls (.long (lZ a) :: st) m7 m8 :=
  fun hc H locs la hh hW hS hR h7 r7 => lv_l2i hF.e hF.b hd (lZ_l2i a) (k hc H locs la hh hW hS hR h7 r7)
theorem p_lmul (hF : yF Y L xs ρ x sa) {a b v : Int} (hd : decode cL_law pc = .ok (.lmul, 1)) (hv : v = a * b) (k : yN Y cn (pc + 1) ls (.long (lZ v) :: st) m7 m8) : yN Y cn pc ls (.long (lZ b) :: .long (lZ a) :: st) m7 m8 :=
  fun hc H locs la hh hW hS hR h7 r7 => lv_lmul hF.e hF.b hd (by rw [lZ_mul, ← hv]; exact k hc H locs la hh hW hS hR h7 r7)
theorem p_ldiv (hF : yF Y L xs ρ x sa) {a b v : Int} (ra : in64 a) (rb : in64 b) (h0 : ¬ b = 0) (hd : decode cL_law pc = .ok (.ldiv, 1)) (hv : v = a.tdiv b) (k : yN Y cn (pc + 1) ls (.long (lZ v) :: st) m7 m8) : yN Y cn pc ls (.long (lZ b) :: .long (lZ a) :: st) m7 m8 :=
  fun hc H locs la hh hW hS hR h7 r7 => lv_ldiv hF.e hF.b hd (fun e => h0 ((lZ_inj rb (by decide)).mp e)) (by rw [lZ_div ra rb, ← hv]; exact k hc H locs la hh hW hS hR h7 r7)
theorem p_icmp_ne (hF : yF Y L xs ρ x sa) {a b : Int} (ra : in32 a) (rb : in32 b) {off : Int} (tgt : Nat) (hd : decode cL_law pc = .ok (.if_icmp .ne off, 3)) (ht : (pc : Int) + off = (tgt : Int)) (kt : ¬ a = b → yN Y cn tgt ls st m7 m8) (kf : a = b → yN Y cn (pc + 3) ls st m7 m8) : yN Y cn pc ls (.int (iZ b) :: .int (iZ a) :: st) m7 m8 :=
  fun hc H locs la hh hW hS hR h7 r7 => lv_icmp_ne hF.e hF.b hd ht (fun h => kt (by have e := iZ_inj ra rb; first | exact e.mp h | exact fun q => h (e.mpr q) | exact fun q => absurd (e.mpr q) (Int32.not_lt.mpr h)) hc H locs la hh hW hS hR h7 r7) (fun h => kf (by have e := iZ_inj ra rb; first | exact e.mp h | exact fun q => h (e.mpr q) | exact e.mp (Int32.not_le.mp h) | exact Classical.byContradiction (fun q => h (fun z => q (e.mp z)))) hc H locs la hh hW hS hR h7 r7)
theorem p_icmp_eq (hF : yF Y L xs ρ x sa) {a b : Int} (ra : in32 a) (rb : in32 b) {off : Int} (tgt : Nat) (hd : decode cL_law pc = .ok (.if_icmp .eq off, 3)) (ht : (pc : Int) + off = (tgt : Int)) (kt : a = b → yN Y cn tgt ls st m7 m8) (kf : ¬ a = b → yN Y cn (pc + 3) ls st m7 m8) : yN Y cn pc ls (.int (iZ b) :: .int (iZ a) :: st) m7 m8 :=
  fun hc H locs la hh hW hS hR h7 r7 => lv_icmp_eq hF.e hF.b hd ht (fun h => kt (by have e := iZ_inj ra rb; first | exact e.mp h | exact fun q => h (e.mpr q) | exact fun q => absurd (e.mpr q) (Int32.not_lt.mpr h)) hc H locs la hh hW hS hR h7 r7) (fun h => kf (by have e := iZ_inj ra rb; first | exact e.mp h | exact fun q => h (e.mpr q) | exact e.mp (Int32.not_le.mp h) | exact Classical.byContradiction (fun q => h (fun z => q (e.mp z)))) hc H locs la hh hW hS hR h7 r7)
theorem p_icmp_ge (hF : yF Y L xs ρ x sa) {a b : Int} (ra : in32 a) (rb : in32 b) {off : Int} (tgt : Nat) (hd : decode cL_law pc = .ok (.if_icmp .ge off, 3)) (ht : (pc : Int) + off = (tgt : Int)) (kt : ¬ a < b → yN Y cn tgt ls st m7 m8) (kf : a < b → yN Y cn (pc + 3) ls st m7 m8) : yN Y cn pc ls (.int (iZ b) :: .int (iZ a) :: st) m7 m8 :=
  fun hc H locs la hh hW hS hR h7 r7 => lv_icmp_ge hF.e hF.b hd ht (fun h => kt (by have e := iZ_lt ra rb; first | exact e.mp h | exact fun q => h (e.mpr q) | exact fun q => absurd (e.mpr q) (Int32.not_lt.mpr h)) hc H locs la hh hW hS hR h7 r7) (fun h => kf (by have e := iZ_lt ra rb; first | exact e.mp h | exact fun q => h (e.mpr q) | exact e.mp (Int32.not_le.mp h) | exact Classical.byContradiction (fun q => h (fun z => q (e.mp z)))) hc H locs la hh hW hS hR h7 r7)
theorem p_icmp_le (hF : yF Y L xs ρ x sa) {a b : Int} (ra : in32 a) (rb : in32 b) {off : Int} (tgt : Nat) (hd : decode cL_law pc = .ok (.if_icmp .le off, 3)) (ht : (pc : Int) + off = (tgt : Int)) (kt : ¬ b < a → yN Y cn tgt ls st m7 m8) (kf : b < a → yN Y cn (pc + 3) ls st m7 m8) : yN Y cn pc ls (.int (iZ b) :: .int (iZ a) :: st) m7 m8 :=
  fun hc H locs la hh hW hS hR h7 r7 => lv_icmp_le hF.e hF.b hd ht (fun h => kt (by have e := iZ_lt rb ra; first | exact e.mp h | exact fun q => h (e.mpr q) | exact fun q => absurd (e.mpr q) (Int32.not_lt.mpr h)) hc H locs la hh hW hS hR h7 r7) (fun h => kf (by have e := iZ_lt rb ra; first | exact e.mp h | exact fun q => h (e.mpr q) | exact e.mp (Int32.not_le.mp h) | exact Classical.byContradiction (fun q => h (fun z => q (e.mp z)))) hc H locs la hh hW hS hR h7 r7)
theorem p_if_eq (hF : yF Y L xs ρ x sa) {a : Int} (ra : in32 a) {off : Int} (tgt : Nat) (hd : decode cL_law pc = .ok (.ifCond .eq off, 3)) (ht : (pc : Int) + off = (tgt : Int)) (kt : a = 0 → yN Y cn tgt ls st m7 m8) (kf : ¬ a = 0 → yN Y cn (pc + 3) ls st m7 m8) : yN Y cn pc ls (.int (iZ a) :: st) m7 m8 :=
  fun hc H locs la hh hW hS hR h7 r7 => lv_if_eq hF.e hF.b hd ht (fun h => kt (by have e := iZ_inj ra z32_0; first | exact e.mp h | exact fun q => h (e.mpr q) | exact fun q => absurd (e.mpr q) (Int32.not_lt.mpr h)) hc H locs la hh hW hS hR h7 r7) (fun h => kf (by have e := iZ_inj ra z32_0; first | exact e.mp h | exact fun q => h (e.mpr q) | exact e.mp (Int32.not_le.mp h) | exact Classical.byContradiction (fun q => h (fun z => q (e.mp z)))) hc H locs la hh hW hS hR h7 r7)
theorem p_if_ne (hF : yF Y L xs ρ x sa) {a : Int} (ra : in32 a) {off : Int} (tgt : Nat) (hd : decode cL_law pc = .ok (.ifCond .ne off, 3)) (ht : (pc : Int) + off = (tgt : Int)) (kt : ¬ a = 0 → yN Y cn tgt ls st m7 m8) (kf : a = 0 → yN Y cn (pc + 3) ls st m7 m8) : yN Y cn pc ls (.int (iZ a) :: st) m7 m8 :=
  fun hc H locs la hh hW hS hR h7 r7 => lv_if_ne hF.e hF.b hd ht (fun h => kt (by have e := iZ_inj ra z32_0; first | exact e.mp h | exact fun q => h (e.mpr q) | exact fun q => absurd (e.mpr q) (Int32.not_lt.mpr h)) hc H locs la hh hW hS hR h7 r7) (fun h => kf (by have e := iZ_inj ra z32_0; first | exact e.mp h | exact fun q => h (e.mpr q) | exact e.mp (Int32.not_le.mp h) | exact Classical.byContradiction (fun q => h (fun z => q (e.mp z)))) hc H locs la hh hW hS hR h7 r7)
theorem p_if_lt (hF : yF Y L xs ρ x sa) {a : Int} (ra : in32 a) {off : Int} (tgt : Nat) (hd : decode cL_law pc = .ok (.ifCond .lt off, 3)) (ht : (pc : Int) + off = (tgt : Int)) (kt : a < 0 → yN Y cn tgt ls st m7 m8) (kf : ¬ a < 0 → yN Y cn (pc + 3) ls st m7 m8) : yN Y cn pc ls (.int (iZ a) :: st) m7 m8 :=
  fun hc H locs la hh hW hS hR h7 r7 => lv_if_lt hF.e hF.b hd ht (fun h => kt (by have e := iZ_lt ra z32_0; first | exact e.mp h | exact fun q => h (e.mpr q) | exact fun q => absurd (e.mpr q) (Int32.not_lt.mpr h)) hc H locs la hh hW hS hR h7 r7) (fun h => kf (by have e := iZ_lt ra z32_0; first | exact e.mp h | exact fun q => h (e.mpr q) | exact e.mp (Int32.not_le.mp h) | exact Classical.byContradiction (fun q => h (fun z => q (e.mp z)))) hc H locs la hh hW hS hR h7 r7)
theorem p_if_le (hF : yF Y L xs ρ x sa) {a : Int} (ra : in32 a) {off : Int} (tgt : Nat) (hd : decode cL_law pc = .ok (.ifCond .le off, 3)) (ht : (pc : Int) + off = (tgt : Int)) (kt : ¬ 0 < a → yN Y cn tgt ls st m7 m8) (kf : 0 < a → yN Y cn (pc + 3) ls st m7 m8) : yN Y cn pc ls (.int (iZ a) :: st) m7 m8 :=
  fun hc H locs la hh hW hS hR h7 r7 => lv_if_le hF.e hF.b hd ht (fun h => kt (by have e := iZ_lt z32_0 ra; first | exact e.mp h | exact fun q => h (e.mpr q) | exact fun q => absurd (e.mpr q) (Int32.not_lt.mpr h)) hc H locs la hh hW hS hR h7 r7) (fun h => kf (by have e := iZ_lt z32_0 ra; first | exact e.mp h | exact fun q => h (e.mpr q) | exact e.mp (Int32.not_le.mp h) | exact Classical.byContradiction (fun q => h (fun z => q (e.mp z)))) hc H locs la hh hW hS hR h7 r7)
theorem p_goto (hF : yF Y L xs ρ x sa) {off : Int} (tgt : Nat) (hd : decode cL_law pc = .ok (.goto off, 3)) (ht : (pc : Int) + off = (tgt : Int)) (k : yN Y cn tgt ls st m7 m8) : yN Y cn pc ls st m7 m8 :=
  fun hc H locs la hh hW hS hR h7 r7 => lv_goto hF.e hF.b hd ht (k hc H locs la hh hW hS hR h7 r7)
theorem p_l2iv (hF : yF Y L xs ρ x sa) {a v : Int} (hd : decode cL_law pc = .ok (.l2i, 1)) (hv : v = a) (k : yN Y cn (pc + 1) ls (.int (iZ v) :: st) m7 m8) : yN Y cn pc ls (.long (lZ a) :: st) m7 m8 := by
  subst hv
  exact p_l2i hF hd k
theorem p_iald (hF : yF Y L xs ρ x sa) {a : Nat} {i v : Int} (n : Nat) (hd : decode cL_law pc = .ok (.iaload, 1)) (ha : gK (y8 Y) a = 1000 + n) (hn : n < 1000) (hi : 0 ≤ i ∧ i < (n : Int)) (hv : v = gA m8 a i.toNat) (kk : yN Y cn (pc + 1) ls (.int (iZ v) :: st) m7 m8) : yN Y cn pc ls (.int (iZ i) :: .ref a :: st) m7 m8 := by
  intro hc H locs la hh hW hS hR h7 r7
  obtain ⟨q, hq⟩ := qg_at (μ := m8) (hF.T8.l ha (by omega))
  rw [qE_int ha hn] at hq
  obtain ⟨h1, h2⟩ := vp_in_Z hi hn
  refine va_iald hF.e hF.b hF.X8.K hW.1 q 0 hq rfl h1 hd ?_
  rw [h2, ← hv]
  exact kk hc H locs la hh hW hS hR h7 r7
theorem p_aaldR (hF : yF Y L xs ρ x sa) {a o : Nat} {i : Int} (n : Nat) (hd : decode cL_law pc = .ok (.aaload, 1)) (ha : gK (y8 Y) a = 5000 + n) (hn : n < 1000) (hi : 0 ≤ i ∧ i < (n : Int)) (hv : gQ m8 a i.toNat = some o) (kk : yN Y cn (pc + 1) ls (.ref o :: st) m7 m8) : yN Y cn pc ls (.int (iZ i) :: .ref a :: st) m7 m8 := by
  intro hc H locs la hh hW hS hR h7 r7
  obtain ⟨q, hq⟩ := qg_at (μ := m8) (hF.T8.l ha (by omega))
  rw [qE_row ha hn] at hq
  obtain ⟨h1, h2⟩ := vp_in_Z hi hn
  have hlt : (iZ i).toNatClampNeg < n := Nat.not_le.mp fun q => h1 (Or.inr q)
  have hK := hF.X8.K
  refine W.aald (v := va_rf (gQ m8 a (iZ i).toNatClampNeg)) (ty := .array .int) hF.e hF.b (hW.1 q _ hq) ((hK.2 4 _ rfl).1 n (fun j => va_rf (gQ m8 a j))) rfl (fun q => by cases q) (by show ¬ (iZ i < 0 ∨ (arrV _ _ _).slots.size ≤ _); rw [arrV_size]; exact h1) (by show (arrV _ _ _).slots[_]? = _; rw [arrV_read _ _ hlt]) rfl rfl hd ?_
  rw [h2, hv]
  exact kk hc H locs la hh hW hS hR h7 r7
theorem va_P.l {D : va_G} {cl : List vw_C} {X Z : va_W} {H : Heap} (h : va_P D cl (X ++ Z) H) : va_P D cl X H := fun k q hk => h k q (by rw [List.getElem?_append_left (List.getElem?_eq_some_iff.mp hk).1]; exact hk)
theorem va_P.r {D : va_G} {cl : List vw_C} {X Z : va_W} {H : Heap} (h : va_P D cl (X ++ Z) H) : va_P D cl Z H := fun k q hk => h (X.length + k) q (by rw [List.getElem?_append_right (Nat.le_add_right _ _), Nat.add_sub_cancel_left]; exact hk)
/-- both worlds in one list of cells -/
theorem pl_mem {G : qG} {f : Nat → va_E} {k : Nat} {q : Nat × va_E} (h : (va_pl (gL G) f)[k]? = some q) : q.1 ∈ gL G := by
  unfold va_pl at h
  obtain ⟨a, ha, rfl⟩ := List.mem_map.mp (List.mem_of_getElem? h)
  exact ha
theorem p_both (hF : yF Y L xs ρ x sa) {H : Heap} (h7 : qW (y7 Y) m7 H) (h8 : qW (y8 Y) m8 H) : va_P (gD (y8 Y)) vwCl (va_pl (gL (y7 Y)) (qE (y7 Y) m7) ++ va_pl (gL (y8 Y)) (qE (y8 Y) m8)) H ∧ va_D (fun q => (ys Y).heap.size ≤ q) (va_pl (gL (y7 Y)) (qE (y7 Y) m7) ++ va_pl (gL (y8 Y)) (qE (y8 Y) m8)) := by
  refine ⟨va_P.app (by rw [← hF.D]; exact h7.1) h8.1, va_D.app (va_pl_in h7.2 (fun a h => (hF.d7 a h).1)) (va_pl_in h8.2 (fun a h => hF.d8 a h)) (fun i j p q hp hq e => (hF.d7 p.1 (pl_mem hp)).2 (by rw [e]; exact pl_mem hq))⟩
set_option maxRecDepth 20000 in
theorem p_iast (hF : yF Y L xs ρ x sa) {a : Nat} {i v : Int} {ν : qM} (n : Nat) (hd : decode cL_law pc = .ok (.iastore, 1)) (ha : gK (y8 Y) a = 1000 + n) (hn : n < 1000) (hi : 0 ≤ i ∧ i < (n : Int)) (hR0 : qR (y8 Y) m8) (hv : in32 v) (hν : ν = sA m8 a i.toNat v) (kk : qR (y8 Y) ν → yN Y cn (pc + 1) ls st m7 ν) : yN Y cn pc ls (.int (iZ v) :: .int (iZ i) :: .ref a :: st) m7 m8 := by
  intro hc H locs la hh hW hS hR h7 r7
  subst hν
  have hL := hF.T8.l ha (by omega)
  obtain ⟨q, hq0⟩ := qg_at (μ := m8) hL
  obtain ⟨hP, hD⟩ := p_both hF h7 hW
  have hqq : (va_pl (gL (y7 Y)) (qE (y7 Y) m7) ++ va_pl (gL (y8 Y)) (qE (y8 Y) m8))[(va_pl (gL (y7 Y)) (qE (y7 Y) m7)).length + q]? = some (a, .inl ((gC (y8 Y)).1, n, .inl (fun i => iZ (gA m8 a i)))) := by
    rw [List.getElem?_append_right (Nat.le_add_right _ _), Nat.add_sub_cancel_left, hq0, qE_int ha hn]
  obtain ⟨h1, h2⟩ := vp_in_Z hi hn
  refine va_iast hF.e hF.b hF.X8.K hP hD hS _ 0 hqq rfl h1 hd (fun H1 locs1 hP1 hD1 hS1 => ?_)
  have hR1 : qR (y8 Y) (sA m8 a i.toNat v) := qR_sA hR0 (by unfold qra; rw [show gK (y8 Y) a / 1000 = 1 by omega]; exact hv)
  rw [List.set_append_right _ _ (Nat.le_add_right _ _), Nat.add_sub_cancel_left] at hP1
  refine kk hR1 hc H1 locs1 la hh (qW_set hW.2 hq0 hL ?_ (fun b h => qE_sAo h) hP1.r) hS1 hR1 ⟨by rw [hF.D]; exact hP1.l, h7.2⟩ r7
  rw [qE_int ha hn, h2]
  congr 4
  funext j
  simp only [upd, gA_sA]
  by_cases e : j = i.toNat <;> simp [e]
theorem p_min (hF : yF Y L xs ρ x sa) {a b v : Int} (ra : in32 a) (rb : in32 b) (hd : decode cL_law pc = .ok (.invokestatic 42, 3)) (hrm : Nat.ble ((st.map fun v => v.category).sum + 13) 340 = true) (hv : v = min a b) (kk : yN Y cn (pc + 3) ls (.int (iZ v) :: st) m7 m8) : yN Y cn pc ls (.int (iZ b) :: .int (iZ a) :: st) m7 m8 := by
  intro hc H locs la hh hW hS hR h7 r7
  have hX := hF.X8
  have ok := hX.2.2.2.2.1
  refine va_mmin hX.1 hX.2.1 (hX.2.2.1.trans hh.1.symm) hX.2.2.2.1 (ok (Cond.methodLink RL 42 Lib.Math.min.name) (by decide +kernel)) (ok (Cond.static Lib.Math.min.name) (by decide +kernel)) (ok (Cond.initialized "java/lang/Math") (by decide +kernel)) (ok (Cond.code Lib.Math.min.name Lib.Math.min.code 2 (some .int)) (by decide +kernel)) (by decide) (Nat.le_of_ble_eq_true hrm) (p_cl hc).1 (p_cl hc).2 hd ?_
  have e : (if iZ b < iZ a then iZ b else iZ a) = iZ v := by
    rw [hv]
    by_cases h : b < a
    · rw [Int.min_eq_right (Int.le_of_lt h), if_pos ((iZ_lt rb ra).mpr h)]
    · rw [Int.min_eq_left (Int.not_lt.mp h), if_neg (fun q => h ((iZ_lt rb ra).mp q))]
  rw [e]
  exact kk hc H locs la hh hW hS hR h7 r7
/-- a call of the class -/
theorem p_call7 (hF : yF Y L xs ρ x sa) {index : Nat} {y : MethodName} {ws ws' : List Cond} {bytes : ByteArray} {maxL : Nat} {ret' : Option FieldType} {fr' lo' : Nat} {r : Int} (As As' : List Value) {Φ : Prop} {ν : qM} (n : Nat)
    (hd : decode cL_law pc = .ok (.invokevirtual index, 3)) (hG : GoodIn wsM_law (wsV RL index RX7 y ws)) (hw : ws = Cond.code y bytes maxL ret' :: ws')
    (hdd : y.cls = RX7 ∧ y.cls ≠ "java/lang/invoke/MethodHandle" ∧ y.cls ≠ "java/lang/invoke/VarHandle" ∧ (parseMethodDescriptor y.desc).map (fun d => d.parameters.length) = some n) (hrm : Nat.ble (fr' + 1) 10 = true ∧ Nat.ble (8 + (maxL + 11) + lo') 340 = true)
    (hn : As.length = n) (hs : As' = As.reverse) (hst : Nat.ble ((st.map fun v => v.category).sum) 8 = true) (hM : qC (yl Y) y ws fr' lo' (y7 Y) (.ref x :: As) m7 (some (.int (iZ r))) Φ ν)
    (k : Φ → qR (y7 Y) ν → yN Y cn (pc + 3) ls (.int (iZ r) :: st) ν m8) : yN Y cn pc ls (As' ++ .ref x :: st) m7 m8 := by
  intro hc H locs la hh hW hS hR h7 r7
  exact qw_callV (X := lX Y (y7 Y)) hF.X7 As As' n hd hG hw hdd hrm hn (ci := 7) rfl (by decide) hF.k7 hs hst (p_cl hc) hh h7 hS (fun q h => (hF.d7 q h).1) (fun q h => h) (l_hold hS) r7 hM (fun hΦ H1 locs1 hW1 _ hk hS1 hR1 => k hΦ hR1 hc H1 locs1 la hh (hW.kept (fun q hq hm => hk q hq (fun z => (hF.d7 q z).2 hm))) hS1 hR hW1 hR1)
/-- a call of the law's size, where the class answers -/
theorem p_callL (hF : yF Y L xs ρ x sa) {k r : Int} {Φ : Prop} (hd : decode cL_law pc = .ok (.invokestatic 54, 3)) (hst : Nat.ble ((st.map fun v => v.category).sum) 8 = true) (hM : qC (yl Y) yL_size wsM_size 7 115 (y7 Y) [.ref x, .int (iZ k)] m7 (some (.int (iZ r))) Φ m7)
    (kk : Φ → yN Y cn (pc + 3) ls (.int (iZ r) :: st) m7 m8) : yN Y cn pc ls (.int (iZ k) :: .ref x :: st) m7 m8 := by
  intro hc H locs la hh hW hS hR h7 r7
  exact qw_callSW (X := lX Y (y7 Y)) hF.X7 [.ref x, .int (iZ k)] [.int (iZ k), .ref x] 2 hd gL_law_L_size rfl dd_L_size ⟨rfl, rfl⟩ rfl rfl hst (p_cl hc) hh h7 hS (fun q h => (hF.d7 q h).1) (fun q h => h) (l_hold hS) r7 hM (fun hΦ H1 locs1 hW1 _ hk hS1 hR1 => kk hΦ hc H1 locs1 la hh (hW.kept (fun q hq hm => hk q hq (fun z => (hF.d7 q z).2 hm))) hS1 hR hW1 hR1)
/-- and where it throws -/
theorem p_callX (hF : yF Y L xs ρ x sa) {k : Int} (hcn : cn < 1000) (hd : decode cL_law pc = .ok (.invokestatic 54, 3)) (hst : Nat.ble ((st.map fun v => v.category).sum) 8 = true) (hM : xL (yl Y) yL_size wsM_size (y7 Y) [.ref x, .int (iZ k)] m7 sa)
    (kk : yN Y (cn + 1) (pc + 3) ls (.int (iZ 0) :: st) m7 m8) : yN Y cn pc ls (.int (iZ k) :: .ref x :: st) m7 m8 := by
  intro hc H locs la hh hW hS hR h7 r7
  have hX := hF.X7
  have hA' : ∀ q, qA (y7 Y) H.size q → (ys Y).heap.size ≤ q := fun q h => h.elim (fun h => (hF.d7 q h).1) (fun h => Nat.le_trans hS.1 h)
  refine va_calli (vx_runSW (As := [.ref x, .int (iZ k)]) (rest := st) ⟨hX.1, hX.2.1, hX.2.2.1, hX.2.2.2.1, hX.2.2.2.2.1⟩ (hM H.size) (vx_cwSW 2 hX.2.2.2.2.1 gL_law_L_size rfl rfl rfl dd_L_size ⟨by show 7 + 1 ≤ 10; decide, by decide⟩) ⟨x_blind, fun U hU hWm => ⟨rfl, by rw [hU], ⟨by rw [hU]; exact h7, va_K.moved hWm.alike hX.K, r7, hX.Z.keep hWm (fun q h1 h2 => by rw [hU]; exact l_hold hS q h1 h2)⟩, hF.xz.keep hWm (fun q h1 h2 => by rw [hU]; exact l_hold hS q h1 h2)⟩⟩ rfl rfl hh.1 rfl (lv_room (Nat.le_of_ble_eq_true hst)) hd ⟨by show 1000 + cn + 1 ≤ 600074; omega, by show 60000 + 6 * cn + 6 ≤ 7301550; omega⟩) hS (fun q _ h => hA' q h) (fun q h => hA' q h) (fun r u t H1 locs1 ht hvm hw1 hB hz hk hS1 => ?_)
  rw [ht] at hB
  have hw1 : r = 0 := hw1
  subst hw1
  exact kk (by omega) H1 locs1 la hh (hW.kept (fun q hq hm => hk q hq (fun z => z.elim (fun z => (hF.d7 q z).2 hm) (fun z => absurd hq (Nat.not_lt.mpr z))))) hS1 hR hB r7
/-- an int below n, out of the script -/
theorem p_some (hF : yF Y L xs ρ x sa) {k n : Int} (hk : 0 ≤ k ∧ k < 1000) (hn : 0 < n ∧ n < 10000) (hd : decode cL_law pc = .ok (.invokestatic 18, 3)) (hst : Nat.ble ((st.map fun v => v.category).sum) 8 = true)
    (kk : yN Y cn (pc + 3) ls (.int (iZ (sSome xs L k n)) :: st) m7 m8) : yN Y cn pc ls (.int (iZ n) :: .int (iZ k) :: .ref (ya Y) :: st) m7 m8 := by
  intro hc H locs la hh hW hS hR h7 r7
  have hX := hF.X7
  obtain ⟨-, -, -, -, -, -, hXs, hbl, -, -⟩ := id hF.1
  refine va_calli (va_runS (As := [.ref (ya Y), .int (iZ k), .int (iZ n)]) (rest := st) ⟨hX.1, hX.2.1, hX.2.2.1, hX.2.2.2.1, hX.2.2.2.2.1⟩ (c_L_some (yl Y) hF.2.1 hk hn H.size) (va_cwS 3 hX.2.2.2.2.1 (goodIn_l gL_law_L_some) rfl rfl rfl dd_L_some ⟨by decide, by decide⟩) ⟨s_blind, fun U hU hWm => ⟨rfl, by rw [hU], by rw [hU]; exact (hXs.moved hWm.alike).kept (hS.2.1 _ hbl (Nat.not_le.mpr hbl)), Nat.lt_of_lt_of_le hbl hS.1⟩⟩ rfl rfl hh.1 rfl (lv_room (Nat.le_of_ble_eq_true hst)) hd (p_cl hc)) hS (fun q _ h => Nat.le_trans hS.1 h) (fun q h => Nat.le_trans hS.1 h) (fun r u t H1 locs1 ht hvm hp _ hz hk1 hS1 => ?_)
  have hp : r = iZ (sSome xs L k n) := hp
  subst hp
  exact kk hc H1 locs1 la hh (hW.kept (fun q hq _ => hk1 q hq (Nat.not_le.mpr hq))) hS1 hR (h7.kept (fun q hq _ => hk1 q hq (Nat.not_le.mpr hq))) r7
/-- the law's end, with 1 -/
theorem p_ret (hF : yF Y L xs ρ x sa) (hd : decode cL_law pc = .ok (.ireturn, 1)) : yN Y cn pc ls [.int (iZ 1)] m7 m8 := by
  intro hc H locs la hh hW hS hR h7 r7
  obtain ⟨hx, hb, hr, -, -, -, -, -, hk, -⟩ := id hF.1
  refine W.widen (p_cl hc).1 (p_cl hc).2 (va_forget hS.2.2 ?_)
  exact lw_ret hx hb hr hk hd
end PROWS
